/-! THE REFERENCE: looking -/
def op_knG (s : ZSt) : Nat → Nat → Int32 → Int32
  | 0, _, m => m
  | n + 1, k, m => op_knG s n (k + 1) (m + (if sp_wd s k = -100009 then 0 else 1))
def op_foG (s : ZSt) (x : Int32) : Nat → Nat → Int32 → Int32
  | 0, _, m => m
  | n + 1, c, m => op_foG s x n (c + 1) (m + (if s (38 + 8 * c + 1) = x then 1 else 0))
def zs_flG (c : Nat → Int32) : Nat → Nat → Int32 → Int32 → Int32 × Int32
  | 0, _, f, t => (f, t)
  | n + 1, k, f, t => zs_flG c n (k + 1) (if c (60 * k) ≠ -100009 ∧ f = -100009 then zs_t (60 * k) else f) (if c (60 * k) ≠ -100009 then zs_t (60 * k) else t)
def zs_fl (c : Nat → Int32) : Int32 × Int32 := zs_flG c 13 0 (-100009) (-100009)
def zs_beG (v dec : Int32) : Nat → Nat → Int32 → Int32 → Int32
  | 0, _, b, _ => b
  | n + 1, k, b, e => if b = -100009 ∨ (zs_ap (zs_dial (4 * nI k) v (4 * dec))).1 < e then zs_beG v dec n (k + 1) (nI k) (zs_ap (zs_dial (4 * nI k) v (4 * dec))).1 else zs_beG v dec n (k + 1) b e
def zs_best (v dec : Int32) : Int32 := zs_beG v dec 61 10 (-100009) 0
def ol_count (s : ZSt) (n len nw nc : Nat) (x : Int32) : Int32 :=
  if x ≥ 3 ∧ x ≤ 7 then op_in s nc (x - 3) else if x ≥ 13 ∧ x ≤ 16 then s (4 + (x - 13).toNatClampNeg)
  else if x = 0 then s 0 else if x = 1 then op_knG s nw 0 0 else if x = 2 then s 1 else if x = 8 then s 2 else if x = 9 then s 3 else if x = 10 then s 118 + s 237 else if x = 11 then nI n else if x = 12 then nI len else -100001
def ol_wall (s : ZSt) (nc : Nat) (x v : Int32) : Int32 := if (x ≥ 0 ∧ x ≤ s 0 - 1) ∧ v ≥ 0 ∧ v ≤ 3 then (if v ≥ 2 then (if v ≠ 2 then op_foG s x nc 0 0 else sp_wd s x.toNatClampNeg) else s (20 + 3 * x.toNatClampNeg + 1 + v.toNatClampNeg)) else -100001
def ol_comm (s : ZSt) (x v : Int32) : Int32 := if (x ≥ 0 ∧ x ≤ s 1 - 1) ∧ v ≥ 0 ∧ v ≤ 8 then (if v = 5 then sp_de s x.toNatClampNeg else if v = 6 then sp_wt s x.toNatClampNeg else if v = 7 then s (38 + 8 * x.toNatClampNeg + 6) else if v = 8 then s (38 + 8 * x.toNatClampNeg + 7) else s (38 + 8 * x.toNatClampNeg + v.toNatClampNeg)) else -100001
def ol_corr (s : ZSt) (x : Int32) : Int32 := if x ≥ 0 ∧ x ≤ 11 then s (8 + x.toNatClampNeg) else -100001
def ol_sine (x : Int32) : Int32 := if x ≥ -720 ∧ x ≤ 720 then (zs_sine x).toInt32 else -100001
def ol_off (s : ZSt) (x t : Int32) : Int32 := if (x ≥ 0 ∧ x ≤ s 1 - 1) ∧ t ≥ -360 ∧ t ≤ 360 then (if sp_de s x.toNatClampNeg = -100009 then -100002 else sp_dial s x.toNatClampNeg (t + 360).toNatClampNeg) else -100001
def ol_lines (s : ZSt) (x v : Int32) : Int32 := if (x ≥ 0 ∧ x ≤ s 1 - 1) ∧ v ≥ 0 ∧ v ≤ 2 then (if sp_de s x.toNatClampNeg = -100009 then -100002 else if v ≠ 0 then (if v ≠ 1 then (zs_fl (sp_dial s x.toNatClampNeg)).2 else (zs_fl (sp_dial s x.toNatClampNeg)).1) else zs_hl (sp_dial s x.toNatClampNeg)) else -100001
def ol_reading (s : ZSt) (x o b : Int32) : Int32 := if b ≠ 0 then zs_sh (sp_dial s x.toNatClampNeg) o else zs_byL (sp_dial s x.toNatClampNeg) o
def ol_read (s : ZSt) (x o b mo : Int32) : Int32 := if (x ≥ 0 ∧ x ≤ s 1 - 1) ∧ (o ≥ -3000 ∧ o ≤ 3000) ∧ (b ≥ 0 ∧ b ≤ 1) ∧ mo ≥ -1 ∧ mo ≤ 11 then (if sp_de s x.toNatClampNeg = -100009 then -100002 else if ol_reading s x o b = -100009 ∨ mo = -1 then ol_reading s x o b else ol_reading s x o b + s (8 + mo.toNatClampNeg) + s (38 + 8 * x.toNatClampNeg + 3)) else -100001
def ol_apart (s : ZSt) (x v : Int32) : Int32 := if (x ≥ 0 ∧ x ≤ s 1 - 1) ∧ v ≥ 0 ∧ v ≤ 1 then (if sp_de s x.toNatClampNeg = -100009 then -100002 else if v = 0 then (zs_ap (sp_dial s x.toNatClampNeg)).1 else (zs_ap (sp_dial s x.toNatClampNeg)).2) else -100001
def ol_reason (s : ZSt) (x : Int32) : Int32 := if x ≥ 0 ∧ x ≤ s 1 - 1 then sp_re s x.toNatClampNeg else -100001
def ol_best (x : Int32) : Int32 := if x = 100 then zs_best 0 0 else if x ≥ -60 ∧ x ≤ 60 then zs_best 1 x else -100001
section ZLK2
variable {G : ZG} {l : Launch}
set_option maxHeartbeats 4000000 in
theorem lo_knownWalls {n0 mcT msT : Nat} {isI : Bool} {Qf : Option Value → ZE → ZI → Prop} {w : Nat → ZL → List Value → Nat → ZE → ZI → Prop} {z : Nat} {im : ZI} {nw : Nat} (S : zz_S G l RX8 cX8_knownWalls 3 2 n0 mcT msT isI (some .int) Qf w)
    (h0 : im 471 0 = nI nw) (hn : nw ≤ 6) (hQ : Qf (some (.int (op_knG (im 471) nw 0 0))) zE im) :
    ∀ (n k : Nat) (x m : Int32), k + n = nw → x = nI k → op_knG (im 471) nw 0 0 = op_knG (im 471) n k m → w 4 [some (.ref 470), some (.int m), some (.int x)] [] z zE im := by
  intro n
  induction n with
  | zero =>
    intro k x m hc hx hF
    have hc : k = nw := by omega
    subst hc
    refine zz_iload_2 S dX8_knownWalls_4 (q := 5) rfl ?_
    refine zz_aload_0 S dX8_knownWalls_5 (q := 6) rfl ?_
    refine zz_getR S fX8_7 rfl (Nat.le_of_ble_eq_true rfl) rfl rfl dX8_knownWalls_6 (q := 9) rfl ?_
    refine zz_iconst S (v := 0) rfl dX8_knownWalls_9 (q := 10) rfl ?_
    refine zz_iaN S (j := 0) (Nat.le_of_ble_eq_true rfl) rfl (Nat.le_of_ble_eq_true rfl) rfl (Nat.le_of_ble_eq_true rfl) dX8_knownWalls_10 (q := 11) rfl ?_
    refine zz_icmp_ge S dX8_knownWalls_11 (t := 38) (by decide) (q := 14) rfl (fun a1 => ?_) (fun a1 => ?_)
    -- then 38 else 14
    · refine zz_iload_1 S dX8_knownWalls_38 (q := 39) rfl ?_
      -- at 39: ireturn 
      exact zz_iret S dX8_knownWalls_39 (by rw [hF] at hQ; exact hQ)
    · exact absurd (by rw [h0, hx]; exact Int32.le_refl _) a1
  | succ n ih =>
    intro k x m hc hx hF
    refine zz_iload_2 S dX8_knownWalls_4 (q := 5) rfl ?_
    refine zz_aload_0 S dX8_knownWalls_5 (q := 6) rfl ?_
    refine zz_getR S fX8_7 rfl (Nat.le_of_ble_eq_true rfl) rfl rfl dX8_knownWalls_6 (q := 9) rfl ?_
    refine zz_iconst S (v := 0) rfl dX8_knownWalls_9 (q := 10) rfl ?_
    refine zz_iaN S (j := 0) (Nat.le_of_ble_eq_true rfl) rfl (Nat.le_of_ble_eq_true rfl) rfl (Nat.le_of_ble_eq_true rfl) dX8_knownWalls_10 (q := 11) rfl ?_
    refine zz_icmp_ge S dX8_knownWalls_11 (t := 38) (by decide) (q := 14) rfl (fun a1 => ?_) (fun a1 => ?_)
    -- then 38 else 14
    · exact absurd a1 (by rw [h0, hx]; exact nI_ge (by omega) (by omega))
    · refine zz_iload_1 S dX8_knownWalls_14 (q := 15) rfl ?_
      refine zz_aload_0 S dX8_knownWalls_15 (q := 16) rfl ?_
      refine zz_iload_2 S dX8_knownWalls_16 (q := 17) rfl ?_
      refine zz_virtP S yy_X8_declinationOfWall lX8_117 (ci := 8) (by decide) rfl (co_declinationOfWall x k im hx (by omega)) rfl (Nat.le_of_ble_eq_true rfl) (Nat.le_of_ble_eq_true rfl) rfl (Nat.le_of_ble_eq_true rfl) rfl dX8_knownWalls_17 (q := 20) rfl ?_
      refine zz_ldc S (v := (-100009)) kX8_83 dX8_knownWalls_20 (q := 22) rfl ?_
      refine zz_icmp_ne S dX8_knownWalls_22 (t := 29) (by decide) (q := 25) rfl (fun b1 => ?_) (fun b1 => ?_)
      · refine zz_iconst S (v := 1) rfl dX8_knownWalls_29 (q := 30) rfl ?_
        refine zz_iadd S dX8_knownWalls_30 (q := 31) rfl ?_
        refine zz_istore_1 S rfl dX8_knownWalls_31 (q := 32) rfl ?_
        refine zz_iinc_2 S rfl dX8_knownWalls_32 (q := 35) rfl ?_
        refine zz_goto S dX8_knownWalls_35 (t := 4) (by decide) ?_
        refine ih (k + 1) _ _ (by omega) (by rw [hx]; exact nI_add k 1) ?_
        rw [hF, op_knG]
        first | rw [if_pos b1] | rw [if_neg b1]
      · refine zz_iconst S (v := 0) rfl dX8_knownWalls_25 (q := 26) rfl ?_
        refine zz_goto S dX8_knownWalls_26 (t := 30) (by decide) ?_
        refine zz_iadd S dX8_knownWalls_30 (q := 31) rfl ?_
        refine zz_istore_1 S rfl dX8_knownWalls_31 (q := 32) rfl ?_
        refine zz_iinc_2 S rfl dX8_knownWalls_32 (q := 35) rfl ?_
        refine zz_goto S dX8_knownWalls_35 (t := 4) (by decide) ?_
        refine ih (k + 1) _ _ (by omega) (by rw [hx]; exact nI_add k 1) ?_
        rw [hF, op_knG]
        first | rw [if_pos b1] | rw [if_neg b1]
theorem co_knownWalls (nw : Nat) (im : ZI) (h0 : im 471 0 = nI nw) (hn : nw ≤ 6) : zz_OP G l 2 mX8_knownWalls [.ref 470] zE im (op_knG (im 471) nw 0 0) := by
  refine zz_intro (isI := false) (by decide) rfl (Nat.le_of_ble_eq_true rfl) (fun h => by cases h) (fun w S => ?_)
  refine zz_iconst S (v := 0) rfl dX8_knownWalls_0 (q := 1) rfl ?_
  refine zz_istore_1 S rfl dX8_knownWalls_1 (q := 2) rfl ?_
  refine zz_iconst S (v := 0) rfl dX8_knownWalls_2 (q := 3) rfl ?_
  refine zz_istore_2 S rfl dX8_knownWalls_3 (q := 4) rfl ?_
  -- at 4
  exact lo_knownWalls S h0 hn ⟨rfl, _, rfl, rfl, rfl, rfl⟩ nw 0 _ _ (by omega) rfl rfl
set_option maxHeartbeats 4000000 in
theorem lo_commissionsFor {n0 mcT msT : Nat} {isI : Bool} {Qf : Option Value → ZE → ZI → Prop} {w : Nat → ZL → List Value → Nat → ZE → ZI → Prop} {z : Nat} {im : ZI} {st : Int32} {nc : Nat} (S : zz_S G l RX8 cX8_commissionsFor 4 1 n0 mcT msT isI (some .int) Qf w)
    (h1 : im 471 1 = nI nc) (hn : nc ≤ 10) (hQ : Qf (some (.int (op_foG (im 471) st nc 0 0))) zE im) :
    ∀ (n c : Nat) (x m : Int32), c + n = nc → x = nI c → op_foG (im 471) st nc 0 0 = op_foG (im 471) st n c m → w 4 [some (.ref 470), some (.int st), some (.int m), some (.int x)] [] z zE im := by
  intro n
  induction n with
  | zero =>
    intro c x m hc hx hF
    have hc : c = nc := by omega
    subst hc
    refine zz_iload_3 S dX8_commissionsFor_4 (q := 5) rfl ?_
    refine zz_aload_0 S dX8_commissionsFor_5 (q := 6) rfl ?_
    refine zz_getR S fX8_7 rfl (Nat.le_of_ble_eq_true rfl) rfl rfl dX8_commissionsFor_6 (q := 9) rfl ?_
    refine zz_iconst S (v := 1) rfl dX8_commissionsFor_9 (q := 10) rfl ?_
    refine zz_iaN S (j := 1) (Nat.le_of_ble_eq_true rfl) rfl (Nat.le_of_ble_eq_true rfl) rfl (Nat.le_of_ble_eq_true rfl) dX8_commissionsFor_10 (q := 11) rfl ?_
    refine zz_icmp_ge S dX8_commissionsFor_11 (t := 38) (by decide) (q := 14) rfl (fun a1 => ?_) (fun a1 => ?_)
    -- then 38 else 14
    · refine zz_iload_2 S dX8_commissionsFor_38 (q := 39) rfl ?_
      -- at 39: ireturn 
      exact zz_iret S dX8_commissionsFor_39 (by rw [hF] at hQ; exact hQ)
    · exact absurd (by rw [h1, hx]; exact Int32.le_refl _) a1
  | succ n ih =>
    intro c x m hc hx hF
    refine zz_iload_3 S dX8_commissionsFor_4 (q := 5) rfl ?_
    refine zz_aload_0 S dX8_commissionsFor_5 (q := 6) rfl ?_
    refine zz_getR S fX8_7 rfl (Nat.le_of_ble_eq_true rfl) rfl rfl dX8_commissionsFor_6 (q := 9) rfl ?_
    refine zz_iconst S (v := 1) rfl dX8_commissionsFor_9 (q := 10) rfl ?_
    refine zz_iaN S (j := 1) (Nat.le_of_ble_eq_true rfl) rfl (Nat.le_of_ble_eq_true rfl) rfl (Nat.le_of_ble_eq_true rfl) dX8_commissionsFor_10 (q := 11) rfl ?_
    refine zz_icmp_ge S dX8_commissionsFor_11 (t := 38) (by decide) (q := 14) rfl (fun a1 => ?_) (fun a1 => ?_)
    -- then 38 else 14
    · exact absurd a1 (by rw [h1, hx]; exact nI_ge (by omega) (by omega))
    · refine zz_iload_2 S dX8_commissionsFor_14 (q := 15) rfl ?_
      refine zz_aload_0 S dX8_commissionsFor_15 (q := 16) rfl ?_
      refine zz_iload_3 S dX8_commissionsFor_16 (q := 17) rfl ?_
      refine zz_iconst S (v := 1) rfl dX8_commissionsFor_17 (q := 18) rfl ?_
      refine zz_virtP S yy_X8_of lX8_127 (ci := 8) (by decide) rfl (co_of x 1 c 1 im hx rfl (by omega)) rfl (Nat.le_of_ble_eq_true rfl) (Nat.le_of_ble_eq_true rfl) rfl (Nat.le_of_ble_eq_true rfl) rfl dX8_commissionsFor_18 (q := 21) rfl ?_
      refine zz_iload_1 S dX8_commissionsFor_21 (q := 22) rfl ?_
      refine zz_icmp_ne S dX8_commissionsFor_22 (t := 29) (by decide) (q := 25) rfl (fun b1 => ?_) (fun b1 => ?_)
      · refine zz_iconst S (v := 0) rfl dX8_commissionsFor_29 (q := 30) rfl ?_
        refine zz_iadd S dX8_commissionsFor_30 (q := 31) rfl ?_
        refine zz_istore_2 S rfl dX8_commissionsFor_31 (q := 32) rfl ?_
        refine zz_iinc_3 S rfl dX8_commissionsFor_32 (q := 35) rfl ?_
        refine zz_goto S dX8_commissionsFor_35 (t := 4) (by decide) ?_
        refine ih (c + 1) _ _ (by omega) (by rw [hx]; exact nI_add c 1) ?_
        rw [hF, op_foG]
        first | rw [if_pos b1] | rw [if_neg b1]
      · refine zz_iconst S (v := 1) rfl dX8_commissionsFor_25 (q := 26) rfl ?_
        refine zz_goto S dX8_commissionsFor_26 (t := 30) (by decide) ?_
        refine zz_iadd S dX8_commissionsFor_30 (q := 31) rfl ?_
        refine zz_istore_2 S rfl dX8_commissionsFor_31 (q := 32) rfl ?_
        refine zz_iinc_3 S rfl dX8_commissionsFor_32 (q := 35) rfl ?_
        refine zz_goto S dX8_commissionsFor_35 (t := 4) (by decide) ?_
        refine ih (c + 1) _ _ (by omega) (by rw [hx]; exact nI_add c 1) ?_
        rw [hF, op_foG]
        first | rw [if_pos b1] | rw [if_neg b1]
theorem co_commissionsFor (st : Int32) (nc : Nat) (im : ZI) (h1 : im 471 1 = nI nc) (hn : nc ≤ 10) : zz_OP G l 1 mX8_commissionsFor [.ref 470, .int st] zE im (op_foG (im 471) st nc 0 0) := by
  refine zz_intro (isI := false) (by decide) rfl (Nat.le_of_ble_eq_true rfl) (fun h => by cases h) (fun w S => ?_)
  refine zz_iconst S (v := 0) rfl dX8_commissionsFor_0 (q := 1) rfl ?_
  refine zz_istore_2 S rfl dX8_commissionsFor_1 (q := 2) rfl ?_
  refine zz_iconst S (v := 0) rfl dX8_commissionsFor_2 (q := 3) rfl ?_
  refine zz_istore_3 S rfl dX8_commissionsFor_3 (q := 4) rfl ?_
  -- at 4
  exact lo_commissionsFor S h1 hn ⟨rfl, _, rfl, rfl, rfl, rfl⟩ nc 0 _ _ (by omega) rfl rfl
/-- a call that only looks -/
def zLk (im im' : ZI) (r f : Int32) : Prop := r = f ∧ zPre im im'
theorem co_count (x : Int32) (im : ZI) (n len nw nc : Nat) (h : Nat → ZSt) (hh : zm_h im n h) (hl : im 470 6 = nI len) (hI : sI (im 471) nw nc) : zz_OI G l 3 mX8_count [.ref 470, .int x] zE im (fun r im' => zLk im im' r (ol_count (im 471) n len nw nc x)) := by
  have e471 := (zPre.t im).s
  refine zz_intro (isI := false) (by decide) rfl (Nat.le_of_ble_eq_true rfl) (fun h => by cases h) (fun w S => ?_)
  refine zz_aload_0 S dX8_count_0 (q := 1) rfl ?_
  refine zz_iconst S (v := 0) rfl dX8_count_1 (q := 2) rfl ?_
  refine zz_putI S fX8_35 rfl rfl (Nat.le_of_ble_eq_true rfl) rfl dX8_count_2 (q := 5) rfl ?_
  refine zz_iload_1 S dX8_count_5 (q := 6) rfl ?_
  refine zz_iconst S (v := 3) rfl dX8_count_6 (q := 7) rfl ?_
  refine zz_bipush S (v := 7) rfl dX8_count_7 (q := 9) rfl ?_
  -- at 9: invokestatic 90
  refine zz_statP S yy_X8_in lX8_90 (co_in G l x 3 7 zE (zz_u im 470 0 0)) rfl (Nat.le_of_ble_eq_true rfl) (Nat.le_of_ble_eq_true rfl) rfl dX8_count_9 (q := 12) rfl ?_
  refine zz_if_eq S dX8_count_12 (t := 23) (by decide) (q := 15) rfl (fun h1 => ?_) (fun h1 => ?_)
  -- then 23 else 15
  · refine zz_iload_1 S dX8_count_23 (q := 24) rfl ?_
    refine zz_bipush S (v := 13) rfl dX8_count_24 (q := 26) rfl ?_
    refine zz_bipush S (v := 16) rfl dX8_count_26 (q := 28) rfl ?_
    -- at 28: invokestatic 90
    refine zz_statP S yy_X8_in lX8_90 (co_in G l x 13 16 zE (zz_u im 470 0 0)) rfl (Nat.le_of_ble_eq_true rfl) (Nat.le_of_ble_eq_true rfl) rfl dX8_count_28 (q := 31) rfl ?_
    refine zz_if_eq S dX8_count_31 (t := 46) (by decide) (q := 34) rfl (fun h2 => ?_) (fun h2 => ?_)
    -- then 46 else 34
    · have g1 := zs_b1.mp h1
      have g2 := zs_b1.mp h2
      refine zz_iload_1 S dX8_count_46 (q := 47) rfl ?_
      -- at 47: tableswitch 128 0 12 #[65, 72, 77, 128, 128, 128, 128, 128, 84, 91, 98, 118, 123]
      by_cases hx : x ≥ 0 ∧ x ≤ 12
      · obtain ⟨j, hj, rfl⟩ := zs_within (n := 13) (by omega) hx
        rcases (show j = 0 ∨ j = 1 ∨ j = 2 ∨ (3 ≤ j ∧ j ≤ 7) ∨ j = 8 ∨ j = 9 ∨ j = 10 ∨ j = 11 ∨ j = 12 by omega) with rfl | rfl | rfl | hj | rfl | rfl | rfl | rfl | rfl
        · refine zz_tabIn S dX8_count_47 (by decide) (by decide) (off := 65) (by decide) (t := 112) (by decide) ?_
          refine zz_aload_0 S dX8_count_112 (q := 113) rfl ?_
          refine zz_getR S fX8_7 rfl (Nat.le_of_ble_eq_true rfl) rfl rfl dX8_count_113 (q := 116) rfl ?_
          refine zz_iconst S (v := 0) rfl dX8_count_116 (q := 117) rfl ?_
          refine zz_iaN S (j := 0) (Nat.le_of_ble_eq_true rfl) rfl (Nat.le_of_ble_eq_true rfl) rfl (Nat.le_of_ble_eq_true rfl) dX8_count_117 (q := 118) rfl ?_
          -- at 118: ireturn 
          refine zz_iret S dX8_count_118 ⟨rfl, _, rfl, rfl, ?_⟩
          exact ⟨rfl, zPre.t im⟩
        · refine zz_tabIn S dX8_count_47 (by decide) (by decide) (off := 72) (by decide) (t := 119) (by decide) ?_
          refine zz_aload_0 S dX8_count_119 (q := 120) rfl ?_
          -- at 120: invokevirtual 253
          refine zz_virtP S yy_X8_knownWalls lX8_253 (ci := 8) (by decide) rfl (co_knownWalls nw (zz_u im 470 0 0) hI.1 hI.2.1) rfl (Nat.le_of_ble_eq_true rfl) (Nat.le_of_ble_eq_true rfl) rfl (Nat.le_of_ble_eq_true rfl) rfl dX8_count_120 (q := 123) rfl ?_
          refine zz_iret S dX8_count_123 ⟨rfl, _, rfl, rfl, ?_⟩
          exact ⟨rfl, zPre.t im⟩
        · refine zz_tabIn S dX8_count_47 (by decide) (by decide) (off := 77) (by decide) (t := 124) (by decide) ?_
          refine zz_aload_0 S dX8_count_124 (q := 125) rfl ?_
          refine zz_getR S fX8_7 rfl (Nat.le_of_ble_eq_true rfl) rfl rfl dX8_count_125 (q := 128) rfl ?_
          refine zz_iconst S (v := 1) rfl dX8_count_128 (q := 129) rfl ?_
          refine zz_iaN S (j := 1) (Nat.le_of_ble_eq_true rfl) rfl (Nat.le_of_ble_eq_true rfl) rfl (Nat.le_of_ble_eq_true rfl) dX8_count_129 (q := 130) rfl ?_
          -- at 130: ireturn 
          refine zz_iret S dX8_count_130 ⟨rfl, _, rfl, rfl, ?_⟩
          exact ⟨rfl, zPre.t im⟩
        · exfalso
          apply g1
          constructor
          · rw [ge_iff_le, Int32.le_iff_toInt_le, nI_toInt (by omega)]
            show (3 : Int) ≤ _
            omega
          · rw [Int32.le_iff_toInt_le, nI_toInt (by omega)]
            show _ ≤ (7 : Int)
            omega
        · refine zz_tabIn S dX8_count_47 (by decide) (by decide) (off := 84) (by decide) (t := 131) (by decide) ?_
          refine zz_aload_0 S dX8_count_131 (q := 132) rfl ?_
          refine zz_getR S fX8_7 rfl (Nat.le_of_ble_eq_true rfl) rfl rfl dX8_count_132 (q := 135) rfl ?_
          refine zz_iconst S (v := 2) rfl dX8_count_135 (q := 136) rfl ?_
          refine zz_iaN S (j := 2) (Nat.le_of_ble_eq_true rfl) rfl (Nat.le_of_ble_eq_true rfl) rfl (Nat.le_of_ble_eq_true rfl) dX8_count_136 (q := 137) rfl ?_
          -- at 137: ireturn 
          refine zz_iret S dX8_count_137 ⟨rfl, _, rfl, rfl, ?_⟩
          exact ⟨rfl, zPre.t im⟩
        · refine zz_tabIn S dX8_count_47 (by decide) (by decide) (off := 91) (by decide) (t := 138) (by decide) ?_
          refine zz_aload_0 S dX8_count_138 (q := 139) rfl ?_
          refine zz_getR S fX8_7 rfl (Nat.le_of_ble_eq_true rfl) rfl rfl dX8_count_139 (q := 142) rfl ?_
          refine zz_iconst S (v := 3) rfl dX8_count_142 (q := 143) rfl ?_
          refine zz_iaN S (j := 3) (Nat.le_of_ble_eq_true rfl) rfl (Nat.le_of_ble_eq_true rfl) rfl (Nat.le_of_ble_eq_true rfl) dX8_count_143 (q := 144) rfl ?_
          -- at 144: ireturn 
          refine zz_iret S dX8_count_144 ⟨rfl, _, rfl, rfl, ?_⟩
          exact ⟨rfl, zPre.t im⟩
        · refine zz_tabIn S dX8_count_47 (by decide) (by decide) (off := 98) (by decide) (t := 145) (by decide) ?_
          refine zz_aload_0 S dX8_count_145 (q := 146) rfl ?_
          refine zz_getR S fX8_7 rfl (Nat.le_of_ble_eq_true rfl) rfl rfl dX8_count_146 (q := 149) rfl ?_
          refine zz_iconst S (v := 0) rfl dX8_count_149 (q := 150) rfl ?_
          -- at 150: invokestatic 196
          refine zz_statP S yy_X8_slotAt lX8_196 (co_slotAt 0 zE (zz_u im 470 0 0)) rfl (Nat.le_of_ble_eq_true rfl) (Nat.le_of_ble_eq_true rfl) rfl dX8_count_150 (q := 153) rfl ?_
          refine zz_iaN S (j := 118) (Nat.le_of_ble_eq_true rfl) rfl (Nat.le_of_ble_eq_true rfl) rfl (Nat.le_of_ble_eq_true rfl) dX8_count_153 (q := 154) rfl ?_
          refine zz_aload_0 S dX8_count_154 (q := 155) rfl ?_
          refine zz_getR S fX8_7 rfl (Nat.le_of_ble_eq_true rfl) rfl rfl dX8_count_155 (q := 158) rfl ?_
          refine zz_iconst S (v := 1) rfl dX8_count_158 (q := 159) rfl ?_
          -- at 159: invokestatic 196
          refine zz_statP S yy_X8_slotAt lX8_196 (co_slotAt 1 zE (zz_u im 470 0 0)) rfl (Nat.le_of_ble_eq_true rfl) (Nat.le_of_ble_eq_true rfl) rfl dX8_count_159 (q := 162) rfl ?_
          refine zz_iaN S (j := 237) (Nat.le_of_ble_eq_true rfl) rfl (Nat.le_of_ble_eq_true rfl) rfl (Nat.le_of_ble_eq_true rfl) dX8_count_162 (q := 163) rfl ?_
          refine zz_iadd S dX8_count_163 (q := 164) rfl ?_
          -- at 164: ireturn 
          refine zz_iret S dX8_count_164 ⟨rfl, _, rfl, rfl, ?_⟩
          exact ⟨rfl, zPre.t im⟩
        · refine zz_tabIn S dX8_count_47 (by decide) (by decide) (off := 118) (by decide) (t := 165) (by decide) ?_
          refine zz_aload_0 S dX8_count_165 (q := 166) rfl ?_
          refine zz_getI S fX8_39 rfl (Nat.le_of_ble_eq_true rfl) rfl dX8_count_166 (q := 169) rfl ?_
          -- at 169: ireturn 
          refine zz_iret S dX8_count_169 ⟨rfl, _, rfl, rfl, ?_⟩
          exact ⟨((zPre.t im).h hh).2.1, zPre.t im⟩
        · refine zz_tabIn S dX8_count_47 (by decide) (by decide) (off := 123) (by decide) (t := 170) (by decide) ?_
          refine zz_aload_0 S dX8_count_170 (q := 171) rfl ?_
          refine zz_getI S fX8_199 rfl (Nat.le_of_ble_eq_true rfl) rfl dX8_count_171 (q := 174) rfl ?_
          -- at 174: ireturn 
          refine zz_iret S dX8_count_174 ⟨rfl, _, rfl, rfl, ?_⟩
          exact ⟨by rw [zz_u_n _ _ (Or.inr (by decide))]; exact hl, zPre.t im⟩
      · have hx2 : x.toInt < 0 ∨ 12 < x.toInt := by
          rw [ge_iff_le, Int32.le_iff_toInt_le, Int32.le_iff_toInt_le] at hx
          have e0 : (0 : Int32).toInt = 0 := rfl
          have e12 : (12 : Int32).toInt = 12 := rfl
          omega
        have ne : ∀ k : Nat, k < 13 → ¬ x = nI k := fun k hk e => by
          rw [e, nI_toInt (by omega)] at hx2
          omega
        refine zz_tabOut S dX8_count_47 hx2 (t := 175) (by decide) ?_
        refine zz_ldc S (v := (-100001)) kX8_94 dX8_count_175 (q := 177) rfl ?_
        -- at 177: ireturn 
        refine zz_iret S dX8_count_177 ⟨rfl, _, rfl, rfl, ?_⟩
        refine ⟨?_, zPre.t im⟩
        rw [ol_count, if_neg g1, if_neg g2, if_neg (show ¬ x = 0 from ne 0 (by omega)), if_neg (show ¬ x = 1 from ne 1 (by omega)), if_neg (show ¬ x = 2 from ne 2 (by omega)), if_neg (show ¬ x = 8 from ne 8 (by omega)), if_neg (show ¬ x = 9 from ne 9 (by omega)), if_neg (show ¬ x = 10 from ne 10 (by omega)), if_neg (show ¬ x = 11 from ne 11 (by omega)), if_neg (show ¬ x = 12 from ne 12 (by omega))]
    · have g1 := zs_b1.mp h1
      have g2 := zs_ne0 h2
      have a1 := Int32.le_iff_toInt_le.mp g2.1
      have a2 := Int32.le_iff_toInt_le.mp g2.2
      have b1 : (13 : Int32).toInt = 13 := rfl
      have b2 : (16 : Int32).toInt = 16 := rfl
      obtain ⟨k, hk, rfl⟩ : ∃ k, k < 4 ∧ x = nI (13 + k) := ⟨x.toInt.toNat - 13, by omega, Int32.toInt_inj.mp (by rw [nI_toInt (by omega)]; omega)⟩
      have e1 : 4 + nI (13 + k) - 13 = nI (4 + k) := by
        show nI 4 + nI (13 + k) - nI 13 = _
        rw [nI_add, pk_sub (by omega)]
        congr 1
        omega
      have e2 : (nI (13 + k) - 13).toNatClampNeg = k := by
        show (nI (13 + k) - nI 13).toNatClampNeg = k
        rw [pk_sub (by omega), nI_clamp (by omega)]
        omega
      refine zz_aload_0 S dX8_count_34 (q := 35) rfl ?_
      refine zz_getR S fX8_7 rfl (Nat.le_of_ble_eq_true rfl) rfl rfl dX8_count_35 (q := 38) rfl ?_
      refine zz_iconst S (v := 4) rfl dX8_count_38 (q := 39) rfl ?_
      refine zz_iload_1 S dX8_count_39 (q := 40) rfl ?_
      refine zz_iadd S dX8_count_40 (q := 41) rfl ?_
      refine zz_bipush S (v := 13) rfl dX8_count_41 (q := 43) rfl ?_
      refine zz_isub S dX8_count_43 (q := 44) rfl ?_
      refine zz_iaN S (j := 4 + k) (Nat.le_of_ble_eq_true rfl) rfl (Nat.le_of_ble_eq_true rfl) e1 (by omega) dX8_count_44 (q := 45) rfl ?_
      -- at 45: ireturn 
      refine zz_iret S dX8_count_45 ⟨rfl, _, rfl, rfl, ?_⟩
      refine ⟨?_, zPre.t im⟩
      rw [ol_count, if_neg g1, if_pos g2, e2, e471]
  · refine zz_aload_0 S dX8_count_15 (q := 16) rfl ?_
    refine zz_iload_1 S dX8_count_16 (q := 17) rfl ?_
    refine zz_iconst S (v := 3) rfl dX8_count_17 (q := 18) rfl ?_
    refine zz_isub S dX8_count_18 (q := 19) rfl ?_
    -- at 19: invokevirtual 187
    refine zz_virtP S yy_X8_inState lX8_187 (ci := 8) (by decide) rfl (co_inState (x - 3) nc (zz_u im 470 0 0) hI.2.2.1 hI.2.2.2.1) rfl (Nat.le_of_ble_eq_true rfl) (Nat.le_of_ble_eq_true rfl) rfl (Nat.le_of_ble_eq_true rfl) rfl dX8_count_19 (q := 22) rfl ?_
    refine zz_iret S dX8_count_22 ⟨rfl, _, rfl, rfl, ?_⟩
    refine ⟨?_, zPre.t im⟩
    rw [ol_count, if_pos (zs_ne0 h1), e471]
theorem co_wall (x v : Int32) (im : ZI) (nw nc : Nat) (hI : sI (im 471) nw nc) : zz_OI G l 2 mX8_wall [.ref 470, .int x, .int v] zE im (fun r im' => zLk im im' r (ol_wall (im 471) nc x v)) := by
  have hnw := hI.2.1
  have bad : ¬ ((x ≥ 0 ∧ x ≤ im 471 0 - 1) ∧ v ≥ 0 ∧ v ≤ 3) → zLk im (zz_u im 470 0 0) (-100001) (ol_wall (im 471) nc x v) := fun q => ⟨by rw [ol_wall, if_neg q], zPre.t im⟩
  refine zz_intro (isI := false) (by decide) rfl (Nat.le_of_ble_eq_true rfl) (fun h => by cases h) (fun w S => ?_)
  refine zz_aload_0 S dX8_wall_0 (q := 1) rfl ?_
  refine zz_iconst S (v := 0) rfl dX8_wall_1 (q := 2) rfl ?_
  refine zz_putI S fX8_35 rfl rfl (Nat.le_of_ble_eq_true rfl) rfl dX8_wall_2 (q := 5) rfl ?_
  refine zz_aload_0 S dX8_wall_5 (q := 6) rfl ?_
  refine zz_iload_1 S dX8_wall_6 (q := 7) rfl ?_
  -- at 7: invokevirtual 114
  refine zz_virtP S yy_X8_isWall lX8_114 (ci := 8) (by decide) rfl (co_isWall x (zz_u im 470 0 0)) rfl (Nat.le_of_ble_eq_true rfl) (Nat.le_of_ble_eq_true rfl) rfl (Nat.le_of_ble_eq_true rfl) rfl dX8_wall_7 (q := 10) rfl ?_
  rw [(zPre.t im).s]
  refine zz_if_eq S dX8_wall_10 (t := 22) (by decide) (q := 13) rfl (fun h1 => ?_) (fun h1 => ?_)
  -- then 22 else 13
  · refine zz_ldc S (v := (-100001)) kX8_94 dX8_wall_22 (q := 24) rfl ?_
    refine zz_iret S dX8_wall_24 ⟨rfl, _, rfl, rfl, ?_⟩
    exact bad (fun q => zs_b1.mp h1 q.1)
  · refine zz_iload_2 S dX8_wall_13 (q := 14) rfl ?_
    refine zz_iconst S (v := 0) rfl dX8_wall_14 (q := 15) rfl ?_
    refine zz_iconst S (v := 3) rfl dX8_wall_15 (q := 16) rfl ?_
    -- at 16: invokestatic 90
    refine zz_statP S yy_X8_in lX8_90 (co_in G l v 0 3 zE (zz_u im 470 0 0)) rfl (Nat.le_of_ble_eq_true rfl) (Nat.le_of_ble_eq_true rfl) rfl dX8_wall_16 (q := 19) rfl ?_
    refine zz_if_ne S dX8_wall_19 (t := 25) (by decide) (q := 22) rfl (fun h2 => ?_) (fun h2 => ?_)
    -- then 25 else 22
    · have hp1 := zs_ne0 h1
      have hp2 := zs_ne0 h2
      have hp3 : x ≥ 0 ∧ x ≤ nI nw - 1 := by rw [← hI.1]; exact hp1
      obtain ⟨k, hk, ek⟩ := zs_within (n := nw) (by omega) hp3
      obtain ⟨j, hj, ej⟩ := zs_within (n := 4) (by omega) hp2
      have ec : x.toNatClampNeg = k := by rw [ek]; exact nI_clamp (by omega)
      have evc : v.toNatClampNeg = j := by rw [ej]; exact nI_clamp (by omega)
      have e1 : 20 + 3 * x + 1 + v = nI (20 + 3 * k + 1 + j) := by
        rw [ek, ej]
        show nI 20 + nI 3 * nI k + nI 1 + nI j = _
        rw [pk_mul, nI_add, nI_add, nI_add]
      refine zz_iload_2 S dX8_wall_25 (q := 26) rfl ?_
      refine zz_iconst S (v := 2) rfl dX8_wall_26 (q := 27) rfl ?_
      refine zz_icmp_ge S dX8_wall_27 (t := 48) (by decide) (q := 30) rfl (fun h3 => ?_) (fun h3 => ?_)
      -- then 48 else 30
      · refine zz_iload_2 S dX8_wall_48 (q := 49) rfl ?_
        refine zz_iconst S (v := 2) rfl dX8_wall_49 (q := 50) rfl ?_
        refine zz_icmp_ne S dX8_wall_50 (t := 61) (by decide) (q := 53) rfl (fun h4 => ?_) (fun h4 => ?_)
        -- then 61 else 53
        · refine zz_aload_0 S dX8_wall_61 (q := 62) rfl ?_
          refine zz_iload_1 S dX8_wall_62 (q := 63) rfl ?_
          -- at 63: invokevirtual 256
          refine zz_virtP S yy_X8_commissionsFor lX8_256 (ci := 8) (by decide) rfl (co_commissionsFor x nc (zz_u im 470 0 0) hI.2.2.1 hI.2.2.2.1) rfl (Nat.le_of_ble_eq_true rfl) (Nat.le_of_ble_eq_true rfl) rfl (Nat.le_of_ble_eq_true rfl) rfl dX8_wall_63 (q := 66) rfl ?_
          refine zz_iret S dX8_wall_66 ⟨rfl, _, rfl, rfl, ?_⟩
          exact ⟨by rw [ol_wall, if_pos ⟨hp1, hp2⟩, if_pos h3, if_pos h4]; rfl, zPre.t im⟩
        · refine zz_aload_0 S dX8_wall_53 (q := 54) rfl ?_
          refine zz_iload_1 S dX8_wall_54 (q := 55) rfl ?_
          -- at 55: invokevirtual 117
          refine zz_virtP S yy_X8_declinationOfWall lX8_117 (ci := 8) (by decide) rfl (co_declinationOfWall x k (zz_u im 470 0 0) ek (by omega)) rfl (Nat.le_of_ble_eq_true rfl) (Nat.le_of_ble_eq_true rfl) rfl (Nat.le_of_ble_eq_true rfl) rfl dX8_wall_55 (q := 58) rfl ?_
          refine zz_goto S dX8_wall_58 (t := 66) (by decide) ?_
          -- at 66: ireturn 
          refine zz_iret S dX8_wall_66 ⟨rfl, _, rfl, rfl, ?_⟩
          exact ⟨by rw [ol_wall, if_pos ⟨hp1, hp2⟩, if_pos h3, if_neg (fun q => q h4), ec]; rfl, zPre.t im⟩
      · have hj2 : j < 3 := by
          rw [ej, ge_iff_le, Int32.le_iff_toInt_le, nI_toInt (by omega)] at h3
          have b1 : (2 : Int32).toInt = 2 := rfl
          omega
        refine zz_aload_0 S dX8_wall_30 (q := 31) rfl ?_
        refine zz_getR S fX8_7 rfl (Nat.le_of_ble_eq_true rfl) rfl rfl dX8_wall_31 (q := 34) rfl ?_
        refine zz_bipush S (v := 20) rfl dX8_wall_34 (q := 36) rfl ?_
        refine zz_iconst S (v := 3) rfl dX8_wall_36 (q := 37) rfl ?_
        refine zz_iload_1 S dX8_wall_37 (q := 38) rfl ?_
        refine zz_imul S dX8_wall_38 (q := 39) rfl ?_
        refine zz_iadd S dX8_wall_39 (q := 40) rfl ?_
        refine zz_iconst S (v := 1) rfl dX8_wall_40 (q := 41) rfl ?_
        refine zz_iadd S dX8_wall_41 (q := 42) rfl ?_
        refine zz_iload_2 S dX8_wall_42 (q := 43) rfl ?_
        refine zz_iadd S dX8_wall_43 (q := 44) rfl ?_
        refine zz_iaN S (j := 20 + 3 * k + 1 + j) (Nat.le_of_ble_eq_true rfl) rfl (Nat.le_of_ble_eq_true rfl) e1 (by omega) dX8_wall_44 (q := 45) rfl ?_
        refine zz_goto S dX8_wall_45 (t := 66) (by decide) ?_
        -- at 66: ireturn 
        refine zz_iret S dX8_wall_66 ⟨rfl, _, rfl, rfl, ?_⟩
        exact ⟨by rw [ol_wall, if_pos ⟨hp1, hp2⟩, if_neg h3, ec, evc]; rfl, zPre.t im⟩
    · refine zz_ldc S (v := (-100001)) kX8_94 dX8_wall_22 (q := 24) rfl ?_
      refine zz_iret S dX8_wall_24 ⟨rfl, _, rfl, rfl, ?_⟩
      exact bad (fun q => zs_b1.mp h2 q.2)
theorem co_commission (x v : Int32) (im : ZI) (nw nc : Nat) (hI : sI (im 471) nw nc) : zz_OI G l 3 mX8_commission [.ref 470, .int x, .int v] zE im (fun r im' => zLk im im' r (ol_comm (im 471) x v)) := by
  have hn10 := hI.2.2.2.1
  have bad : ¬ ((x ≥ 0 ∧ x ≤ im 471 1 - 1) ∧ v ≥ 0 ∧ v ≤ 8) → zLk im (zz_u im 470 0 0) (-100001) (ol_comm (im 471) x v) := fun q => ⟨by rw [ol_comm, if_neg q], zPre.t im⟩
  refine zz_intro (isI := false) (by decide) rfl (Nat.le_of_ble_eq_true rfl) (fun h => by cases h) (fun w S => ?_)
  refine zz_aload_0 S dX8_commission_0 (q := 1) rfl ?_
  refine zz_iconst S (v := 0) rfl dX8_commission_1 (q := 2) rfl ?_
  refine zz_putI S fX8_35 rfl rfl (Nat.le_of_ble_eq_true rfl) rfl dX8_commission_2 (q := 5) rfl ?_
  refine zz_aload_0 S dX8_commission_5 (q := 6) rfl ?_
  refine zz_iload_1 S dX8_commission_6 (q := 7) rfl ?_
  -- at 7: invokevirtual 162
  refine zz_virtP S yy_X8_isCommission lX8_162 (ci := 8) (by decide) rfl (co_isCommission x (zz_u im 470 0 0)) rfl (Nat.le_of_ble_eq_true rfl) (Nat.le_of_ble_eq_true rfl) rfl (Nat.le_of_ble_eq_true rfl) rfl dX8_commission_7 (q := 10) rfl ?_
  rw [(zPre.t im).s]
  refine zz_if_eq S dX8_commission_10 (t := 23) (by decide) (q := 13) rfl (fun h1 => ?_) (fun h1 => ?_)
  -- then 23 else 13
  · refine zz_ldc S (v := (-100001)) kX8_94 dX8_commission_23 (q := 25) rfl ?_
    refine zz_iret S dX8_commission_25 ⟨rfl, _, rfl, rfl, ?_⟩
    exact bad (fun q => zs_b1.mp h1 q.1)
  · refine zz_iload_2 S dX8_commission_13 (q := 14) rfl ?_
    refine zz_iconst S (v := 0) rfl dX8_commission_14 (q := 15) rfl ?_
    refine zz_bipush S (v := 8) rfl dX8_commission_15 (q := 17) rfl ?_
    -- at 17: invokestatic 90
    refine zz_statP S yy_X8_in lX8_90 (co_in G l v 0 8 zE (zz_u im 470 0 0)) rfl (Nat.le_of_ble_eq_true rfl) (Nat.le_of_ble_eq_true rfl) rfl dX8_commission_17 (q := 20) rfl ?_
    refine zz_if_ne S dX8_commission_20 (t := 26) (by decide) (q := 23) rfl (fun h2 => ?_) (fun h2 => ?_)
    -- then 26 else 23
    · have hp1 := zs_ne0 h1
      have hp2 := zs_ne0 h2
      have hp3 : x ≥ 0 ∧ x ≤ nI nc - 1 := by rw [← hI.2.2.1]; exact hp1
      obtain ⟨k, hk, ek⟩ := zs_within (n := nc) (by omega) hp3
      obtain ⟨j, hj, rfl⟩ := zs_within (n := 9) (by omega) hp2
      have ec : x.toNatClampNeg = k := by rw [ek]; exact nI_clamp (by omega)
      have good : ol_comm (im 471) x (nI j) = (if nI j = 5 then sp_de (im 471) k else if nI j = 6 then sp_wt (im 471) k else if nI j = 7 then im 471 (38 + 8 * k + 6) else if nI j = 8 then im 471 (38 + 8 * k + 7) else im 471 (38 + 8 * k + (nI j).toNatClampNeg)) := by rw [ol_comm, if_pos ⟨hp1, hp2⟩, ec]
      refine zz_iload_2 S dX8_commission_26 (q := 27) rfl ?_
      -- at 27: tableswitch 57 5 8 #[29, 35, 41, 49]
      rcases (show j = 5 ∨ j = 6 ∨ j = 7 ∨ j = 8 ∨ j < 5 by omega) with rfl | rfl | rfl | rfl | hj
      · refine zz_tabIn S dX8_commission_27 (by decide) (by decide) (off := 29) (by decide) (t := 56) (by decide) ?_
        refine zz_aload_0 S dX8_commission_56 (q := 57) rfl ?_
        refine zz_iload_1 S dX8_commission_57 (q := 58) rfl ?_
        -- at 58: invokevirtual 130
        refine zz_virtP S yy_X8_declinationOf lX8_130 (ci := 8) (by decide) rfl (co_declinationOf x k nw nc (zz_u im 470 0 0) ek hI hk) rfl (Nat.le_of_ble_eq_true rfl) (Nat.le_of_ble_eq_true rfl) rfl (Nat.le_of_ble_eq_true rfl) rfl dX8_commission_58 (q := 61) rfl ?_
        refine zz_iret S dX8_commission_61 ⟨rfl, _, rfl, rfl, ?_⟩
        exact ⟨by rw [good]; rfl, zPre.t im⟩
      · refine zz_tabIn S dX8_commission_27 (by decide) (by decide) (off := 35) (by decide) (t := 62) (by decide) ?_
        refine zz_aload_0 S dX8_commission_62 (q := 63) rfl ?_
        refine zz_iload_1 S dX8_commission_63 (q := 64) rfl ?_
        -- at 64: invokevirtual 148
        refine zz_virtP S yy_X8_weightOf lX8_148 (ci := 8) (by decide) rfl (co_weightOf x k (zz_u im 470 0 0) ek (by omega)) rfl (Nat.le_of_ble_eq_true rfl) (Nat.le_of_ble_eq_true rfl) rfl (Nat.le_of_ble_eq_true rfl) rfl dX8_commission_64 (q := 67) rfl ?_
        refine zz_iret S dX8_commission_67 ⟨rfl, _, rfl, rfl, ?_⟩
        exact ⟨by rw [good]; rfl, zPre.t im⟩
      · refine zz_tabIn S dX8_commission_27 (by decide) (by decide) (off := 41) (by decide) (t := 68) (by decide) ?_
        refine zz_aload_0 S dX8_commission_68 (q := 69) rfl ?_
        refine zz_iload_1 S dX8_commission_69 (q := 70) rfl ?_
        refine zz_bipush S (v := 6) rfl dX8_commission_70 (q := 72) rfl ?_
        -- at 72: invokevirtual 127
        refine zz_virtP S yy_X8_of lX8_127 (ci := 8) (by decide) rfl (co_of x 6 k 6 (zz_u im 470 0 0) ek rfl (by omega)) rfl (Nat.le_of_ble_eq_true rfl) (Nat.le_of_ble_eq_true rfl) rfl (Nat.le_of_ble_eq_true rfl) rfl dX8_commission_72 (q := 75) rfl ?_
        refine zz_iret S dX8_commission_75 ⟨rfl, _, rfl, rfl, ?_⟩
        exact ⟨by rw [good]; rfl, zPre.t im⟩
      · refine zz_tabIn S dX8_commission_27 (by decide) (by decide) (off := 49) (by decide) (t := 76) (by decide) ?_
        refine zz_aload_0 S dX8_commission_76 (q := 77) rfl ?_
        refine zz_iload_1 S dX8_commission_77 (q := 78) rfl ?_
        refine zz_bipush S (v := 7) rfl dX8_commission_78 (q := 80) rfl ?_
        -- at 80: invokevirtual 127
        refine zz_virtP S yy_X8_of lX8_127 (ci := 8) (by decide) rfl (co_of x 7 k 7 (zz_u im 470 0 0) ek rfl (by omega)) rfl (Nat.le_of_ble_eq_true rfl) (Nat.le_of_ble_eq_true rfl) rfl (Nat.le_of_ble_eq_true rfl) rfl dX8_commission_80 (q := 83) rfl ?_
        refine zz_iret S dX8_commission_83 ⟨rfl, _, rfl, rfl, ?_⟩
        exact ⟨by rw [good]; rfl, zPre.t im⟩
      · have ne : ∀ i : Nat, 5 ≤ i → i < 9 → ¬ nI j = nI i := fun i h1 h2 e => by
          have := (nI_eq (a := j) (b := i) (by omega) (by omega)).mp e
          omega
        refine zz_tabOut S dX8_commission_27 (Or.inl (by rw [nI_toInt (by omega)]; omega)) (t := 84) (by decide) ?_
        refine zz_aload_0 S dX8_commission_84 (q := 85) rfl ?_
        refine zz_iload_1 S dX8_commission_85 (q := 86) rfl ?_
        refine zz_iload_2 S dX8_commission_86 (q := 87) rfl ?_
        -- at 87: invokevirtual 127
        refine zz_virtP S yy_X8_of lX8_127 (ci := 8) (by decide) rfl (co_of x (nI j) k j (zz_u im 470 0 0) ek rfl (by omega)) rfl (Nat.le_of_ble_eq_true rfl) (Nat.le_of_ble_eq_true rfl) rfl (Nat.le_of_ble_eq_true rfl) rfl dX8_commission_87 (q := 90) rfl ?_
        refine zz_iret S dX8_commission_90 ⟨rfl, _, rfl, rfl, ?_⟩
        exact ⟨by rw [good, if_neg (show ¬ nI j = 5 from ne 5 (by omega) (by omega)), if_neg (show ¬ nI j = 6 from ne 6 (by omega) (by omega)), if_neg (show ¬ nI j = 7 from ne 7 (by omega) (by omega)), if_neg (show ¬ nI j = 8 from ne 8 (by omega) (by omega)), nI_clamp (by omega)]; rfl, zPre.t im⟩
    · refine zz_ldc S (v := (-100001)) kX8_94 dX8_commission_23 (q := 25) rfl ?_
      refine zz_iret S dX8_commission_25 ⟨rfl, _, rfl, rfl, ?_⟩
      exact bad (fun q => zs_b1.mp h2 q.2)
theorem co_correction (x : Int32) (im : ZI) : zz_OI G l 1 mX8_correction [.ref 470, .int x] zE im (fun r im' => zLk im im' r (ol_corr (im 471) x)) := by
  refine zz_intro (isI := false) (by decide) rfl (Nat.le_of_ble_eq_true rfl) (fun h => by cases h) (fun w S => ?_)
  refine zz_aload_0 S dX8_correction_0 (q := 1) rfl ?_
  refine zz_iconst S (v := 0) rfl dX8_correction_1 (q := 2) rfl ?_
  refine zz_putI S fX8_35 rfl rfl (Nat.le_of_ble_eq_true rfl) rfl dX8_correction_2 (q := 5) rfl ?_
  refine zz_iload_1 S dX8_correction_5 (q := 6) rfl ?_
  refine zz_iconst S (v := 0) rfl dX8_correction_6 (q := 7) rfl ?_
  refine zz_bipush S (v := 11) rfl dX8_correction_7 (q := 9) rfl ?_
  -- at 9: invokestatic 90
  refine zz_statP S yy_X8_in lX8_90 (co_in G l x 0 11 zE (zz_u im 470 0 0)) rfl (Nat.le_of_ble_eq_true rfl) (Nat.le_of_ble_eq_true rfl) rfl dX8_correction_9 (q := 12) rfl ?_
  refine zz_if_eq S dX8_correction_12 (t := 27) (by decide) (q := 15) rfl (fun h1 => ?_) (fun h1 => ?_)
  -- then 27 else 15
  · refine zz_ldc S (v := (-100001)) kX8_94 dX8_correction_27 (q := 29) rfl ?_
    refine zz_iret S dX8_correction_29 ⟨rfl, _, rfl, rfl, ?_⟩
    exact ⟨by rw [ol_corr, if_neg (zs_b1.mp h1)], zPre.t im⟩
  · have hp1 := zs_ne0 h1
    obtain ⟨k, hk, ek⟩ := zs_within (n := 12) (by omega) hp1
    have ec : x.toNatClampNeg = k := by rw [ek]; exact nI_clamp (by omega)
    have e8 : 8 + x = nI (8 + k) := by rw [ek]; exact nI_add 8 k
    refine zz_aload_0 S dX8_correction_15 (q := 16) rfl ?_
    refine zz_getR S fX8_7 rfl (Nat.le_of_ble_eq_true rfl) rfl rfl dX8_correction_16 (q := 19) rfl ?_
    refine zz_bipush S (v := 8) rfl dX8_correction_19 (q := 21) rfl ?_
    refine zz_iload_1 S dX8_correction_21 (q := 22) rfl ?_
    refine zz_iadd S dX8_correction_22 (q := 23) rfl ?_
    refine zz_iaN S (j := 8 + k) (Nat.le_of_ble_eq_true rfl) rfl (Nat.le_of_ble_eq_true rfl) e8 (by omega) dX8_correction_23 (q := 24) rfl ?_
    refine zz_goto S dX8_correction_24 (t := 29) (by decide) ?_
    refine zz_iret S dX8_correction_29 ⟨rfl, _, rfl, rfl, ?_⟩
    exact ⟨by rw [ol_corr, if_pos hp1, ec]; rfl, zPre.t im⟩
theorem co_sine (x : Int32) (im : ZI) : zz_OI G l 2 mX8_sine [.ref 470, .int x] zE im (fun r im' => zLk im im' r (ol_sine x)) := by
  refine zz_intro (isI := false) (by decide) rfl (Nat.le_of_ble_eq_true rfl) (fun h => by cases h) (fun w S => ?_)
  refine zz_aload_0 S dX8_sine_0 (q := 1) rfl ?_
  refine zz_iconst S (v := 0) rfl dX8_sine_1 (q := 2) rfl ?_
  refine zz_putI S fX8_35 rfl rfl (Nat.le_of_ble_eq_true rfl) rfl dX8_sine_2 (q := 5) rfl ?_
  refine zz_iload_1 S dX8_sine_5 (q := 6) rfl ?_
  refine zz_sipush S (v := (-720)) rfl dX8_sine_6 (q := 9) rfl ?_
  refine zz_sipush S (v := 720) rfl dX8_sine_9 (q := 12) rfl ?_
  -- at 12: invokestatic 90
  refine zz_statP S yy_X8_in lX8_90 (co_in G l x (-720) 720 zE (zz_u im 470 0 0)) rfl (Nat.le_of_ble_eq_true rfl) (Nat.le_of_ble_eq_true rfl) rfl dX8_sine_12 (q := 15) rfl ?_
  refine zz_if_eq S dX8_sine_15 (t := 26) (by decide) (q := 18) rfl (fun h1 => ?_) (fun h1 => ?_)
  -- then 26 else 18
  · refine zz_ldc S (v := (-100001)) kX8_94 dX8_sine_26 (q := 28) rfl ?_
    refine zz_iret S dX8_sine_28 ⟨rfl, _, rfl, rfl, ?_⟩
    exact ⟨by rw [ol_sine, if_neg (zs_b1.mp h1)], zPre.t im⟩
  · have hp1 := zs_ne0 h1
    refine zz_iload_1 S dX8_sine_18 (q := 19) rfl ?_
    refine zz_statPL S yy_X8_sineOf lX8_50 (co_sineOf G l x (zs_okq (Int32.le_iff_toInt_le.mp hp1.1) (Int32.le_iff_toInt_le.mp hp1.2)) zE (zz_u im 470 0 0)) rfl (Nat.le_of_ble_eq_true rfl) (Nat.le_of_ble_eq_true rfl) rfl dX8_sine_19 (q := 22) rfl ?_
    refine zz_l2i S dX8_sine_22 (q := 23) rfl ?_
    refine zz_goto S dX8_sine_23 (t := 28) (by decide) ?_
    refine zz_iret S dX8_sine_28 ⟨rfl, _, rfl, rfl, ?_⟩
    exact ⟨by rw [ol_sine, if_pos hp1], zPre.t im⟩
end ZLK2
