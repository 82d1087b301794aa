/-! THE REFERENCE: tokens -/
def ta (tx : Nat → Int32) (len p : Nat) : Int32 := if p < len then tx p else -1
def tk_sp (tx : Nat → Int32) (len : Nat) : Nat → Nat → Nat
  | 0, p => p
  | n + 1, p => if ta tx len p = 32 then tk_sp tx len n (p + 1) else p
def tk_run (tx : Nat → Int32) (len : Nat) (a b : Int32) : Nat → Nat → Nat
  | 0, p => p
  | n + 1, p => if ta tx len p ≥ a ∧ ta tx len p ≤ b then tk_run tx len a b n (p + 1) else p
/-- from, till, kind -/
abbrev ZTok : Type := Nat × Nat × Nat
def tk_at (tx : Nat → Int32) (len q : Nat) : ZTok := if ta tx len q ≥ 97 ∧ ta tx len q ≤ 122 then (q, tk_run tx len 97 122 (len - q) q, 1) else if ta tx len q ≥ 48 ∧ ta tx len q ≤ 57 then (q, tk_run tx len 48 57 (len - q) q, 2) else if q < len then (q, q + 1, 3) else (q, q, 0)
def tk (tx : Nat → Int32) (len p : Nat) : ZTok := tk_at tx len (tk_sp tx len (len - p) p)
theorem tk_sp_in (tx : Nat → Int32) (len : Nat) : ∀ (n p : Nat), p + n = len → p ≤ tk_sp tx len n p ∧ tk_sp tx len n p ≤ len := by
  intro n
  induction n with
  | zero => intro p h; exact ⟨Nat.le_refl _, by show p ≤ len; omega⟩
  | succ n ih =>
    intro p h
    rw [tk_sp]
    split
    · have := ih (p + 1) (by omega)
      omega
    · omega
theorem tk_run_in (tx : Nat → Int32) (len : Nat) (a b : Int32) : ∀ (n p : Nat), p + n = len → p ≤ tk_run tx len a b n p ∧ tk_run tx len a b n p ≤ len := by
  intro n
  induction n with
  | zero => intro p h; exact ⟨Nat.le_refl _, by show p ≤ len; omega⟩
  | succ n ih =>
    intro p h
    rw [tk_run]
    split
    · have := ih (p + 1) (by omega)
      omega
    · omega
theorem tk_run_1 {tx : Nat → Int32} {len p : Nat} {a b : Int32} (hp : p < len) (h : ta tx len p ≥ a ∧ ta tx len p ≤ b) : p < tk_run tx len a b (len - p) p := by
  obtain ⟨n, hn⟩ : ∃ n, len - p = n + 1 := ⟨len - p - 1, by omega⟩
  rw [hn, tk_run, if_pos h]
  have := tk_run_in tx len a b n (p + 1) (by omega)
  omega
theorem ta_end {tx : Nat → Int32} {len p : Nat} (h : ¬ p < len) : ta tx len p = -1 := if_neg h
theorem tk_at_in (tx : Nat → Int32) {len q : Nat} (hq : q ≤ len) : (tk_at tx len q).1 = q ∧ q ≤ (tk_at tx len q).2.1 ∧ (tk_at tx len q).2.1 ≤ len ∧ (tk_at tx len q).2.2 ≤ 3 ∧ ((tk_at tx len q).2.2 = 0 ↔ q = len) ∧ (q < len → q < (tk_at tx len q).2.1) := by
  have hl : ∀ a b : Int32, 0 ≤ a → (ta tx len q ≥ a ∧ ta tx len q ≤ b) → q < len := fun a b h0 h => by
    apply Classical.byContradiction
    intro hn
    rw [ta_end hn] at h
    have h1 := Int32.le_iff_toInt_le.mp h.1
    have h2 := Int32.le_iff_toInt_le.mp h0
    have h3 : ((-1 : Int32)).toInt = -1 := rfl
    have h4 : ((0 : Int32)).toInt = 0 := rfl
    omega
  unfold tk_at
  split
  · rename_i h
    have := hl 97 122 (by decide) h
    have h2 := tk_run_in tx len 97 122 (len - q) q (by omega)
    have h3 := tk_run_1 this h
    exact ⟨rfl, h2.1, h2.2, by show 1 ≤ 3; omega, by show 1 = 0 ↔ _; omega, fun _ => h3⟩
  · split
    · rename_i h
      have := hl 48 57 (by decide) h
      have h2 := tk_run_in tx len 48 57 (len - q) q (by omega)
      have h3 := tk_run_1 this h
      exact ⟨rfl, h2.1, h2.2, by show 2 ≤ 3; omega, by show 2 = 0 ↔ _; omega, fun _ => h3⟩
    · split
      · rename_i h
        exact ⟨rfl, by show q ≤ q + 1; omega, by show q + 1 ≤ len; omega, by show 3 ≤ 3; omega, by show 3 = 0 ↔ _; omega, fun _ => by show q < q + 1; omega⟩
      · exact ⟨rfl, by show q ≤ q; omega, by show q ≤ len; omega, by show 0 ≤ 3; omega, by show 0 = 0 ↔ _; omega, fun h => absurd h (by assumption)⟩
theorem tk_in (tx : Nat → Int32) {len p : Nat} (hp : p ≤ len) : p ≤ (tk tx len p).1 ∧ (tk tx len p).1 ≤ (tk tx len p).2.1 ∧ (tk tx len p).2.1 ≤ len ∧ (tk tx len p).2.2 ≤ 3 ∧ ((tk tx len p).2.2 = 0 ↔ (tk tx len p).1 = len) ∧ ((tk tx len p).1 < len → (tk tx len p).1 < (tk tx len p).2.1) := by
  have h1 := tk_sp_in tx len (len - p) p (by omega)
  have h2 := tk_at_in tx h1.2
  unfold tk
  rw [h2.1]
  exact ⟨h1.1, h2.2⟩
/-- the reference's token -/
def zT (im : ZI) (T : ZTok) : Prop := im 470 12 = nI T.1 ∧ im 470 13 = nI T.2.1 ∧ im 470 11 = nI T.2.2
def zN (im0 im : ZI) : Prop := zz_keep [470] im0 im ∧ ∀ j, j ≠ 11 → j ≠ 12 → j ≠ 13 → im 470 j = im0 470 j
theorem zN.rf {im : ZI} : zN im im := ⟨zz_keep.rf, fun _ _ _ _ => rfl⟩
theorem zN.u {im0 im : ZI} (h : zN im0 im) {j : Nat} {v : Int32} (hj : j = 11 ∨ j = 12 ∨ j = 13) : zN im0 (zz_u im 470 j v) :=
  ⟨h.1.u (by decide), fun k a b c => by rw [zz_u_n _ _ (Or.inr (by omega))]; exact h.2 k a b c⟩
theorem zN.tr {im0 im1 im2 : ZI} (h1 : zN im0 im1) (h2 : zN im1 im2) : zN im0 im2 := ⟨h1.1.tr h2.1 (fun _ h => h), fun j a b c => (h2.2 j a b c).trans (h1.2 j a b c)⟩
section ZTK
variable {G : ZG} {l : Launch}
theorem co_at (x : Int32) (p len : Nat) (im : ZI) (hx : x = nI p) (hp : p ≤ 1000) (hl : im 470 6 = nI len) (hln : len ≤ 140) : zz_OP G l 0 mX8_at [.ref 470, .int x] zE im (ta (im 474) len p) := by
  refine zz_intro (isI := false) (by decide) rfl (Nat.le_of_ble_eq_true rfl) (fun h => by cases h) (fun w S => ?_)
  refine zz_iload_1 S dX8_at_0 (q := 1) rfl ?_
  refine zz_aload_0 S dX8_at_1 (q := 2) rfl ?_
  refine zz_getI S fX8_199 rfl (Nat.le_of_ble_eq_true rfl) rfl dX8_at_2 (q := 5) rfl ?_
  refine zz_icmp_ge S dX8_at_5 (t := 17) (by decide) (q := 8) rfl (fun h1 => ?_) (fun h1 => ?_)
  -- then 17 else 8
  · have h2 : ¬ p < len := fun h => by
      rw [hx, hl] at h1
      exact nI_ge h (by omega) h1
    refine zz_iconst S (v := (-1)) rfl dX8_at_17 (q := 18) rfl ?_
    refine zz_iret S dX8_at_18 ⟨rfl, _, rfl, rfl, ?_⟩
    exact ⟨(ta_end h2).symm, rfl⟩
  · have h2 : p < len := by
      apply Classical.byContradiction
      intro h
      exact h1 (by rw [hx, hl]; exact nI_le (by omega) (by omega))
    refine zz_aload_0 S dX8_at_8 (q := 9) rfl ?_
    refine zz_getR S fX8_19 rfl (Nat.le_of_ble_eq_true rfl) rfl rfl dX8_at_9 (q := 12) rfl ?_
    refine zz_iload_1 S dX8_at_12 (q := 13) rfl ?_
    refine zz_iaN S (j := p) (Nat.le_of_ble_eq_true rfl) rfl (Nat.le_of_ble_eq_true rfl) hx (by omega) dX8_at_13 (q := 14) rfl ?_
    refine zz_goto S dX8_at_14 (t := 18) (by decide) ?_
    refine zz_iret S dX8_at_18 ⟨rfl, _, rfl, rfl, ?_⟩
    exact ⟨(if_pos h2).symm, rfl⟩
set_option maxHeartbeats 4000000 in
theorem lo_next1 {n0 mcT msT : Nat} {isI : Bool} {Qf : Option Value → ZE → ZI → Prop} {w : Nat → ZL → List Value → Nat → ZE → ZI → Prop} {z len Z : Nat} {tx : Nat → Int32} {im0 : ZI} (S : zz_S G l RX8 cX8_next 1 1 n0 mcT msT isI none Qf w)
    (ht : im0 474 = tx) (hl : im0 470 6 = nI len) (hln : len ≤ 140) (hQ : ∀ im, zN im0 im → im 470 12 = nI Z → w 34 [some (.ref 470)] [] z zE im) :
    ∀ (n p : Nat) (im : ZI), p + n = len → zN im0 im → im 470 12 = nI p → Z = tk_sp tx len n p → w 8 [some (.ref 470)] [] z zE im := by
  intro n
  induction n with
  | zero =>
    intro p im hp hN h12 hZ
    have hp : p = len := by omega
    subst hp
    refine zz_aload_0 S dX8_next_8 (q := 9) rfl ?_
    refine zz_aload_0 S dX8_next_9 (q := 10) rfl ?_
    refine zz_getI S fX8_205 rfl (Nat.le_of_ble_eq_true rfl) rfl dX8_next_10 (q := 13) rfl ?_
    -- at 13: invokevirtual 208
    refine zz_virtP S yy_X8_at lX8_208 (ci := 8) (by decide) rfl (co_at (im 470 12) p p im h12 (by omega) (by rw [hN.2 6 (by decide) (by decide) (by decide)]; exact hl) hln) rfl (Nat.le_of_ble_eq_true rfl) (Nat.le_of_ble_eq_true rfl) rfl (Nat.le_of_ble_eq_true rfl) rfl dX8_next_13 (q := 16) rfl ?_
    rw [ta_end (Nat.lt_irrefl p)]
    refine zz_bipush S (v := 32) rfl dX8_next_16 (q := 18) rfl ?_
    refine zz_icmp_ne S dX8_next_18 (t := 34) (by decide) (q := 21) rfl (fun a1 => ?_) (fun a1 => ?_)
    -- then 34 else 21
    · exact hQ im hN (by rw [h12, hZ]; rfl)
    · exact absurd a1 (by decide)
  | succ n ih =>
    intro p im hp hN h12 hZ
    refine zz_aload_0 S dX8_next_8 (q := 9) rfl ?_
    refine zz_aload_0 S dX8_next_9 (q := 10) rfl ?_
    refine zz_getI S fX8_205 rfl (Nat.le_of_ble_eq_true rfl) rfl dX8_next_10 (q := 13) rfl ?_
    -- at 13: invokevirtual 208
    refine zz_virtP S yy_X8_at lX8_208 (ci := 8) (by decide) rfl (co_at (im 470 12) p len im h12 (by omega) (by rw [hN.2 6 (by decide) (by decide) (by decide)]; exact hl) hln) rfl (Nat.le_of_ble_eq_true rfl) (Nat.le_of_ble_eq_true rfl) rfl (Nat.le_of_ble_eq_true rfl) rfl dX8_next_13 (q := 16) rfl ?_
    rw [hN.1 474 (by decide), ht]
    rw [tk_sp] at hZ
    refine zz_bipush S (v := 32) rfl dX8_next_16 (q := 18) rfl ?_
    refine zz_icmp_ne S dX8_next_18 (t := 34) (by decide) (q := 21) rfl (fun a1 => ?_) (fun a1 => ?_)
    -- then 34 else 21
    · rw [if_neg a1] at hZ
      exact hQ im hN (by rw [h12, hZ])
    · rw [if_pos a1] at hZ
      refine zz_aload_0 S dX8_next_21 (q := 22) rfl ?_
      refine zz_dup S rfl dX8_next_22 (q := 23) rfl ?_
      refine zz_getI S fX8_205 rfl (Nat.le_of_ble_eq_true rfl) rfl dX8_next_23 (q := 26) rfl ?_
      refine zz_iconst S (v := 1) rfl dX8_next_26 (q := 27) rfl ?_
      refine zz_iadd S dX8_next_27 (q := 28) rfl ?_
      refine zz_putI S fX8_205 rfl rfl (Nat.le_of_ble_eq_true rfl) rfl dX8_next_28 (q := 31) rfl ?_
      refine zz_goto S dX8_next_31 (t := 8) (by decide) ?_
      -- at 8
      exact ih (p + 1) _ (by omega) (hN.u (by decide)) (by rw [zz_u_e, h12]; exact nI_1 p) hZ
set_option maxHeartbeats 4000000 in
theorem lo_next2 {n0 mcT msT : Nat} {isI : Bool} {Qf : Option Value → ZE → ZI → Prop} {w : Nat → ZL → List Value → Nat → ZE → ZI → Prop} {z len Z q kd : Nat} {tx : Nat → Int32} {im0 : ZI} (S : zz_S G l RX8 cX8_next 1 1 n0 mcT msT isI none Qf w)
    (ht : im0 474 = tx) (hl : im0 470 6 = nI len) (hln : len ≤ 140) (hQ : ∀ im, zN im0 im → im 470 12 = nI q → im 470 11 = nI kd → im 470 13 = nI Z → w 195 [some (.ref 470)] [] z zE im) :
    ∀ (n p : Nat) (im : ZI), p + n = len → zN im0 im → im 470 12 = nI q → im 470 11 = nI kd → im 470 13 = nI p → Z = tk_run tx len 97 122 n p → w 65 [some (.ref 470)] [] z zE im := by
  intro n
  induction n with
  | zero =>
    intro p im hp hN h12 h11 h13 hZ
    have hp : p = len := by omega
    subst hp
    refine zz_aload_0 S dX8_next_65 (q := 66) rfl ?_
    refine zz_aload_0 S dX8_next_66 (q := 67) rfl ?_
    refine zz_getI S fX8_202 rfl (Nat.le_of_ble_eq_true rfl) rfl dX8_next_67 (q := 70) rfl ?_
    -- at 70: invokevirtual 208
    refine zz_virtP S yy_X8_at lX8_208 (ci := 8) (by decide) rfl (co_at (im 470 13) p p im h13 (by omega) (by rw [hN.2 6 (by decide) (by decide) (by decide)]; exact hl) hln) rfl (Nat.le_of_ble_eq_true rfl) (Nat.le_of_ble_eq_true rfl) rfl (Nat.le_of_ble_eq_true rfl) rfl dX8_next_70 (q := 73) rfl ?_
    rw [ta_end (Nat.lt_irrefl p)]
    refine zz_bipush S (v := 97) rfl dX8_next_73 (q := 75) rfl ?_
    refine zz_bipush S (v := 122) rfl dX8_next_75 (q := 77) rfl ?_
    -- at 77: invokestatic 90
    refine zz_statP S yy_X8_in lX8_90 (co_in G l (-1) 97 122 zE im) rfl (Nat.le_of_ble_eq_true rfl) (Nat.le_of_ble_eq_true rfl) rfl dX8_next_77 (q := 80) rfl ?_
    refine zz_if_eq S dX8_next_80 (t := 195) (by decide) (q := 83) rfl (fun a1 => ?_) (fun a1 => ?_)
    -- then 195 else 83
    · exact hQ im hN h12 h11 (by rw [h13, hZ]; rfl)
    · exact absurd (by decide) a1
  | succ n ih =>
    intro p im hp hN h12 h11 h13 hZ
    refine zz_aload_0 S dX8_next_65 (q := 66) rfl ?_
    refine zz_aload_0 S dX8_next_66 (q := 67) rfl ?_
    refine zz_getI S fX8_202 rfl (Nat.le_of_ble_eq_true rfl) rfl dX8_next_67 (q := 70) rfl ?_
    -- at 70: invokevirtual 208
    refine zz_virtP S yy_X8_at lX8_208 (ci := 8) (by decide) rfl (co_at (im 470 13) p len im h13 (by omega) (by rw [hN.2 6 (by decide) (by decide) (by decide)]; exact hl) hln) rfl (Nat.le_of_ble_eq_true rfl) (Nat.le_of_ble_eq_true rfl) rfl (Nat.le_of_ble_eq_true rfl) rfl dX8_next_70 (q := 73) rfl ?_
    rw [hN.1 474 (by decide), ht]
    rw [tk_run] at hZ
    refine zz_bipush S (v := 97) rfl dX8_next_73 (q := 75) rfl ?_
    refine zz_bipush S (v := 122) rfl dX8_next_75 (q := 77) rfl ?_
    -- at 77: invokestatic 90
    refine zz_statP S yy_X8_in lX8_90 (co_in G l (ta tx len p) 97 122 zE im) rfl (Nat.le_of_ble_eq_true rfl) (Nat.le_of_ble_eq_true rfl) rfl dX8_next_77 (q := 80) rfl ?_
    refine zz_if_eq S dX8_next_80 (t := 195) (by decide) (q := 83) rfl (fun a1 => ?_) (fun a1 => ?_)
    -- then 195 else 83
    · rw [if_neg (zs_b1.mp a1)] at hZ
      exact hQ im hN h12 h11 (by rw [h13, hZ])
    · rw [if_pos (zs_ne0 a1)] at hZ
      refine zz_aload_0 S dX8_next_83 (q := 84) rfl ?_
      refine zz_dup S rfl dX8_next_84 (q := 85) rfl ?_
      refine zz_getI S fX8_202 rfl (Nat.le_of_ble_eq_true rfl) rfl dX8_next_85 (q := 88) rfl ?_
      refine zz_iconst S (v := 1) rfl dX8_next_88 (q := 89) rfl ?_
      refine zz_iadd S dX8_next_89 (q := 90) rfl ?_
      refine zz_putI S fX8_202 rfl rfl (Nat.le_of_ble_eq_true rfl) rfl dX8_next_90 (q := 93) rfl ?_
      refine zz_goto S dX8_next_93 (t := 65) (by decide) ?_
      -- at 65
      exact ih (p + 1) _ (by omega) (hN.u (by decide)) (by rw [zz_u_n _ _ (by decide)]; exact h12) (by rw [zz_u_n _ _ (by decide)]; exact h11) (by rw [zz_u_e, h13]; exact nI_1 p) hZ
set_option maxHeartbeats 4000000 in
theorem lo_next3 {n0 mcT msT : Nat} {isI : Bool} {Qf : Option Value → ZE → ZI → Prop} {w : Nat → ZL → List Value → Nat → ZE → ZI → Prop} {z len Z q kd : Nat} {tx : Nat → Int32} {im0 : ZI} (S : zz_S G l RX8 cX8_next 1 1 n0 mcT msT isI none Qf w)
    (ht : im0 474 = tx) (hl : im0 470 6 = nI len) (hln : len ≤ 140) (hQ : ∀ im, zN im0 im → im 470 12 = nI q → im 470 11 = nI kd → im 470 13 = nI Z → w 195 [some (.ref 470)] [] z zE im) :
    ∀ (n p : Nat) (im : ZI), p + n = len → zN im0 im → im 470 12 = nI q → im 470 11 = nI kd → im 470 13 = nI p → Z = tk_run tx len 48 57 n p → w 119 [some (.ref 470)] [] z zE im := by
  intro n
  induction n with
  | zero =>
    intro p im hp hN h12 h11 h13 hZ
    have hp : p = len := by omega
    subst hp
    refine zz_aload_0 S dX8_next_119 (q := 120) rfl ?_
    refine zz_aload_0 S dX8_next_120 (q := 121) rfl ?_
    refine zz_getI S fX8_202 rfl (Nat.le_of_ble_eq_true rfl) rfl dX8_next_121 (q := 124) rfl ?_
    -- at 124: invokevirtual 208
    refine zz_virtP S yy_X8_at lX8_208 (ci := 8) (by decide) rfl (co_at (im 470 13) p p im h13 (by omega) (by rw [hN.2 6 (by decide) (by decide) (by decide)]; exact hl) hln) rfl (Nat.le_of_ble_eq_true rfl) (Nat.le_of_ble_eq_true rfl) rfl (Nat.le_of_ble_eq_true rfl) rfl dX8_next_124 (q := 127) rfl ?_
    rw [ta_end (Nat.lt_irrefl p)]
    refine zz_bipush S (v := 48) rfl dX8_next_127 (q := 129) rfl ?_
    refine zz_bipush S (v := 57) rfl dX8_next_129 (q := 131) rfl ?_
    -- at 131: invokestatic 90
    refine zz_statP S yy_X8_in lX8_90 (co_in G l (-1) 48 57 zE im) rfl (Nat.le_of_ble_eq_true rfl) (Nat.le_of_ble_eq_true rfl) rfl dX8_next_131 (q := 134) rfl ?_
    refine zz_if_eq S dX8_next_134 (t := 195) (by decide) (q := 137) rfl (fun a1 => ?_) (fun a1 => ?_)
    -- then 195 else 137
    · exact hQ im hN h12 h11 (by rw [h13, hZ]; rfl)
    · exact absurd (by decide) a1
  | succ n ih =>
    intro p im hp hN h12 h11 h13 hZ
    refine zz_aload_0 S dX8_next_119 (q := 120) rfl ?_
    refine zz_aload_0 S dX8_next_120 (q := 121) rfl ?_
    refine zz_getI S fX8_202 rfl (Nat.le_of_ble_eq_true rfl) rfl dX8_next_121 (q := 124) rfl ?_
    -- at 124: invokevirtual 208
    refine zz_virtP S yy_X8_at lX8_208 (ci := 8) (by decide) rfl (co_at (im 470 13) p len im h13 (by omega) (by rw [hN.2 6 (by decide) (by decide) (by decide)]; exact hl) hln) rfl (Nat.le_of_ble_eq_true rfl) (Nat.le_of_ble_eq_true rfl) rfl (Nat.le_of_ble_eq_true rfl) rfl dX8_next_124 (q := 127) rfl ?_
    rw [hN.1 474 (by decide), ht]
    rw [tk_run] at hZ
    refine zz_bipush S (v := 48) rfl dX8_next_127 (q := 129) rfl ?_
    refine zz_bipush S (v := 57) rfl dX8_next_129 (q := 131) rfl ?_
    -- at 131: invokestatic 90
    refine zz_statP S yy_X8_in lX8_90 (co_in G l (ta tx len p) 48 57 zE im) rfl (Nat.le_of_ble_eq_true rfl) (Nat.le_of_ble_eq_true rfl) rfl dX8_next_131 (q := 134) rfl ?_
    refine zz_if_eq S dX8_next_134 (t := 195) (by decide) (q := 137) rfl (fun a1 => ?_) (fun a1 => ?_)
    -- then 195 else 137
    · rw [if_neg (zs_b1.mp a1)] at hZ
      exact hQ im hN h12 h11 (by rw [h13, hZ])
    · rw [if_pos (zs_ne0 a1)] at hZ
      refine zz_aload_0 S dX8_next_137 (q := 138) rfl ?_
      refine zz_dup S rfl dX8_next_138 (q := 139) rfl ?_
      refine zz_getI S fX8_202 rfl (Nat.le_of_ble_eq_true rfl) rfl dX8_next_139 (q := 142) rfl ?_
      refine zz_iconst S (v := 1) rfl dX8_next_142 (q := 143) rfl ?_
      refine zz_iadd S dX8_next_143 (q := 144) rfl ?_
      refine zz_putI S fX8_202 rfl rfl (Nat.le_of_ble_eq_true rfl) rfl dX8_next_144 (q := 147) rfl ?_
      refine zz_goto S dX8_next_147 (t := 119) (by decide) ?_
      -- at 119
      exact ih (p + 1) _ (by omega) (hN.u (by decide)) (by rw [zz_u_n _ _ (by decide)]; exact h12) (by rw [zz_u_n _ _ (by decide)]; exact h11) (by rw [zz_u_e, h13]; exact nI_1 p) hZ
set_option maxHeartbeats 4000000 in
theorem co_next (p len : Nat) (im : ZI) (h13 : im 470 13 = nI p) (hp : p ≤ len) (hl : im 470 6 = nI len) (hln : len ≤ 140) : zz_OV G l 1 mX8_next [.ref 470] zE im (fun im' => zT im' (tk (im 474) len p) ∧ zN im im') := by
  refine zz_intro (isI := false) (by decide) rfl (Nat.le_of_ble_eq_true rfl) (fun h => by cases h) (fun w S => ?_)
  refine zz_aload_0 S dX8_next_0 (q := 1) rfl ?_
  refine zz_aload_0 S dX8_next_1 (q := 2) rfl ?_
  refine zz_getI S fX8_202 rfl (Nat.le_of_ble_eq_true rfl) rfl dX8_next_2 (q := 5) rfl ?_
  refine zz_putI S fX8_205 rfl rfl (Nat.le_of_ble_eq_true rfl) rfl dX8_next_5 (q := 8) rfl ?_
  -- at 8
  have h1 := tk_sp_in (im 474) len (len - p) p (by omega)
  have hT : tk (im 474) len p = tk_at (im 474) len (tk_sp (im 474) len (len - p) p) := rfl
  refine lo_next1 (im0 := im) (tx := im 474) (len := len) (Z := tk_sp (im 474) len (len - p) p) S rfl hl hln (fun im1 hN h12 => ?_) (len - p) p _ (by omega) (zN.rf.u (by decide)) (by rw [zz_u_e]; exact h13) rfl
  generalize tk_sp (im 474) len (len - p) p = q at h1 hT h12
  refine zz_aload_0 S dX8_next_34 (q := 35) rfl ?_
  refine zz_aload_0 S dX8_next_35 (q := 36) rfl ?_
  refine zz_getI S fX8_205 rfl (Nat.le_of_ble_eq_true rfl) rfl dX8_next_36 (q := 39) rfl ?_
  refine zz_putI S fX8_202 rfl rfl (Nat.le_of_ble_eq_true rfl) rfl dX8_next_39 (q := 42) rfl ?_
  refine zz_aload_0 S dX8_next_42 (q := 43) rfl ?_
  refine zz_aload_0 S dX8_next_43 (q := 44) rfl ?_
  refine zz_getI S fX8_205 rfl (Nat.le_of_ble_eq_true rfl) rfl dX8_next_44 (q := 47) rfl ?_
  -- at 47: invokevirtual 208
  have hN2 : zN im (zz_u im1 470 13 (im1 470 12)) := hN.u (by decide)
  have h12' : zz_u im1 470 13 (im1 470 12) 470 12 = nI q := by rw [zz_u_n _ _ (by decide)]; exact h12
  have h13' : zz_u im1 470 13 (im1 470 12) 470 13 = nI q := by rw [zz_u_e]; exact h12
  generalize zz_u im1 470 13 (im1 470 12) = im2 at hN2 h12' h13' ⊢
  have h6 : im2 470 6 = nI len := by rw [hN2.2 6 (by decide) (by decide) (by decide)]; exact hl
  have h474 : im2 474 = im 474 := hN2.1 474 (by decide)
  have fin : ∀ (T : ZTok) (im' : ZI), T = tk_at (im 474) len q → zN im im' → im' 470 12 = nI T.1 → im' 470 11 = nI T.2.2 → im' 470 13 = nI T.2.1 → w 195 [some (.ref 470)] [] 0 zE im' := fun T im' e hN' a b c => zz_vret S dX8_next_195 ⟨rfl, rfl, rfl, ⟨by rw [hT, ← e]; exact a, by rw [hT, ← e]; exact c, by rw [hT, ← e]; exact b⟩, hN'⟩
  refine zz_virtP S yy_X8_at lX8_208 (ci := 8) (by decide) rfl (co_at (im2 470 12) q len im2 h12' (by omega) h6 hln) rfl (Nat.le_of_ble_eq_true rfl) (Nat.le_of_ble_eq_true rfl) rfl (Nat.le_of_ble_eq_true rfl) rfl dX8_next_47 (q := 50) rfl ?_
  rw [h474]
  refine zz_bipush S (v := 97) rfl dX8_next_50 (q := 52) rfl ?_
  refine zz_bipush S (v := 122) rfl dX8_next_52 (q := 54) rfl ?_
  -- at 54: invokestatic 90
  refine zz_statP S yy_X8_in lX8_90 (co_in G l (ta (im 474) len q) 97 122 zE im2) rfl (Nat.le_of_ble_eq_true rfl) (Nat.le_of_ble_eq_true rfl) rfl dX8_next_54 (q := 57) rfl ?_
  refine zz_if_eq S dX8_next_57 (t := 96) (by decide) (q := 60) rfl (fun a1 => ?_) (fun a1 => ?_)
  -- then 96 else 60
  · have b1 := zs_b1.mp a1
    refine zz_aload_0 S dX8_next_96 (q := 97) rfl ?_
    refine zz_aload_0 S dX8_next_97 (q := 98) rfl ?_
    refine zz_getI S fX8_205 rfl (Nat.le_of_ble_eq_true rfl) rfl dX8_next_98 (q := 101) rfl ?_
    -- at 101: invokevirtual 208
    refine zz_virtP S yy_X8_at lX8_208 (ci := 8) (by decide) rfl (co_at (im2 470 12) q len im2 h12' (by omega) h6 hln) rfl (Nat.le_of_ble_eq_true rfl) (Nat.le_of_ble_eq_true rfl) rfl (Nat.le_of_ble_eq_true rfl) rfl dX8_next_101 (q := 104) rfl ?_
    rw [h474]
    refine zz_bipush S (v := 48) rfl dX8_next_104 (q := 106) rfl ?_
    refine zz_bipush S (v := 57) rfl dX8_next_106 (q := 108) rfl ?_
    -- at 108: invokestatic 90
    refine zz_statP S yy_X8_in lX8_90 (co_in G l (ta (im 474) len q) 48 57 zE im2) rfl (Nat.le_of_ble_eq_true rfl) (Nat.le_of_ble_eq_true rfl) rfl dX8_next_108 (q := 111) rfl ?_
    refine zz_if_eq S dX8_next_111 (t := 150) (by decide) (q := 114) rfl (fun a2 => ?_) (fun a2 => ?_)
    -- then 150 else 114
    · have b2 := zs_b1.mp a2
      refine zz_aload_0 S dX8_next_150 (q := 151) rfl ?_
      refine zz_aload_0 S dX8_next_151 (q := 152) rfl ?_
      refine zz_getI S fX8_205 rfl (Nat.le_of_ble_eq_true rfl) rfl dX8_next_152 (q := 155) rfl ?_
      refine zz_aload_0 S dX8_next_155 (q := 156) rfl ?_
      refine zz_getI S fX8_199 rfl (Nat.le_of_ble_eq_true rfl) rfl dX8_next_156 (q := 159) rfl ?_
      refine zz_icmp_ge S dX8_next_159 (t := 166) (by decide) (q := 162) rfl (fun a3 => ?_) (fun a3 => ?_)
      -- then 166 else 162
      · have b3 : ¬ q < len := fun h => by
          rw [h12', h6] at a3
          exact nI_ge h (by omega) a3
        have e : tk_at (im 474) len q = (q, q, 0) := by rw [tk_at, if_neg b1, if_neg b2, if_neg b3]
        refine zz_iconst S (v := 0) rfl dX8_next_166 (q := 167) rfl ?_
        refine zz_putI S fX8_211 rfl rfl (Nat.le_of_ble_eq_true rfl) rfl dX8_next_167 (q := 170) rfl ?_
        refine zz_aload_0 S dX8_next_170 (q := 171) rfl ?_
        refine zz_dup S rfl dX8_next_171 (q := 172) rfl ?_
        refine zz_getI S fX8_202 rfl (Nat.le_of_ble_eq_true rfl) rfl dX8_next_172 (q := 175) rfl ?_
        refine zz_aload_0 S dX8_next_175 (q := 176) rfl ?_
        refine zz_getI S fX8_205 rfl (Nat.le_of_ble_eq_true rfl) rfl dX8_next_176 (q := 179) rfl ?_
        refine zz_aload_0 S dX8_next_179 (q := 180) rfl ?_
        refine zz_getI S fX8_199 rfl (Nat.le_of_ble_eq_true rfl) rfl dX8_next_180 (q := 183) rfl ?_
        refine zz_icmp_ge S dX8_next_183 (t := 190) (by decide) (q := 186) rfl (fun a4 => ?_) (fun a4 => ?_)
        -- then 190 else 186
        · refine zz_iconst S (v := 0) rfl dX8_next_190 (q := 191) rfl ?_
          refine zz_iadd S dX8_next_191 (q := 192) rfl ?_
          refine zz_putI S fX8_202 rfl rfl (Nat.le_of_ble_eq_true rfl) rfl dX8_next_192 (q := 195) rfl ?_
          -- at 195
          refine fin _ _ e.symm ((hN2.u (by decide)).u (by decide)) ?_ ?_ ?_
          · rw [zz_u_n _ _ (by decide), zz_u_n _ _ (by decide)]; exact h12'
          · rw [zz_u_n _ _ (by decide), zz_u_e]; rfl
          · rw [zz_u_e, zz_u_n _ _ (by decide), h13']; exact Int32.add_zero _
        · exact absurd (by rw [zz_u_n _ _ (by decide), zz_u_n _ _ (by decide)]; exact a3) a4
      · have b3 : q < len := by
          apply Classical.byContradiction
          intro h
          exact a3 (by rw [h12', h6]; exact nI_le (by omega) (by omega))
        have e : tk_at (im 474) len q = (q, q + 1, 3) := by rw [tk_at, if_neg b1, if_neg b2, if_pos b3]
        refine zz_iconst S (v := 3) rfl dX8_next_162 (q := 163) rfl ?_
        refine zz_goto S dX8_next_163 (t := 167) (by decide) ?_
        refine zz_putI S fX8_211 rfl rfl (Nat.le_of_ble_eq_true rfl) rfl dX8_next_167 (q := 170) rfl ?_
        refine zz_aload_0 S dX8_next_170 (q := 171) rfl ?_
        refine zz_dup S rfl dX8_next_171 (q := 172) rfl ?_
        refine zz_getI S fX8_202 rfl (Nat.le_of_ble_eq_true rfl) rfl dX8_next_172 (q := 175) rfl ?_
        refine zz_aload_0 S dX8_next_175 (q := 176) rfl ?_
        refine zz_getI S fX8_205 rfl (Nat.le_of_ble_eq_true rfl) rfl dX8_next_176 (q := 179) rfl ?_
        refine zz_aload_0 S dX8_next_179 (q := 180) rfl ?_
        refine zz_getI S fX8_199 rfl (Nat.le_of_ble_eq_true rfl) rfl dX8_next_180 (q := 183) rfl ?_
        refine zz_icmp_ge S dX8_next_183 (t := 190) (by decide) (q := 186) rfl (fun a4 => ?_) (fun a4 => ?_)
        -- then 190 else 186
        · exact absurd (by rw [zz_u_n _ _ (by decide), zz_u_n _ _ (by decide)] at a4; exact a4) a3
        · refine zz_iconst S (v := 1) rfl dX8_next_186 (q := 187) rfl ?_
          refine zz_goto S dX8_next_187 (t := 191) (by decide) ?_
          refine zz_iadd S dX8_next_191 (q := 192) rfl ?_
          refine zz_putI S fX8_202 rfl rfl (Nat.le_of_ble_eq_true rfl) rfl dX8_next_192 (q := 195) rfl ?_
          -- at 195
          refine fin _ _ e.symm ((hN2.u (by decide)).u (by decide)) ?_ ?_ ?_
          · rw [zz_u_n _ _ (by decide), zz_u_n _ _ (by decide)]; exact h12'
          · rw [zz_u_n _ _ (by decide), zz_u_e]; rfl
          · rw [zz_u_e, zz_u_n _ _ (by decide), h13']; exact nI_1 q
    · have b2 := zs_ne0 a2
      have e : tk_at (im 474) len q = (q, tk_run (im 474) len 48 57 (len - q) q, 2) := by rw [tk_at, if_neg b1, if_pos b2]
      refine zz_aload_0 S dX8_next_114 (q := 115) rfl ?_
      refine zz_iconst S (v := 2) rfl dX8_next_115 (q := 116) rfl ?_
      refine zz_putI S fX8_211 rfl rfl (Nat.le_of_ble_eq_true rfl) rfl dX8_next_116 (q := 119) rfl ?_
      -- at 119
      refine lo_next3 (im0 := im) (tx := im 474) (len := len) (q := q) (kd := 2) S rfl hl hln (fun im' a b c d => fin _ im' e.symm a b c d) (len - q) q _ (by omega) (hN2.u (by decide)) (by rw [zz_u_n _ _ (by decide)]; exact h12') (by rw [zz_u_e]; rfl) (by rw [zz_u_n _ _ (by decide)]; exact h13') rfl
  · have b1 := zs_ne0 a1
    have e : tk_at (im 474) len q = (q, tk_run (im 474) len 97 122 (len - q) q, 1) := by rw [tk_at, if_pos b1]
    refine zz_aload_0 S dX8_next_60 (q := 61) rfl ?_
    refine zz_iconst S (v := 1) rfl dX8_next_61 (q := 62) rfl ?_
    refine zz_putI S fX8_211 rfl rfl (Nat.le_of_ble_eq_true rfl) rfl dX8_next_62 (q := 65) rfl ?_
    -- at 65
    refine lo_next2 (im0 := im) (tx := im 474) (len := len) (q := q) (kd := 1) S rfl hl hln (fun im' a b c d => fin _ im' e.symm a b c d) (len - q) q _ (by omega) (hN2.u (by decide)) (by rw [zz_u_n _ _ (by decide)]; exact h12') (by rw [zz_u_e]; rfl) (by rw [zz_u_n _ _ (by decide)]; exact h13') rfl
end ZTK
