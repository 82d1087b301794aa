/-! THE CLASS: melts -/
theorem mk_z {p : Nat → Bool} : ∀ n, mk p n = 0 ↔ ∀ i, i < n → p i = false := by
  intro n
  induction n with
  | zero => exact ⟨fun _ i hi => absurd hi (by omega), fun _ => rfl⟩
  | succ n ih =>
    rw [mk]
    by_cases h : p n
    · rw [if_pos h]
      have := Nat.two_pow_pos n
      constructor
      · intro e
        omega
      · intro e
        have := e n (by omega)
        rw [this] at h
        exact absurd h (by decide)
    · rw [if_neg h, ih]
      constructor
      · intro e i hi
        by_cases hin : i = n
        · rw [hin]
          simpa using h
        · exact e i (by omega)
      · intro e i hi
        exact e i (by omega)
theorem pc_out {p q : Nat → Bool} (h : ∀ i, q i = true → p i = true) : ∀ n, pc (fun i => p i && !q i) n + pc q n = pc p n := by
  intro n
  induction n with
  | zero => rfl
  | succ n ih =>
    rw [pc, pc, pc]
    by_cases hq : q n
    · have hp := h n hq
      simp only [hp, hq]
      simp
      omega
    · by_cases hp : p n
      · simp only [hp, hq]
        simp
        omega
      · simp only [hp, hq]
        simp
        exact ih
theorem op_lf_0 (st : Nat → Int32) : ∀ (n c : Nat) (b : Int32), op_lfG st n c b = 0 ↔ b = 0 ∧ ∀ j, c ≤ j → j < c + n → st j ≠ 1 := by
  intro n
  induction n with
  | zero =>
    intro c b
    exact ⟨fun e => ⟨e, fun j h1 h2 => absurd h2 (by omega)⟩, fun e => e.1⟩
  | succ n ih =>
    intro c b
    rw [op_lfG, ih]
    constructor
    · rintro ⟨h1, h2⟩
      by_cases hb : b = 0
      · rw [if_neg (fun e => e hb)] at h1
        by_cases hc : st c ≠ 1
        · refine ⟨hb, fun j a d => ?_⟩
          by_cases hj : j = c
          · rw [hj]; exact hc
          · exact h2 j (by omega) (by omega)
        · rw [if_neg hc] at h1
          exact absurd h1 (by decide)
      · rw [if_pos hb] at h1
        exact absurd h1 (by decide)
    · rintro ⟨h1, h2⟩
      exact ⟨by rw [if_neg (fun e => e h1), if_pos (h2 c (by omega) (by omega))], fun j a d => h2 j (by omega) (by omega)⟩
theorem op_ml_was (s : ZSt) (nc : Nat) (st : Nat → Int32) (j : Nat) : (op_ml s nc st).2 j = st j ∨ (st j = 1 ∧ (op_ml s nc st).2 j = 2) := op_mlG_was (sp_wt s) (s 7) nc 0 0 0 st j
/-- the set of those still accepted -/
theorem isA_next (s : ZSt) (nc : Nat) (st : Nat → Int32) (j : Nat) : isA (op_ml s nc st).2 j = (isA st j && !ch (op_ml s nc st).2 st j) := by
  unfold isA ch
  rcases op_ml_was s nc st j with h | ⟨h1, h2⟩
  · rw [h]
    simp
  · rw [h1, h2]
    decide
theorem ch_sub (s : ZSt) (nc : Nat) (st : Nat → Int32) (j : Nat) (h : ch (op_ml s nc st).2 st j = true) : isA st j = true := by
  unfold isA ch at *
  rcases op_ml_was s nc st j with h1 | ⟨h1, h2⟩
  · rw [h1] at h
    simp at h
  · rw [h1]
    decide
section ZMLT
variable {G : ZG} {l : Launch}
set_option maxHeartbeats 4000000 in
theorem lx_melts {n0 mcT msT : Nat} {isI : Bool} {Qf : Option Value → ZE → ZI → Prop} {w : Nat → ZL → List Value → Nat → ZE → ZI → Prop} {z nw nc : Nat} {im : ZI} {s : ZSt} {Z : Int32} (S : zz_S G l RX4 cX4_meltsNeeded 4 3 n0 mcT msT isI (some .int) Qf w)
    (h1 : im 2 5 = nI nc) (hn : nc ≤ 10) (hr : rS im 2 s nw nc) (hQ : Qf (some (.int Z)) zE im) :
    ∀ (n m : Nat) (x y : Int32) (st : Nat → Int32) (u : Option Value), n + m = 11 → x = nI m → y = nI (mk (isA st) nc) → pc (isA st) nc + m ≤ 10 → Z = (if op_lfG (op_mtG s nc n x st).2 nc 0 0 = 0 then (op_mtG s nc n x st).1 else -100009) → w 7 [some (.ref 2), some (.int y), some (.int x), u] [] z zE im := by
  intro n
  induction n with
  | zero => intro m x y st u hm hx hy hp; omega
  | succ n ih =>
    intro m x y st u hm hx hy hp hZ
    have hpc := op_ml_pc s nc st
    have hm0 := mk_0 (ch (op_ml s nc st).2 st) nc
    have hpl := pc_le (ch (op_ml s nc st).2 st) nc
    have hlt := mk_1024 (ch (op_ml s nc st).2 st) hn
    have hlt2 := mk_1024 (isA st) hn
    -- nothing was chosen
    have none1 : pc (ch (op_ml s nc st).2 st) nc = 0 → Z = (if ∀ j, j < nc → st j ≠ 1 then x else -100009) := fun h => by
      rw [h] at hpc
      rw [op_mtG, if_neg (show ¬ (op_ml s nc st).1 > 0 by rw [hpc]; decide)] at hZ
      have hsame : ∀ j, j < nc → (op_ml s nc st).2 j = st j := fun j hj => by
        have h2 := (mk_z nc).mp (hm0.mpr h) j hj
        unfold ch at h2
        simpa using h2
      have hiff : op_lfG (op_ml s nc st).2 nc 0 0 = 0 ↔ ∀ j, j < nc → st j ≠ 1 := by
        rw [op_lf_0]
        exact ⟨fun e j hj => by rw [← hsame j hj]; exact e.2 j (by omega) (by omega), fun e => ⟨rfl, fun j _ hj => by rw [hsame j (by omega)]; exact e j (by omega)⟩⟩
      rw [hZ]
      show (if op_lfG (op_ml s nc st).2 nc 0 0 = 0 then x else -100009) = _
      by_cases hh : ∀ j, j < nc → st j ≠ 1
      · rw [if_pos (hiff.mpr hh), if_pos hh]
      · rw [if_neg (fun e => hh (hiff.mp e)), if_neg hh]
    have left0 : y = 0 ↔ ∀ j, j < nc → st j ≠ 1 := by
      rw [hy]
      rw [show (nI (mk (isA st) nc) = 0 ↔ mk (isA st) nc = 0) from nI_eq (a := mk (isA st) nc) (b := 0) (by omega) (by omega), mk_z]
      unfold isA
      simp
    refine zz_iload_2 S dX4_meltsNeeded_7 (q := 8) rfl ?_
    refine zz_bipush S (v := 10) rfl dX4_meltsNeeded_8 (q := 10) rfl ?_
    refine zz_icmp_gt S dX4_meltsNeeded_10 (t := 44) (by decide) (q := 13) rfl (fun a1 => ?_) (fun a1 => ?_)
    -- then 44 else 13
    · exact absurd a1 (by rw [gt_iff_lt, hx]; exact nI_nlt (a := 10) (b := m) (by omega) (by omega))
    · refine zz_iload_1 S dX4_meltsNeeded_13 (q := 14) rfl ?_
      refine zz_if_ne S dX4_meltsNeeded_14 (t := 19) (by decide) (q := 17) rfl (fun a2 => ?_) (fun a2 => ?_)
      -- then 19 else 17
      · refine zz_aload_0 S dX4_meltsNeeded_19 (q := 20) rfl ?_
        refine zz_iload_1 S dX4_meltsNeeded_20 (q := 21) rfl ?_
        -- at 21: invokevirtual 123
        refine zz_virtP S yy_X4_nextMelt lX4_123 (ci := 4) (by decide) rfl (cx_next y nw nc s st im hy h1 hn hr) rfl (Nat.le_of_ble_eq_true rfl) (Nat.le_of_ble_eq_true rfl) rfl (Nat.le_of_ble_eq_true rfl) rfl dX4_meltsNeeded_21 (q := 24) rfl ?_
        refine zz_istore_3 S rfl dX4_meltsNeeded_24 (q := 25) rfl ?_
        refine zz_iload_3 S dX4_meltsNeeded_25 (q := 26) rfl ?_
        refine zz_if_ne S dX4_meltsNeeded_26 (t := 32) (by decide) (q := 29) rfl (fun a3 => ?_) (fun a3 => ?_)
        -- then 32 else 29
        · have a3' : mk (ch (op_ml s nc st).2 st) nc ≠ 0 := fun e => a3 (by rw [e]; rfl)
          have hpos : pc (ch (op_ml s nc st).2 st) nc ≠ 0 := fun e => a3' (hm0.mpr e)
          have hgt : (op_ml s nc st).1 > 0 := by
            rw [hpc]
            show nI 0 < nI _
            exact nI_lt (by omega) (by omega)
          rw [op_mtG, if_pos hgt] at hZ
          refine zz_iload_1 S dX4_meltsNeeded_32 (q := 33) rfl ?_
          refine zz_iload_3 S dX4_meltsNeeded_33 (q := 34) rfl ?_
          refine zz_iconst S (v := (-1)) rfl dX4_meltsNeeded_34 (q := 35) rfl ?_
          refine zz_ixor S dX4_meltsNeeded_35 (q := 36) rfl ?_
          refine zz_iand S dX4_meltsNeeded_36 (q := 37) rfl ?_
          refine zz_istore_1 S rfl dX4_meltsNeeded_37 (q := 38) rfl ?_
          refine zz_iinc_2 S rfl dX4_meltsNeeded_38 (q := 41) rfl ?_
          refine zz_goto S dX4_meltsNeeded_41 (t := 7) (by decide) ?_
          -- at 7
          refine ih (m + 1) _ _ (op_ml s nc st).2 _ (by omega) (by rw [hx]; exact nI_1 m) ?_ ?_ ?_
          · rw [hy, bt_out hn, mk_eq nc (fun i _ => (isA_next s nc st i).symm)]
          · have := pc_out (p := isA st) (q := ch (op_ml s nc st).2 st) (ch_sub s nc st) nc
            rw [pc_eq nc (fun i _ => isA_next s nc st i)]
            omega
          · exact hZ
        · have a3' : mk (ch (op_ml s nc st).2 st) nc = 0 := (nI_eq (a := mk (ch (op_ml s nc st).2 st) nc) (b := 0) (by omega) (by omega)).mp a3
          have hz := none1 (hm0.mp a3')
          rw [if_neg (fun e => a2 (left0.mpr e))] at hz
          refine zz_ldc S (v := (-100009)) kX4_73 dX4_meltsNeeded_29 (q := 31) rfl ?_
          -- at 31: ireturn 
          exact zz_iret S dX4_meltsNeeded_31 (by rw [hz] at hQ; exact hQ)
      · have a2' := left0.mp a2
        have hp0 : pc (ch (op_ml s nc st).2 st) nc = 0 := hm0.mp ((mk_z nc).mpr (fun i hi => by
          cases hb : ch (op_ml s nc st).2 st i with
          | false => rfl
          | true =>
            have := ch_sub s nc st i hb
            unfold isA at this
            exact absurd (by simpa using this) (a2' i hi)))
        have hz := none1 hp0
        rw [if_pos a2'] at hz
        refine zz_iload_2 S dX4_meltsNeeded_17 (q := 18) rfl ?_
        -- at 18: ireturn 
        exact zz_iret S dX4_meltsNeeded_18 (by rw [hz] at hQ; exact hQ)
theorem cx_meltsNeeded (nw nc : Nat) (s : ZSt) (im : ZI) (h1 : im 2 5 = nI nc) (hn : nc ≤ 10) (hr : rS im 2 s nw nc) : zz_OP G l 3 mX4_meltsNeeded [.ref 2] zE im (ol_melts s nc) := by
  have := pc_le (isA (op_st s)) nc
  refine zz_intro (isI := false) (by decide) rfl (Nat.le_of_ble_eq_true rfl) (fun h => by cases h) (fun w S => ?_)
  refine zz_aload_0 S dX4_meltsNeeded_0 (q := 1) rfl ?_
  -- at 1: invokevirtual 119
  refine zz_virtP S yy_X4_acceptedOnes lX4_119 (ci := 4) (by decide) rfl (cx_ones nw nc s im h1 hn hr) rfl (Nat.le_of_ble_eq_true rfl) (Nat.le_of_ble_eq_true rfl) rfl (Nat.le_of_ble_eq_true rfl) rfl dX4_meltsNeeded_1 (q := 4) rfl ?_
  refine zz_istore_1 S rfl dX4_meltsNeeded_4 (q := 5) rfl ?_
  refine zz_iconst S (v := 0) rfl dX4_meltsNeeded_5 (q := 6) rfl ?_
  refine zz_istore_2 S rfl dX4_meltsNeeded_6 (q := 7) rfl ?_
  -- at 7
  exact lx_melts (Z := ol_melts s nc) S h1 hn hr ⟨rfl, _, rfl, rfl, rfl, rfl⟩ 11 0 _ _ (op_st s) _ (by omega) rfl rfl (by omega) rfl
theorem cx_melts (nw nc : Nat) (s : ZSt) (im : ZI) (hI : sI s nw nc) (hr : rS im 2 s nw nc) : zz_OI G l 4 mX7_melts [.ref 0] zE im (fun r im' => zxL im im' r (ol_melts s nc)) := by
  refine zz_intro (isI := false) (by decide) rfl (Nat.le_of_ble_eq_true rfl) (fun h => by cases h) (fun w S => ?_)
  refine zz_aload_0 S dX7_melts_0 (q := 1) rfl ?_
  refine zz_getR S fX7_41 rfl (Nat.le_of_ble_eq_true rfl) rfl rfl dX7_melts_1 (q := 4) rfl ?_
  -- at 4: invokevirtual 261
  refine zz_virtP S yy_X4_meltsNeeded lX7_261 (ci := 4) (by decide) rfl (cx_meltsNeeded nw nc s im (hr.n.2.1.trans hI.2.2.1) hI.2.2.2.1 hr) rfl (Nat.le_of_ble_eq_true rfl) (Nat.le_of_ble_eq_true rfl) rfl (Nat.le_of_ble_eq_true rfl) rfl dX7_melts_4 (q := 7) rfl ?_
  refine zz_iret S dX7_melts_7 ⟨rfl, _, rfl, rfl, ?_⟩
  exact zxL.p rfl
end ZMLT
