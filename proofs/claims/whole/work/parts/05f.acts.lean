/-! THE REFERENCE: actions -/
/-- the memory with the row r filled from place b on, k ints of f -/
def zz_fo (im : ZI) (r b : Nat) (f : Nat → Int32) (k : Nat) : ZI := fun q => if q = r then fun j => if b ≤ j ∧ j < b + k then f (j - b) else im r j else im q
theorem zz_fo_0 (im : ZI) (r b : Nat) (f : Nat → Int32) : zz_fo im r b f 0 = im := by
  funext q
  unfold zz_fo
  by_cases h : q = r
  · subst h
    rw [if_pos rfl]
    funext j
    rw [if_neg (by omega)]
  · rw [if_neg h]
theorem zz_fo_s {im : ZI} {r b : Nat} {f : Nat → Int32} {k : Nat} {v : Int32} (hv : v = f k) : zz_u (zz_fo im r b f k) r (b + k) v = zz_fo im r b f (k + 1) := by
  funext q j
  unfold zz_u zz_fo
  by_cases h : q = r
  · subst h
    simp only [if_true, true_and]
    by_cases hj : j = b + k
    · subst hj
      rw [if_pos rfl, if_pos (by omega), hv]
      congr 1
      omega
    · rw [if_neg hj]
      by_cases h2 : b ≤ j ∧ j < b + k
      · rw [if_pos h2, if_pos (by omega)]
      · rw [if_neg h2, if_neg (by omega)]
  · simp [h]
theorem zz_fo_off {im : ZI} {r b : Nat} {f : Nat → Int32} {k q : Nat} (h : q ≠ r) : zz_fo im r b f k q = im q := if_neg h
theorem zz_fo_at {im : ZI} {r b : Nat} {f : Nat → Int32} {k j : Nat} : zz_fo im r b f k r j = if b ≤ j ∧ j < b + k then f (j - b) else im r j := by
  unfold zz_fo
  rw [if_pos rfl]
/-- the memory with another state -/
def zz_sr (im : ZI) (s : ZSt) : ZI := fun q => if q = 471 then s else im q
theorem zz_sr_u (im : ZI) (j : Nat) (v : Int32) : zz_u im 471 j v = zz_sr im (upd (im 471) j v) := by
  funext q
  by_cases h : q = 471
  · subst h
    rw [zz_u_row]
    exact (if_pos rfl).symm
  · rw [zz_u_off _ _ _ _ h]
    exact (if_neg h).symm
theorem zz_sr_sr (im : ZI) (s t : ZSt) : zz_sr (zz_sr im s) t = zz_sr im t := by
  funext q
  unfold zz_sr
  by_cases h : q = 471 <;> simp [h]
theorem zz_sr_s (im : ZI) (s : ZSt) : zz_sr im s 471 = s := if_pos rfl
theorem zz_sr_n (im : ZI) (s : ZSt) {q : Nat} (h : q ≠ 471) : zz_sr im s q = im q := if_neg h
theorem zz_keep.sr {ks : List Nat} {im im' : ZI} (h : zz_keep ks im im') {s : ZSt} (hk : 471 ∈ ks) : zz_keep ks im (zz_sr im' s) := fun q hq => by
  rw [zz_sr_n _ _ (fun e => hq (by rw [e]; exact hk))]
  exact h q hq
/-- the history: n states -/
def zm_h (im : ZI) (n : Nat) (h : Nat → ZSt) : Prop := n ≤ 5 ∧ im 470 4 = nI n ∧ ∀ i k, i < n → k < 356 → im 473 (356 * i + k) = h i k
def sh_n (n : Nat) : Nat := if n = 5 then 5 else n + 1
def sh_p (n : Nat) (h : Nat → ZSt) (s : ZSt) : Nat → ZSt := fun i => if n = 5 then (if i = 4 then s else h (i + 1)) else if i = n then s else h i
section ZACT
variable {G : ZG} {l : Launch}
set_option maxHeartbeats 4000000 in
theorem lo_act1 {n0 mcT msT : Nat} {isI : Bool} {Qf : Option Value → ZE → ZI → Prop} {w : Nat → ZL → List Value → Nat → ZE → ZI → Prop} {z : Nat} {im : ZI} (S : zz_S G l RX8 cX8_act 2 0 n0 mcT msT isI none Qf w)
    (hQ : ∀ x, w 39 [some (.ref 470), some (.int x)] [] z zE (zz_fo im 473 0 (fun j => im 473 (j + 356)) 1424)) :
    ∀ (n k : Nat) (x : Int32), k + n = 1424 → x = nI k → w 10 [some (.ref 470), some (.int x)] [] z zE (zz_fo im 473 0 (fun j => im 473 (j + 356)) k) := by
  intro n
  induction n with
  | zero =>
    intro k x hk hx
    have hk : k = 1424 := by omega
    subst hk
    refine zz_iload_1 S dX8_act_10 (q := 11) rfl ?_
    refine zz_sipush S (v := 1424) rfl dX8_act_11 (q := 14) rfl ?_
    refine zz_icmp_ge S dX8_act_14 (t := 39) (by decide) (q := 17) rfl (fun a1 => ?_) (fun a1 => ?_)
    -- then 39 else 17
    · exact hQ x
    · exact absurd (by rw [hx, ge_iff_le, Int32.le_iff_toInt_le]; decide) a1
  | succ n ih =>
    intro k x hk hx
    have hx1 := nI_toInt (n := k) (by omega)
    have e1 : x + 356 = nI (k + 356) := by rw [hx]; exact nI_add k 356
    refine zz_iload_1 S dX8_act_10 (q := 11) rfl ?_
    refine zz_sipush S (v := 1424) rfl dX8_act_11 (q := 14) rfl ?_
    refine zz_icmp_ge S dX8_act_14 (t := 39) (by decide) (q := 17) rfl (fun a1 => ?_) (fun a1 => ?_)
    -- then 39 else 17
    · exact absurd a1 (by rw [hx, ge_iff_le, Int32.le_iff_toInt_le, hx1]; show ¬ (1424 : Int) ≤ _; omega)
    · refine zz_aload_0 S dX8_act_17 (q := 18) rfl ?_
      refine zz_getR S fX8_16 rfl (Nat.le_of_ble_eq_true rfl) rfl rfl dX8_act_18 (q := 21) rfl ?_
      refine zz_iload_1 S dX8_act_21 (q := 22) rfl ?_
      refine zz_aload_0 S dX8_act_22 (q := 23) rfl ?_
      refine zz_getR S fX8_16 rfl (Nat.le_of_ble_eq_true rfl) rfl rfl dX8_act_23 (q := 26) rfl ?_
      refine zz_iload_1 S dX8_act_26 (q := 27) rfl ?_
      refine zz_sipush S (v := 356) rfl dX8_act_27 (q := 30) rfl ?_
      refine zz_iadd S dX8_act_30 (q := 31) rfl ?_
      refine zz_iaN S (j := k + 356) (Nat.le_of_ble_eq_true rfl) rfl (Nat.le_of_ble_eq_true rfl) e1 (by omega) dX8_act_31 (q := 32) rfl ?_
      refine zz_iaS S (j := k) (Nat.le_of_ble_eq_true rfl) rfl (Nat.le_of_ble_eq_true rfl) hx (by omega) dX8_act_32 (q := 33) rfl ?_
      refine zz_iinc_1 S rfl dX8_act_33 (q := 36) rfl ?_
      refine zz_goto S dX8_act_36 (t := 10) (by decide) ?_
      -- at 10
      have e2 := zz_fo_s (im := im) (r := 473) (b := 0) (f := fun j => im 473 (j + 356)) (k := k) (v := zz_fo im 473 0 (fun j => im 473 (j + 356)) k 473 (k + 356)) (by rw [zz_fo_at, if_neg (by omega)])
      rw [Nat.zero_add] at e2
      rw [e2]
      exact ih (k + 1) _ (by omega) (by rw [hx]; exact nI_add k 1)
set_option maxHeartbeats 4000000 in
theorem lo_act2 {n0 mcT msT : Nat} {isI : Bool} {Qf : Option Value → ZE → ZI → Prop} {w : Nat → ZL → List Value → Nat → ZE → ZI → Prop} {z : Nat} {im : ZI} {m : Nat} (S : zz_S G l RX8 cX8_act 2 0 n0 mcT msT isI none Qf w) (hm : m < 5) (h4 : im 470 4 = nI m)
    (hQ : ∀ x, w 85 [some (.ref 470), some (.int x)] [] z zE (zz_fo im 473 (356 * m) (im 471) 356)) :
    ∀ (n k : Nat) (x : Int32), k + n = 356 → x = nI k → w 51 [some (.ref 470), some (.int x)] [] z zE (zz_fo im 473 (356 * m) (im 471) k) := by
  intro n
  induction n with
  | zero =>
    intro k x hk hx
    have hk : k = 356 := by omega
    subst hk
    refine zz_iload_1 S dX8_act_51 (q := 52) rfl ?_
    refine zz_sipush S (v := 356) rfl dX8_act_52 (q := 55) rfl ?_
    refine zz_icmp_ge S dX8_act_55 (t := 85) (by decide) (q := 58) rfl (fun a1 => ?_) (fun a1 => ?_)
    -- then 85 else 58
    · exact hQ x
    · exact absurd (by rw [hx, ge_iff_le, Int32.le_iff_toInt_le]; decide) a1
  | succ n ih =>
    intro k x hk hx
    have hx1 := nI_toInt (n := k) (by omega)
    have e1 : 356 * zz_fo im 473 (356 * m) (im 471) k 470 4 + x = nI (356 * m + k) := by
      rw [zz_fo_off (by decide), h4, hx]
      show nI 356 * nI m + nI k = _
      rw [pk_mul, nI_add]
    refine zz_iload_1 S dX8_act_51 (q := 52) rfl ?_
    refine zz_sipush S (v := 356) rfl dX8_act_52 (q := 55) rfl ?_
    refine zz_icmp_ge S dX8_act_55 (t := 85) (by decide) (q := 58) rfl (fun a1 => ?_) (fun a1 => ?_)
    -- then 85 else 58
    · exact absurd a1 (by rw [hx, ge_iff_le, Int32.le_iff_toInt_le, hx1]; show ¬ (356 : Int) ≤ _; omega)
    · refine zz_aload_0 S dX8_act_58 (q := 59) rfl ?_
      refine zz_getR S fX8_16 rfl (Nat.le_of_ble_eq_true rfl) rfl rfl dX8_act_59 (q := 62) rfl ?_
      refine zz_sipush S (v := 356) rfl dX8_act_62 (q := 65) rfl ?_
      refine zz_aload_0 S dX8_act_65 (q := 66) rfl ?_
      refine zz_getI S fX8_39 rfl (Nat.le_of_ble_eq_true rfl) rfl dX8_act_66 (q := 69) rfl ?_
      refine zz_imul S dX8_act_69 (q := 70) rfl ?_
      refine zz_iload_1 S dX8_act_70 (q := 71) rfl ?_
      refine zz_iadd S dX8_act_71 (q := 72) rfl ?_
      refine zz_aload_0 S dX8_act_72 (q := 73) rfl ?_
      refine zz_getR S fX8_7 rfl (Nat.le_of_ble_eq_true rfl) rfl rfl dX8_act_73 (q := 76) rfl ?_
      refine zz_iload_1 S dX8_act_76 (q := 77) rfl ?_
      refine zz_iaN S (j := k) (Nat.le_of_ble_eq_true rfl) rfl (Nat.le_of_ble_eq_true rfl) hx (by omega) dX8_act_77 (q := 78) rfl ?_
      refine zz_iaS S (j := 356 * m + k) (Nat.le_of_ble_eq_true rfl) rfl (Nat.le_of_ble_eq_true rfl) e1 (by omega) dX8_act_78 (q := 79) rfl ?_
      refine zz_iinc_1 S rfl dX8_act_79 (q := 82) rfl ?_
      refine zz_goto S dX8_act_82 (t := 51) (by decide) ?_
      -- at 51
      rw [zz_fo_s (by rw [zz_fo_off (by decide)])]
      exact ih (k + 1) _ (by omega) (by rw [hx]; exact nI_add k 1)
theorem co_act (im : ZI) (n : Nat) (h : Nat → ZSt) (hh : zm_h im n h) : zz_OV G l 0 mX8_act [.ref 470] zE im (fun im' => zm_h im' (sh_n n) (sh_p n h (im 471)) ∧ (∀ j, j ≠ 4 → im' 470 j = im 470 j) ∧ zz_keep [470, 473] im im') := by
  obtain ⟨hn, h4, hs⟩ := hh
  -- from 49 on, with m states
  have fin : ∀ (w : Nat → ZL → List Value → Nat → ZE → ZI → Prop), zz_S G l RX8 cX8_act 2 0 zE.1 0 0 false none (fun v E' im' => E'.1 = zE.1 + 0 ∧ v = none ∧ E' = zE ∧ zm_h im' (sh_n n) (sh_p n h (im 471)) ∧ (∀ j, j ≠ 4 → im' 470 j = im 470 j) ∧ zz_keep [470, 473] im im') w →
      ∀ (m : Nat) (im1 : ZI) (u : Option Value), m < 5 → sh_n n = m + 1 → im1 470 4 = nI m → (∀ j, j ≠ 4 → im1 470 j = im 470 j) → zz_keep [470, 473] im im1 → (∀ i k, i < m → k < 356 → im1 473 (356 * i + k) = sh_p n h (im 471) i k) → sh_p n h (im 471) m = im 471 → w 49 [some (.ref 470), u] [] 0 zE im1 := by
    intro w S m im1 u hm hsn h1 h2 h3 h5 h6
    have e471 : im1 471 = im 471 := h3 471 (by decide)
    refine zz_iconst S (v := 0) rfl dX8_act_49 (q := 50) rfl ?_
    refine zz_istore_1 S rfl dX8_act_50 (q := 51) rfl ?_
    -- at 51
    have key := lo_act2 (im := im1) (z := 0) S hm h1 (fun x => ?_) 356 0 0 (by omega) rfl
    · rw [zz_fo_0] at key
      exact key
    · refine zz_aload_0 S dX8_act_85 (q := 86) rfl ?_
      refine zz_dup S rfl dX8_act_86 (q := 87) rfl ?_
      refine zz_getI S fX8_39 rfl (Nat.le_of_ble_eq_true rfl) rfl dX8_act_87 (q := 90) rfl ?_
      refine zz_iconst S (v := 1) rfl dX8_act_90 (q := 91) rfl ?_
      refine zz_iadd S dX8_act_91 (q := 92) rfl ?_
      refine zz_putI S fX8_39 rfl rfl (Nat.le_of_ble_eq_true rfl) rfl dX8_act_92 (q := 95) rfl ?_
      -- at 95: return_ 
      refine zz_vret S dX8_act_95 ⟨rfl, rfl, rfl, ⟨by rw [hsn]; omega, ?_, ?_⟩, ?_, ?_⟩
      · rw [zz_u_e, zz_fo_off (by decide), h1, hsn]
        exact nI_add m 1
      · intro i k hi hk
        rw [zz_u_n _ _ (Or.inl (by decide)), zz_fo_at]
        by_cases him : i = m
        · subst him
          rw [if_pos (by omega), h6, e471, Nat.add_sub_cancel_left]
        · rw [if_neg (by omega)]
          exact h5 i k (by omega) hk
      · intro j hj
        rw [zz_u_n _ _ (Or.inr hj), zz_fo_off (by decide)]
        exact h2 j hj
      · intro k hk
        have hk1 : k ≠ 470 ∧ k ≠ 473 := by simpa using hk
        rw [zz_u_off _ _ _ _ hk1.1, zz_fo_off hk1.2]
        exact h3 k hk
  refine zz_intro (isI := false) (by decide) rfl (Nat.le_of_ble_eq_true rfl) (fun h => by cases h) (fun w S => ?_)
  refine zz_aload_0 S dX8_act_0 (q := 1) rfl ?_
  refine zz_getI S fX8_39 rfl (Nat.le_of_ble_eq_true rfl) rfl dX8_act_1 (q := 4) rfl ?_
  refine zz_iconst S (v := 5) rfl dX8_act_4 (q := 5) rfl ?_
  refine zz_icmp_ne S dX8_act_5 (t := 49) (by decide) (q := 8) rfl (fun a1 => ?_) (fun a1 => ?_)
  -- then 49 else 8
  · have hn5 : n ≠ 5 := fun e => a1 (by rw [h4, e]; rfl)
    have e1 : sh_n n = n + 1 := if_neg hn5
    refine fin w S n im _ (by omega) e1 h4 (fun _ _ => rfl) zz_keep.rf (fun i k hi hk => ?_) ?_
    · rw [hs i k hi hk, sh_p, if_neg hn5, if_neg (by omega)]
    · rw [sh_p, if_neg hn5, if_pos rfl]
  · have hn5 : n = 5 := by
      have := (nI_eq (a := n) (b := 5) (by omega) (by omega)).mp (h4.symm.trans a1)
      exact this
    have e1 : sh_n n = 4 + 1 := if_pos hn5
    refine zz_iconst S (v := 0) rfl dX8_act_8 (q := 9) rfl ?_
    refine zz_istore_1 S rfl dX8_act_9 (q := 10) rfl ?_
    -- at 10
    have key := lo_act1 (im := im) (z := 0) S (fun x => ?_) 1424 0 0 (by omega) rfl
    · rw [zz_fo_0] at key
      exact key
    · refine zz_aload_0 S dX8_act_39 (q := 40) rfl ?_
      refine zz_dup S rfl dX8_act_40 (q := 41) rfl ?_
      refine zz_getI S fX8_39 rfl (Nat.le_of_ble_eq_true rfl) rfl dX8_act_41 (q := 44) rfl ?_
      refine zz_iconst S (v := 1) rfl dX8_act_44 (q := 45) rfl ?_
      refine zz_isub S dX8_act_45 (q := 46) rfl ?_
      refine zz_putI S fX8_39 rfl rfl (Nat.le_of_ble_eq_true rfl) rfl dX8_act_46 (q := 49) rfl ?_
      -- at 49
      refine fin w S 4 _ _ (by omega) e1 ?_ ?_ ?_ ?_ ?_
      · rw [zz_u_e, zz_fo_off (by decide), h4, hn5]
        rfl
      · intro j hj
        rw [zz_u_n _ _ (Or.inr hj), zz_fo_off (by decide)]
      · intro k hk
        have hk1 : k ≠ 470 ∧ k ≠ 473 := by simpa using hk
        rw [zz_u_off _ _ _ _ hk1.1, zz_fo_off hk1.2]
      · intro i k hi hk
        rw [zz_u_n _ _ (Or.inl (by decide)), zz_fo_at, if_pos (by omega), sh_p, if_pos hn5, if_neg (by omega), ← hs (i + 1) k (by omega) hk]
        congr 1
        omega
      · rw [sh_p, if_pos hn5, if_pos rfl]
end ZACT
