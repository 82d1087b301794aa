/-! THE REFERENCE: words -/
def zs_spell (x a b c d e f : Int32) : Int32 := if x = 0 then a else if x = 1 then b else if x = 2 then c else if x = 3 then d else if x = 4 then e else if x = 5 then f else 0
def wl (w : Nat) : List Int32 := zz_xb.getD w []
def wt (w k : Nat) : Int32 := (wl w).getD k 0
theorem zs_spell_k {k : Nat} (hk : k ≤ 1000) (a b c d e f : Int32) : zs_spell (nI k) a b c d e f = [a, b, c, d, e, f].getD k 0 := by
  rcases k with _ | _ | _ | _ | _ | _ | k
  · rfl
  · rfl
  · rfl
  · rfl
  · rfl
  · rfl
  · generalize hm : k + 1 + 1 + 1 + 1 + 1 + 1 = m at hk ⊢
    have h : ∀ j, j < 6 → nI m ≠ nI j := fun j hj e => by
      have := (nI_eq (a := m) (b := j) (by omega) (by omega)).mp e
      omega
    have h0 : nI m ≠ 0 := h 0 (by omega)
    have h1 : nI m ≠ 1 := h 1 (by omega)
    have h2 : nI m ≠ 2 := h 2 (by omega)
    have h3 : nI m ≠ 3 := h 3 (by omega)
    have h4 : nI m ≠ 4 := h 4 (by omega)
    have h5 : nI m ≠ 5 := h 5 (by omega)
    unfold zs_spell
    rw [if_neg h0, if_neg h1, if_neg h2, if_neg h3, if_neg h4, if_neg h5, List.getD_eq_getElem?_getD, List.getElem?_eq_none (by show 6 ≤ m; omega)]
    rfl
theorem zs_not6 {k : Nat} (hk : k ≤ 1000) (h : k ≠ 6) : nI k ≠ (6 : Int32) := fun e => h ((nI_eq (a := k) (b := 6) (by omega) (by omega)).mp e)
/-- the token is the word w -/
abbrev isW (tx : Nat → Int32) (T : ZTok) (w : Nat) : Prop := T.2.1 - T.1 = (wl w).length ∧ ∀ k, k < (wl w).length → tx (T.1 + k) = wt w k
def rk_wG (tx : Nat → Int32) (T : ZTok) : Nat → Nat → Nat
  | 0, w => w
  | n + 1, w => if isW tx T w then w else rk_wG tx T n (w + 1)
def rk_word (tx : Nat → Int32) (T : ZTok) : Nat := if T.2.2 = 1 then rk_wG tx T 7 0 else 7
theorem rk_wG_in (tx : Nat → Int32) (T : ZTok) : ∀ n w, rk_wG tx T n w ≤ w + n := by
  intro n
  induction n with
  | zero => intro w; exact Nat.le_refl _
  | succ n ih =>
    intro w
    rw [rk_wG]
    split
    · omega
    · have := ih (w + 1)
      omega
theorem rk_word_in (tx : Nat → Int32) (T : ZTok) : rk_word tx T ≤ 7 := by
  unfold rk_word
  split
  · exact rk_wG_in tx T 7 0
  · exact Nat.le_refl _
theorem wt_0 {w k : Nat} (hw : w < 7) : wt w k = 0 ↔ (wl w).length ≤ k := by
  have h : ∀ w, w < 7 → ∀ k, k < (wl w).length → wt w k ≠ 0 := by decide
  constructor
  · intro e
    apply Classical.byContradiction
    intro hn
    exact h w hw k (by omega) e
  · intro hl
    unfold wt
    rw [List.getD_eq_getElem?_getD, List.getElem?_eq_none hl]
    rfl
/-- a text's characters -/
def tc (tx : Nat → Int32) (len : Nat) : Prop := ∀ j, j < len → sB 1 255 (tx j)
theorem sB_0 {a b : Int} {x : Int32} (h : sB a b x) (ha : 1 ≤ a) : x ≠ 0 := fun e => by
  have h1 := h.1
  rw [e] at h1
  have h2 : ((0 : Int32)).toInt = 0 := rfl
  omega
/-- what the reference compares: one place more than the token has -/
def isWm (tx : Nat → Int32) (T : ZTok) (w k : Nat) : Prop := wt w k = if k < T.2.1 - T.1 then tx (T.1 + k) else 0
theorem isW_iff {tx : Nat → Int32} {T : ZTok} {w len : Nat} (hw : w < 7) (hc : tc tx len) (hT : T.1 ≤ T.2.1 ∧ T.2.1 ≤ len) : isW tx T w ↔ ∀ k, k ≤ T.2.1 - T.1 → isWm tx T w k := by
  constructor
  · rintro ⟨h1, h2⟩ k hk
    unfold isWm
    split
    · exact (h2 k (by omega)).symm
    · exact (wt_0 hw).mpr (by omega)
  · intro h
    have h1 := h (T.2.1 - T.1) (Nat.le_refl _)
    unfold isWm at h1
    rw [if_neg (Nat.lt_irrefl _), wt_0 hw] at h1
    have h2 : T.2.1 - T.1 ≤ (wl w).length := by
      apply Classical.byContradiction
      intro hn
      have h3 := h (wl w).length (by omega)
      unfold isWm at h3
      rw [if_pos (by omega), (wt_0 hw).mpr (Nat.le_refl _)] at h3
      exact sB_0 (hc (T.1 + (wl w).length) (by omega)) (by omega) h3.symm
    refine ⟨by omega, fun k hk => ?_⟩
    have h3 := h k (by omega)
    unfold isWm at h3
    rw [if_pos (by omega)] at h3
    exact h3.symm
section ZWRD
variable {G : ZG} {l : Launch}
theorem co_spelled (x a b c d e f : Int32) (E : ZE) (im : ZI) : zz_OP G l 0 mX8_spelled [.int x, .int a, .int b, .int c, .int d, .int e, .int f] E im (zs_spell x a b c d e f) := by
  refine zz_intro (isI := false) (by decide) rfl (Nat.le_of_ble_eq_true rfl) (fun h => by cases h) (fun w S => ?_)
  refine zz_iload_0 S dX8_spelled_0 (q := 1) rfl ?_
  refine zz_if_ne S dX8_spelled_1 (t := 8) (by decide) (q := 4) rfl (fun h1 => ?_) (fun h1 => ?_)
  · refine zz_iload_0 S dX8_spelled_8 (q := 9) rfl ?_
    refine zz_iconst S (v := 1) rfl dX8_spelled_9 (q := 10) rfl ?_
    refine zz_icmp_ne S dX8_spelled_10 (t := 17) (by decide) (q := 13) rfl (fun h2 => ?_) (fun h2 => ?_)
    · refine zz_iload_0 S dX8_spelled_17 (q := 18) rfl ?_
      refine zz_iconst S (v := 2) rfl dX8_spelled_18 (q := 19) rfl ?_
      refine zz_icmp_ne S dX8_spelled_19 (t := 26) (by decide) (q := 22) rfl (fun h3 => ?_) (fun h3 => ?_)
      · refine zz_iload_0 S dX8_spelled_26 (q := 27) rfl ?_
        refine zz_iconst S (v := 3) rfl dX8_spelled_27 (q := 28) rfl ?_
        refine zz_icmp_ne S dX8_spelled_28 (t := 36) (by decide) (q := 31) rfl (fun h4 => ?_) (fun h4 => ?_)
        · refine zz_iload_0 S dX8_spelled_36 (q := 37) rfl ?_
          refine zz_iconst S (v := 4) rfl dX8_spelled_37 (q := 38) rfl ?_
          refine zz_icmp_ne S dX8_spelled_38 (t := 46) (by decide) (q := 41) rfl (fun h5 => ?_) (fun h5 => ?_)
          · refine zz_iload_0 S dX8_spelled_46 (q := 47) rfl ?_
            refine zz_iconst S (v := 5) rfl dX8_spelled_47 (q := 48) rfl ?_
            refine zz_icmp_ne S dX8_spelled_48 (t := 56) (by decide) (q := 51) rfl (fun h6 => ?_) (fun h6 => ?_)
            · refine zz_iconst S (v := 0) rfl dX8_spelled_56 (q := 57) rfl ?_
              refine zz_iret S dX8_spelled_57 ⟨rfl, _, rfl, rfl, ?_⟩
              refine ⟨?_, rfl⟩
              unfold zs_spell
              first | rw [if_pos h1] | rw [if_neg h1, if_pos h2] | rw [if_neg h1, if_neg h2, if_pos h3] | rw [if_neg h1, if_neg h2, if_neg h3, if_pos h4] | rw [if_neg h1, if_neg h2, if_neg h3, if_neg h4, if_pos h5] | rw [if_neg h1, if_neg h2, if_neg h3, if_neg h4, if_neg h5, if_pos h6] | rw [if_neg h1, if_neg h2, if_neg h3, if_neg h4, if_neg h5, if_neg h6]
            · refine zz_iload_6 S dX8_spelled_51 (q := 53) rfl ?_
              refine zz_goto S dX8_spelled_53 (t := 57) (by decide) ?_
              refine zz_iret S dX8_spelled_57 ⟨rfl, _, rfl, rfl, ?_⟩
              refine ⟨?_, rfl⟩
              unfold zs_spell
              first | rw [if_pos h1] | rw [if_neg h1, if_pos h2] | rw [if_neg h1, if_neg h2, if_pos h3] | rw [if_neg h1, if_neg h2, if_neg h3, if_pos h4] | rw [if_neg h1, if_neg h2, if_neg h3, if_neg h4, if_pos h5] | rw [if_neg h1, if_neg h2, if_neg h3, if_neg h4, if_neg h5, if_pos h6] | rw [if_neg h1, if_neg h2, if_neg h3, if_neg h4, if_neg h5, if_neg h6]
          · refine zz_iload_5 S dX8_spelled_41 (q := 43) rfl ?_
            refine zz_goto S dX8_spelled_43 (t := 57) (by decide) ?_
            refine zz_iret S dX8_spelled_57 ⟨rfl, _, rfl, rfl, ?_⟩
            refine ⟨?_, rfl⟩
            unfold zs_spell
            first | rw [if_pos h1] | rw [if_neg h1, if_pos h2] | rw [if_neg h1, if_neg h2, if_pos h3] | rw [if_neg h1, if_neg h2, if_neg h3, if_pos h4] | rw [if_neg h1, if_neg h2, if_neg h3, if_neg h4, if_pos h5] | rw [if_neg h1, if_neg h2, if_neg h3, if_neg h4, if_neg h5, if_pos h6] | rw [if_neg h1, if_neg h2, if_neg h3, if_neg h4, if_neg h5, if_neg h6]
        · refine zz_iload_4 S dX8_spelled_31 (q := 33) rfl ?_
          refine zz_goto S dX8_spelled_33 (t := 57) (by decide) ?_
          refine zz_iret S dX8_spelled_57 ⟨rfl, _, rfl, rfl, ?_⟩
          refine ⟨?_, rfl⟩
          unfold zs_spell
          first | rw [if_pos h1] | rw [if_neg h1, if_pos h2] | rw [if_neg h1, if_neg h2, if_pos h3] | rw [if_neg h1, if_neg h2, if_neg h3, if_pos h4] | rw [if_neg h1, if_neg h2, if_neg h3, if_neg h4, if_pos h5] | rw [if_neg h1, if_neg h2, if_neg h3, if_neg h4, if_neg h5, if_pos h6] | rw [if_neg h1, if_neg h2, if_neg h3, if_neg h4, if_neg h5, if_neg h6]
      · refine zz_iload_3 S dX8_spelled_22 (q := 23) rfl ?_
        refine zz_goto S dX8_spelled_23 (t := 57) (by decide) ?_
        refine zz_iret S dX8_spelled_57 ⟨rfl, _, rfl, rfl, ?_⟩
        refine ⟨?_, rfl⟩
        unfold zs_spell
        first | rw [if_pos h1] | rw [if_neg h1, if_pos h2] | rw [if_neg h1, if_neg h2, if_pos h3] | rw [if_neg h1, if_neg h2, if_neg h3, if_pos h4] | rw [if_neg h1, if_neg h2, if_neg h3, if_neg h4, if_pos h5] | rw [if_neg h1, if_neg h2, if_neg h3, if_neg h4, if_neg h5, if_pos h6] | rw [if_neg h1, if_neg h2, if_neg h3, if_neg h4, if_neg h5, if_neg h6]
    · refine zz_iload_2 S dX8_spelled_13 (q := 14) rfl ?_
      refine zz_goto S dX8_spelled_14 (t := 57) (by decide) ?_
      refine zz_iret S dX8_spelled_57 ⟨rfl, _, rfl, rfl, ?_⟩
      refine ⟨?_, rfl⟩
      unfold zs_spell
      first | rw [if_pos h1] | rw [if_neg h1, if_pos h2] | rw [if_neg h1, if_neg h2, if_pos h3] | rw [if_neg h1, if_neg h2, if_neg h3, if_pos h4] | rw [if_neg h1, if_neg h2, if_neg h3, if_neg h4, if_pos h5] | rw [if_neg h1, if_neg h2, if_neg h3, if_neg h4, if_neg h5, if_pos h6] | rw [if_neg h1, if_neg h2, if_neg h3, if_neg h4, if_neg h5, if_neg h6]
  · refine zz_iload_1 S dX8_spelled_4 (q := 5) rfl ?_
    refine zz_goto S dX8_spelled_5 (t := 57) (by decide) ?_
    refine zz_iret S dX8_spelled_57 ⟨rfl, _, rfl, rfl, ?_⟩
    refine ⟨?_, rfl⟩
    unfold zs_spell
    first | rw [if_pos h1] | rw [if_neg h1, if_pos h2] | rw [if_neg h1, if_neg h2, if_pos h3] | rw [if_neg h1, if_neg h2, if_neg h3, if_pos h4] | rw [if_neg h1, if_neg h2, if_neg h3, if_neg h4, if_pos h5] | rw [if_neg h1, if_neg h2, if_neg h3, if_neg h4, if_neg h5, if_pos h6] | rw [if_neg h1, if_neg h2, if_neg h3, if_neg h4, if_neg h5, if_neg h6]
theorem co_letterOf (v k : Nat) (x y : Int32) (hx : x = nI v) (hw : v < 7) (hy : y = nI k) (hk : k ≤ 1000) (E : ZE) (im : ZI) : zz_OP G l 1 mX8_letterOf [.int x, .int y] E im (wt v k) := by
  subst hx hy
  have h6 := zs_not6 hk
  refine zz_intro (isI := false) (by decide) rfl (Nat.le_of_ble_eq_true rfl) (fun h => by cases h) (fun w S => ?_)
  refine zz_iload_0 S dX8_letterOf_0 (q := 1) rfl ?_
  -- at 1: tableswitch 157 0 5 #[39, 54, 82, 97, 125, 142]
  rcases (show v = 0 ∨ v = 1 ∨ v = 2 ∨ v = 3 ∨ v = 4 ∨ v = 5 ∨ v = 6 by omega) with rfl | rfl | rfl | rfl | rfl | rfl | rfl
  · refine zz_tabIn S dX8_letterOf_1 (by decide) (by decide) (off := 39) (by decide) (t := 40) (by decide) ?_
    refine zz_iload_1 S dX8_letterOf_40 (q := 41) rfl ?_
    refine zz_bipush S (v := 119) rfl dX8_letterOf_41 (q := 43) rfl ?_
    refine zz_bipush S (v := 97) rfl dX8_letterOf_43 (q := 45) rfl ?_
    refine zz_bipush S (v := 108) rfl dX8_letterOf_45 (q := 47) rfl ?_
    refine zz_bipush S (v := 108) rfl dX8_letterOf_47 (q := 49) rfl ?_
    refine zz_iconst S (v := 0) rfl dX8_letterOf_49 (q := 50) rfl ?_
    refine zz_iconst S (v := 0) rfl dX8_letterOf_50 (q := 51) rfl ?_
    refine zz_statP S yy_X8_spelled lX8_217 (co_spelled (nI k) 119 97 108 108 0 0 E im) rfl (Nat.le_of_ble_eq_true rfl) (Nat.le_of_ble_eq_true rfl) rfl dX8_letterOf_51 (q := 54) rfl ?_
    refine zz_iret S dX8_letterOf_54 ⟨rfl, _, rfl, rfl, ?_⟩
    refine ⟨?_, rfl⟩
    rw [zs_spell_k hk]
    rcases k with _ | _ | _ | _ | _ | _ | _ | k <;> rfl
  · refine zz_tabIn S dX8_letterOf_1 (by decide) (by decide) (off := 54) (by decide) (t := 55) (by decide) ?_
    refine zz_iload_1 S dX8_letterOf_55 (q := 56) rfl ?_
    refine zz_bipush S (v := 6) rfl dX8_letterOf_56 (q := 58) rfl ?_
    refine zz_icmp_ne S dX8_letterOf_58 (t := 66) (by decide) (q := 61) rfl (fun h1 => ?_) (fun h1 => ?_)
    · refine zz_iload_1 S dX8_letterOf_66 (q := 67) rfl ?_
      refine zz_bipush S (v := 109) rfl dX8_letterOf_67 (q := 69) rfl ?_
      refine zz_bipush S (v := 101) rfl dX8_letterOf_69 (q := 71) rfl ?_
      refine zz_bipush S (v := 97) rfl dX8_letterOf_71 (q := 73) rfl ?_
      refine zz_bipush S (v := 115) rfl dX8_letterOf_73 (q := 75) rfl ?_
      refine zz_bipush S (v := 117) rfl dX8_letterOf_75 (q := 77) rfl ?_
      refine zz_bipush S (v := 114) rfl dX8_letterOf_77 (q := 79) rfl ?_
      refine zz_statP S yy_X8_spelled lX8_217 (co_spelled (nI k) 109 101 97 115 117 114 E im) rfl (Nat.le_of_ble_eq_true rfl) (Nat.le_of_ble_eq_true rfl) rfl dX8_letterOf_79 (q := 82) rfl ?_
      refine zz_iret S dX8_letterOf_82 ⟨rfl, _, rfl, rfl, ?_⟩
      refine ⟨?_, rfl⟩
      first | (rw [zs_spell_k hk]; rcases k with _ | _ | _ | _ | _ | _ | _ | k <;> first | rfl | exact absurd rfl h1) | (rw [show k = 6 from Classical.not_not.mp (fun e => h6 e h1)]; rfl)
    · refine zz_bipush S (v := 101) rfl dX8_letterOf_61 (q := 63) rfl ?_
      refine zz_goto S dX8_letterOf_63 (t := 82) (by decide) ?_
      refine zz_iret S dX8_letterOf_82 ⟨rfl, _, rfl, rfl, ?_⟩
      refine ⟨?_, rfl⟩
      first | (rw [zs_spell_k hk]; rcases k with _ | _ | _ | _ | _ | _ | _ | k <;> first | rfl | exact absurd rfl h1) | (rw [show k = 6 from Classical.not_not.mp (fun e => h6 e h1)]; rfl)
  · refine zz_tabIn S dX8_letterOf_1 (by decide) (by decide) (off := 82) (by decide) (t := 83) (by decide) ?_
    refine zz_iload_1 S dX8_letterOf_83 (q := 84) rfl ?_
    refine zz_bipush S (v := 102) rfl dX8_letterOf_84 (q := 86) rfl ?_
    refine zz_bipush S (v := 108) rfl dX8_letterOf_86 (q := 88) rfl ?_
    refine zz_bipush S (v := 97) rfl dX8_letterOf_88 (q := 90) rfl ?_
    refine zz_bipush S (v := 116) rfl dX8_letterOf_90 (q := 92) rfl ?_
    refine zz_iconst S (v := 0) rfl dX8_letterOf_92 (q := 93) rfl ?_
    refine zz_iconst S (v := 0) rfl dX8_letterOf_93 (q := 94) rfl ?_
    refine zz_statP S yy_X8_spelled lX8_217 (co_spelled (nI k) 102 108 97 116 0 0 E im) rfl (Nat.le_of_ble_eq_true rfl) (Nat.le_of_ble_eq_true rfl) rfl dX8_letterOf_94 (q := 97) rfl ?_
    refine zz_iret S dX8_letterOf_97 ⟨rfl, _, rfl, rfl, ?_⟩
    refine ⟨?_, rfl⟩
    rw [zs_spell_k hk]
    rcases k with _ | _ | _ | _ | _ | _ | _ | k <;> rfl
  · refine zz_tabIn S dX8_letterOf_1 (by decide) (by decide) (off := 97) (by decide) (t := 98) (by decide) ?_
    refine zz_iload_1 S dX8_letterOf_98 (q := 99) rfl ?_
    refine zz_bipush S (v := 6) rfl dX8_letterOf_99 (q := 101) rfl ?_
    refine zz_icmp_ne S dX8_letterOf_101 (t := 109) (by decide) (q := 104) rfl (fun h1 => ?_) (fun h1 => ?_)
    · refine zz_iload_1 S dX8_letterOf_109 (q := 110) rfl ?_
      refine zz_bipush S (v := 117) rfl dX8_letterOf_110 (q := 112) rfl ?_
      refine zz_bipush S (v := 112) rfl dX8_letterOf_112 (q := 114) rfl ?_
      refine zz_bipush S (v := 114) rfl dX8_letterOf_114 (q := 116) rfl ?_
      refine zz_bipush S (v := 105) rfl dX8_letterOf_116 (q := 118) rfl ?_
      refine zz_bipush S (v := 103) rfl dX8_letterOf_118 (q := 120) rfl ?_
      refine zz_bipush S (v := 104) rfl dX8_letterOf_120 (q := 122) rfl ?_
      refine zz_statP S yy_X8_spelled lX8_217 (co_spelled (nI k) 117 112 114 105 103 104 E im) rfl (Nat.le_of_ble_eq_true rfl) (Nat.le_of_ble_eq_true rfl) rfl dX8_letterOf_122 (q := 125) rfl ?_
      refine zz_iret S dX8_letterOf_125 ⟨rfl, _, rfl, rfl, ?_⟩
      refine ⟨?_, rfl⟩
      first | (rw [zs_spell_k hk]; rcases k with _ | _ | _ | _ | _ | _ | _ | k <;> first | rfl | exact absurd rfl h1) | (rw [show k = 6 from Classical.not_not.mp (fun e => h6 e h1)]; rfl)
    · refine zz_bipush S (v := 116) rfl dX8_letterOf_104 (q := 106) rfl ?_
      refine zz_goto S dX8_letterOf_106 (t := 125) (by decide) ?_
      refine zz_iret S dX8_letterOf_125 ⟨rfl, _, rfl, rfl, ?_⟩
      refine ⟨?_, rfl⟩
      first | (rw [zs_spell_k hk]; rcases k with _ | _ | _ | _ | _ | _ | _ | k <;> first | rfl | exact absurd rfl h1) | (rw [show k = 6 from Classical.not_not.mp (fun e => h6 e h1)]; rfl)
  · refine zz_tabIn S dX8_letterOf_1 (by decide) (by decide) (off := 125) (by decide) (t := 126) (by decide) ?_
    refine zz_iload_1 S dX8_letterOf_126 (q := 127) rfl ?_
    refine zz_bipush S (v := 100) rfl dX8_letterOf_127 (q := 129) rfl ?_
    refine zz_bipush S (v := 101) rfl dX8_letterOf_129 (q := 131) rfl ?_
    refine zz_bipush S (v := 99) rfl dX8_letterOf_131 (q := 133) rfl ?_
    refine zz_bipush S (v := 105) rfl dX8_letterOf_133 (q := 135) rfl ?_
    refine zz_bipush S (v := 100) rfl dX8_letterOf_135 (q := 137) rfl ?_
    refine zz_bipush S (v := 101) rfl dX8_letterOf_137 (q := 139) rfl ?_
    refine zz_statP S yy_X8_spelled lX8_217 (co_spelled (nI k) 100 101 99 105 100 101 E im) rfl (Nat.le_of_ble_eq_true rfl) (Nat.le_of_ble_eq_true rfl) rfl dX8_letterOf_139 (q := 142) rfl ?_
    refine zz_iret S dX8_letterOf_142 ⟨rfl, _, rfl, rfl, ?_⟩
    refine ⟨?_, rfl⟩
    rw [zs_spell_k hk]
    rcases k with _ | _ | _ | _ | _ | _ | _ | k <;> rfl
  · refine zz_tabIn S dX8_letterOf_1 (by decide) (by decide) (off := 142) (by decide) (t := 143) (by decide) ?_
    refine zz_iload_1 S dX8_letterOf_143 (q := 144) rfl ?_
    refine zz_bipush S (v := 99) rfl dX8_letterOf_144 (q := 146) rfl ?_
    refine zz_bipush S (v := 97) rfl dX8_letterOf_146 (q := 148) rfl ?_
    refine zz_bipush S (v := 115) rfl dX8_letterOf_148 (q := 150) rfl ?_
    refine zz_bipush S (v := 116) rfl dX8_letterOf_150 (q := 152) rfl ?_
    refine zz_iconst S (v := 0) rfl dX8_letterOf_152 (q := 153) rfl ?_
    refine zz_iconst S (v := 0) rfl dX8_letterOf_153 (q := 154) rfl ?_
    refine zz_statP S yy_X8_spelled lX8_217 (co_spelled (nI k) 99 97 115 116 0 0 E im) rfl (Nat.le_of_ble_eq_true rfl) (Nat.le_of_ble_eq_true rfl) rfl dX8_letterOf_154 (q := 157) rfl ?_
    refine zz_iret S dX8_letterOf_157 ⟨rfl, _, rfl, rfl, ?_⟩
    refine ⟨?_, rfl⟩
    rw [zs_spell_k hk]
    rcases k with _ | _ | _ | _ | _ | _ | _ | k <;> rfl
  · refine zz_tabOut S dX8_letterOf_1 (Or.inr (by decide)) (t := 158) (by decide) ?_
    refine zz_iload_1 S dX8_letterOf_158 (q := 159) rfl ?_
    refine zz_bipush S (v := 6) rfl dX8_letterOf_159 (q := 161) rfl ?_
    refine zz_icmp_ne S dX8_letterOf_161 (t := 169) (by decide) (q := 164) rfl (fun h1 => ?_) (fun h1 => ?_)
    · refine zz_iload_1 S dX8_letterOf_169 (q := 170) rfl ?_
      refine zz_bipush S (v := 100) rfl dX8_letterOf_170 (q := 172) rfl ?_
      refine zz_bipush S (v := 101) rfl dX8_letterOf_172 (q := 174) rfl ?_
      refine zz_bipush S (v := 108) rfl dX8_letterOf_174 (q := 176) rfl ?_
      refine zz_bipush S (v := 105) rfl dX8_letterOf_176 (q := 178) rfl ?_
      refine zz_bipush S (v := 118) rfl dX8_letterOf_178 (q := 180) rfl ?_
      refine zz_bipush S (v := 101) rfl dX8_letterOf_180 (q := 182) rfl ?_
      refine zz_statP S yy_X8_spelled lX8_217 (co_spelled (nI k) 100 101 108 105 118 101 E im) rfl (Nat.le_of_ble_eq_true rfl) (Nat.le_of_ble_eq_true rfl) rfl dX8_letterOf_182 (q := 185) rfl ?_
      refine zz_iret S dX8_letterOf_185 ⟨rfl, _, rfl, rfl, ?_⟩
      refine ⟨?_, rfl⟩
      first | (rw [zs_spell_k hk]; rcases k with _ | _ | _ | _ | _ | _ | _ | k <;> first | rfl | exact absurd rfl h1) | (rw [show k = 6 from Classical.not_not.mp (fun e => h6 e h1)]; rfl)
    · refine zz_bipush S (v := 114) rfl dX8_letterOf_164 (q := 166) rfl ?_
      refine zz_goto S dX8_letterOf_166 (t := 185) (by decide) ?_
      refine zz_iret S dX8_letterOf_185 ⟨rfl, _, rfl, rfl, ?_⟩
      refine ⟨?_, rfl⟩
      first | (rw [zs_spell_k hk]; rcases k with _ | _ | _ | _ | _ | _ | _ | k <;> first | rfl | exact absurd rfl h1) | (rw [show k = 6 from Classical.not_not.mp (fun e => h6 e h1)]; rfl)
/-- what the token readers know of the place: the token, the text -/
def zTx (im : ZI) (T : ZTok) (len : Nat) : Prop := zT im T ∧ im 470 6 = nI len ∧ len ≤ 140 ∧ (T.1 ≤ T.2.1 ∧ T.2.1 ≤ len ∧ T.2.2 ≤ 3) ∧ tc (im 474) len
set_option maxHeartbeats 4000000 in
theorem lo_isWord {n0 mcT msT : Nat} {isI : Bool} {Qf : Option Value → ZE → ZI → Prop} {w : Nat → ZL → List Value → Nat → ZE → ZI → Prop} {z len v : Nat} {T : ZTok} {im : ZI} (S : zz_S G l RX8 cX8_isWord 4 2 n0 mcT msT isI (some .boolean) Qf w)
    (hv : v < 7) (hT : zTx im T len) (hQ : ∀ r : Int32, r = (if isW (im 474) T v then 1 else 0) → Qf (some (.int r)) zE im) :
    ∀ (n k : Nat) (x r : Int32), k + n = T.2.1 - T.1 + 1 → x = nI k → ((r = 1 ∧ ∀ j, j < k → isWm (im 474) T v j) ∨ (r = 0 ∧ ¬ isW (im 474) T v)) → w 4 [some (.ref 470), some (.int (nI v)), some (.int r), some (.int x)] [] z zE im := by
  obtain ⟨⟨h12, h13, h11⟩, hl, hln, ⟨hT1, hT2, -⟩, hc⟩ := hT
  have hd : im 470 13 - im 470 12 = nI (T.2.1 - T.1) := by rw [h12, h13]; exact pk_sub hT1
  have key := isW_iff (tx := im 474) (T := T) hv hc ⟨hT1, hT2⟩
  intro n
  induction n with
  | zero =>
    intro k x r hk hx hr
    refine zz_iload_3 S dX8_isWord_4 (q := 5) rfl ?_
    refine zz_aload_0 S dX8_isWord_5 (q := 6) rfl ?_
    refine zz_getI S fX8_202 rfl (Nat.le_of_ble_eq_true rfl) rfl dX8_isWord_6 (q := 9) rfl ?_
    refine zz_aload_0 S dX8_isWord_9 (q := 10) rfl ?_
    refine zz_getI S fX8_205 rfl (Nat.le_of_ble_eq_true rfl) rfl dX8_isWord_10 (q := 13) rfl ?_
    refine zz_isub S dX8_isWord_13 (q := 14) rfl ?_
    refine zz_icmp_gt S dX8_isWord_14 (t := 68) (by decide) (q := 17) rfl (fun a1 => ?_) (fun a1 => ?_)
    -- then 68 else 17
    · refine zz_iload_2 S dX8_isWord_68 (q := 69) rfl ?_
      -- at 69: ireturn 
      rcases hr with ⟨rfl, hr⟩ | ⟨rfl, hr⟩
      · exact zz_zret S (zz_bit (Or.inr rfl)) dX8_isWord_69 (hQ 1 (if_pos (key.mpr (fun j hj => hr j (by omega)))).symm)
      · exact zz_zret S (zz_bit (Or.inl rfl)) dX8_isWord_69 (hQ 0 (if_neg hr).symm)
    · exact absurd (by
        rw [hd, hx, gt_iff_lt, Int32.lt_iff_toInt_lt, nI_toInt (by omega), nI_toInt (by omega)]
        omega) a1
  | succ n ih =>
    intro k x r hk hx hr
    have hx1 := nI_toInt (n := k) (by omega)
    have hx2 := nI_toInt (n := T.2.1 - T.1) (by omega)
    refine zz_iload_3 S dX8_isWord_4 (q := 5) rfl ?_
    refine zz_aload_0 S dX8_isWord_5 (q := 6) rfl ?_
    refine zz_getI S fX8_202 rfl (Nat.le_of_ble_eq_true rfl) rfl dX8_isWord_6 (q := 9) rfl ?_
    refine zz_aload_0 S dX8_isWord_9 (q := 10) rfl ?_
    refine zz_getI S fX8_205 rfl (Nat.le_of_ble_eq_true rfl) rfl dX8_isWord_10 (q := 13) rfl ?_
    refine zz_isub S dX8_isWord_13 (q := 14) rfl ?_
    refine zz_icmp_gt S dX8_isWord_14 (t := 68) (by decide) (q := 17) rfl (fun a1 => ?_) (fun a1 => ?_)
    -- then 68 else 17
    · rw [hd, hx, gt_iff_lt, Int32.lt_iff_toInt_lt, hx1, hx2] at a1
      omega
    · refine zz_iload_2 S dX8_isWord_17 (q := 18) rfl ?_
      refine zz_if_eq S dX8_isWord_18 (t := 68) (by decide) (q := 21) rfl (fun a2 => ?_) (fun a2 => ?_)
      -- then 68 else 21
      · refine zz_iload_2 S dX8_isWord_68 (q := 69) rfl ?_
        -- at 69: ireturn 
        rcases hr with ⟨rfl, hr⟩ | ⟨rfl, hr⟩
        · exact absurd a2 (by decide)
        · exact zz_zret S (zz_bit (Or.inl rfl)) dX8_isWord_69 (hQ 0 (if_neg hr).symm)
      · have hr1 : r = 1 ∧ ∀ j, j < k → isWm (im 474) T v j := by
          rcases hr with hr | ⟨hr, -⟩
          · exact hr
          · exact absurd hr a2
        obtain ⟨rfl, hs⟩ := hr1
        have yes : isWm (im 474) T v k → w 4 [some (.ref 470), some (.int (nI v)), some (.int 1), some (.int (x + 1))] [] z zE im := fun hm => ih (k + 1) _ 1 (by omega) (by rw [hx]; exact nI_1 k) (Or.inl ⟨rfl, fun j hj => by
          by_cases hjk : j = k
          · rw [hjk]; exact hm
          · exact hs j (by omega)⟩)
        have no : ¬ isWm (im 474) T v k → w 4 [some (.ref 470), some (.int (nI v)), some (.int 0), some (.int (x + 1))] [] z zE im := fun hm => ih (k + 1) _ 0 (by omega) (by rw [hx]; exact nI_1 k) (Or.inr ⟨rfl, fun hw => hm (key.mp hw k (by omega))⟩)
        have far : x ≥ im 470 13 - im 470 12 → ¬ k < T.2.1 - T.1 := fun h => by
          rw [hd, hx, ge_iff_le, Int32.le_iff_toInt_le, hx1, hx2] at h
          omega
        have near : ¬ x ≥ im 470 13 - im 470 12 → k < T.2.1 - T.1 := fun h => by
          rw [hd, hx, ge_iff_le, Int32.le_iff_toInt_le, hx1, hx2] at h
          omega
        have m0 : ¬ k < T.2.1 - T.1 → (isWm (im 474) T v k ↔ wt v k = 0) := fun h => by unfold isWm; rw [if_neg h]
        have m1 : k < T.2.1 - T.1 → (isWm (im 474) T v k ↔ wt v k = ta (im 474) len (T.1 + k)) := fun h => by unfold isWm ta; rw [if_pos h, if_pos (by omega)]
        refine zz_iload_1 S dX8_isWord_21 (q := 22) rfl ?_
        refine zz_iload_3 S dX8_isWord_22 (q := 23) rfl ?_
        refine zz_statP S yy_X8_letterOf lX8_221 (co_letterOf v k _ _ rfl hv hx (by omega) zE im) rfl (Nat.le_of_ble_eq_true rfl) (Nat.le_of_ble_eq_true rfl) rfl dX8_isWord_23 (q := 26) rfl ?_
        refine zz_iload_3 S dX8_isWord_26 (q := 27) rfl ?_
        refine zz_aload_0 S dX8_isWord_27 (q := 28) rfl ?_
        refine zz_getI S fX8_202 rfl (Nat.le_of_ble_eq_true rfl) rfl dX8_isWord_28 (q := 31) rfl ?_
        refine zz_aload_0 S dX8_isWord_31 (q := 32) rfl ?_
        refine zz_getI S fX8_205 rfl (Nat.le_of_ble_eq_true rfl) rfl dX8_isWord_32 (q := 35) rfl ?_
        refine zz_isub S dX8_isWord_35 (q := 36) rfl ?_
        refine zz_icmp_ge S dX8_isWord_36 (t := 52) (by decide) (q := 39) rfl (fun b1 => ?_) (fun b1 => ?_)
        · refine zz_iconst S (v := 0) rfl dX8_isWord_52 (q := 53) rfl ?_
          refine zz_icmp_ne S dX8_isWord_53 (t := 60) (by decide) (q := 56) rfl (fun b2 => ?_) (fun b2 => ?_)
          · refine zz_iconst S (v := 0) rfl dX8_isWord_60 (q := 61) rfl ?_
            refine zz_istore_2 S rfl dX8_isWord_61 (q := 62) rfl ?_
            refine zz_iinc_3 S rfl dX8_isWord_62 (q := 65) rfl ?_
            refine zz_goto S dX8_isWord_65 (t := 4) (by decide) ?_
            first | exact no (fun e => b2 ((m0 (far b1)).mp e)) | exact yes ((m0 (far b1)).mpr b2) | exact no (fun e => b2 ((m1 (near b1)).mp e)) | exact yes ((m1 (near b1)).mpr b2)
          · refine zz_iconst S (v := 1) rfl dX8_isWord_56 (q := 57) rfl ?_
            refine zz_goto S dX8_isWord_57 (t := 61) (by decide) ?_
            refine zz_istore_2 S rfl dX8_isWord_61 (q := 62) rfl ?_
            refine zz_iinc_3 S rfl dX8_isWord_62 (q := 65) rfl ?_
            refine zz_goto S dX8_isWord_65 (t := 4) (by decide) ?_
            first | exact no (fun e => b2 ((m0 (far b1)).mp e)) | exact yes ((m0 (far b1)).mpr b2) | exact no (fun e => b2 ((m1 (near b1)).mp e)) | exact yes ((m1 (near b1)).mpr b2)
        · refine zz_aload_0 S dX8_isWord_39 (q := 40) rfl ?_
          refine zz_aload_0 S dX8_isWord_40 (q := 41) rfl ?_
          refine zz_getI S fX8_205 rfl (Nat.le_of_ble_eq_true rfl) rfl dX8_isWord_41 (q := 44) rfl ?_
          refine zz_iload_3 S dX8_isWord_44 (q := 45) rfl ?_
          refine zz_iadd S dX8_isWord_45 (q := 46) rfl ?_
          refine zz_virtP S yy_X8_at lX8_208 (ci := 8) (by decide) rfl (co_at _ (T.1 + k) len im (by rw [h12, hx]; exact nI_add _ _) (by omega) hl hln) rfl (Nat.le_of_ble_eq_true rfl) (Nat.le_of_ble_eq_true rfl) rfl (Nat.le_of_ble_eq_true rfl) rfl dX8_isWord_46 (q := 49) rfl ?_
          refine zz_goto S dX8_isWord_49 (t := 53) (by decide) ?_
          refine zz_icmp_ne S dX8_isWord_53 (t := 60) (by decide) (q := 56) rfl (fun b2 => ?_) (fun b2 => ?_)
          · refine zz_iconst S (v := 0) rfl dX8_isWord_60 (q := 61) rfl ?_
            refine zz_istore_2 S rfl dX8_isWord_61 (q := 62) rfl ?_
            refine zz_iinc_3 S rfl dX8_isWord_62 (q := 65) rfl ?_
            refine zz_goto S dX8_isWord_65 (t := 4) (by decide) ?_
            first | exact no (fun e => b2 ((m0 (far b1)).mp e)) | exact yes ((m0 (far b1)).mpr b2) | exact no (fun e => b2 ((m1 (near b1)).mp e)) | exact yes ((m1 (near b1)).mpr b2)
          · refine zz_iconst S (v := 1) rfl dX8_isWord_56 (q := 57) rfl ?_
            refine zz_goto S dX8_isWord_57 (t := 61) (by decide) ?_
            refine zz_istore_2 S rfl dX8_isWord_61 (q := 62) rfl ?_
            refine zz_iinc_3 S rfl dX8_isWord_62 (q := 65) rfl ?_
            refine zz_goto S dX8_isWord_65 (t := 4) (by decide) ?_
            first | exact no (fun e => b2 ((m0 (far b1)).mp e)) | exact yes ((m0 (far b1)).mpr b2) | exact no (fun e => b2 ((m1 (near b1)).mp e)) | exact yes ((m1 (near b1)).mpr b2)
theorem co_isWord (x : Int32) (v len : Nat) (T : ZTok) (im : ZI) (hx : x = nI v) (hv : v < 7) (hT : zTx im T len) : zz_OP G l 2 mX8_isWord [.ref 470, .int x] zE im (if isW (im 474) T v then 1 else 0) := by
  subst hx
  refine zz_intro (isI := false) (by decide) rfl (Nat.le_of_ble_eq_true rfl) (fun h => by cases h) (fun w S => ?_)
  refine zz_iconst S (v := 1) rfl dX8_isWord_0 (q := 1) rfl ?_
  refine zz_istore_2 S rfl dX8_isWord_1 (q := 2) rfl ?_
  refine zz_iconst S (v := 0) rfl dX8_isWord_2 (q := 3) rfl ?_
  refine zz_istore_3 S rfl dX8_isWord_3 (q := 4) rfl ?_
  -- at 4
  exact lo_isWord S hv hT (fun r hr => ⟨rfl, _, rfl, rfl, hr, rfl⟩) (T.2.1 - T.1 + 1) 0 0 1 (by omega) rfl (Or.inl ⟨rfl, fun j hj => absurd hj (by omega)⟩)
set_option maxHeartbeats 4000000 in
theorem lo_wordHere {n0 mcT msT : Nat} {isI : Bool} {Qf : Option Value → ZE → ZI → Prop} {w : Nat → ZL → List Value → Nat → ZE → ZI → Prop} {z len Z : Nat} {T : ZTok} {im : ZI} (S : zz_S G l RX8 cX8_wordHere 2 3 n0 mcT msT isI (some .int) Qf w)
    (hT : zTx im T len) (hQ : w 22 [some (.ref 470), some (.int (nI Z))] [] z zE im) :
    ∀ (n v : Nat) (x : Int32), v + n = 7 → x = nI v → Z = rk_wG (im 474) T n v → w 2 [some (.ref 470), some (.int x)] [] z zE im := by
  intro n
  induction n with
  | zero =>
    intro v x hv hx hF
    have hv : v = 7 := by omega
    subst hv
    refine zz_iload_1 S dX8_wordHere_2 (q := 3) rfl ?_
    refine zz_bipush S (v := 7) rfl dX8_wordHere_3 (q := 5) rfl ?_
    refine zz_icmp_ge S dX8_wordHere_5 (t := 22) (by decide) (q := 8) rfl (fun a1 => ?_) (fun a1 => ?_)
    -- then 22 else 8
    · rw [hF, rk_wG, ← hx] at hQ
      exact hQ
    · exact absurd (by rw [hx]; decide) a1
  | succ n ih =>
    intro v x hv hx hF
    refine zz_iload_1 S dX8_wordHere_2 (q := 3) rfl ?_
    refine zz_bipush S (v := 7) rfl dX8_wordHere_3 (q := 5) rfl ?_
    refine zz_icmp_ge S dX8_wordHere_5 (t := 22) (by decide) (q := 8) rfl (fun a1 => ?_) (fun a1 => ?_)
    -- then 22 else 8
    · exact absurd a1 (by rw [hx]; exact nI_ge (b := 7) (by omega) (by omega))
    · refine zz_aload_0 S dX8_wordHere_8 (q := 9) rfl ?_
      refine zz_iload_1 S dX8_wordHere_9 (q := 10) rfl ?_
      -- at 10: invokevirtual 224
      refine zz_virtP S yy_X8_isWord lX8_224 (ci := 8) (by decide) rfl (co_isWord x v len T im hx (by omega) hT) rfl (Nat.le_of_ble_eq_true rfl) (Nat.le_of_ble_eq_true rfl) rfl (Nat.le_of_ble_eq_true rfl) rfl dX8_wordHere_10 (q := 13) rfl ?_
      refine zz_if_ne S dX8_wordHere_13 (t := 22) (by decide) (q := 16) rfl (fun a2 => ?_) (fun a2 => ?_)
      -- then 22 else 16
      · have a3 := zs_ne0 a2
        rw [rk_wG, if_pos a3] at hF
        rw [hF, ← hx] at hQ
        exact hQ
      · have a3 := zs_b1.mp a2
        rw [rk_wG, if_neg a3] at hF
        refine zz_iinc_1 S rfl dX8_wordHere_16 (q := 19) rfl ?_
        refine zz_goto S dX8_wordHere_19 (t := 2) (by decide) ?_
        -- at 2
        exact ih (v + 1) _ (by omega) (by rw [hx]; exact nI_1 v) hF
theorem co_wordHere (len : Nat) (T : ZTok) (im : ZI) (hT : zTx im T len) : zz_OP G l 3 mX8_wordHere [.ref 470] zE im (nI (rk_word (im 474) T)) := by
  have h11 : im 470 11 = nI T.2.2 := hT.1.2.2
  have hk := hT.2.2.2.1.2.2
  have e1 : im 470 11 = 1 ↔ T.2.2 = 1 := by rw [h11]; exact nI_eq (a := T.2.2) (b := 1) (by omega) (by omega)
  refine zz_intro (isI := false) (by decide) rfl (Nat.le_of_ble_eq_true rfl) (fun h => by cases h) (fun w S => ?_)
  refine zz_iconst S (v := 0) rfl dX8_wordHere_0 (q := 1) rfl ?_
  refine zz_istore_1 S rfl dX8_wordHere_1 (q := 2) rfl ?_
  -- at 2
  refine lo_wordHere (Z := rk_wG (im 474) T 7 0) S hT ?_ 7 0 0 (by omega) rfl rfl
  refine zz_aload_0 S dX8_wordHere_22 (q := 23) rfl ?_
  refine zz_getI S fX8_211 rfl (Nat.le_of_ble_eq_true rfl) rfl dX8_wordHere_23 (q := 26) rfl ?_
  refine zz_iconst S (v := 1) rfl dX8_wordHere_26 (q := 27) rfl ?_
  refine zz_icmp_ne S dX8_wordHere_27 (t := 34) (by decide) (q := 30) rfl (fun h1 => ?_) (fun h1 => ?_)
  · refine zz_bipush S (v := 7) rfl dX8_wordHere_34 (q := 36) rfl ?_
    refine zz_iret S dX8_wordHere_36 ⟨rfl, _, rfl, rfl, ?_⟩
    refine ⟨?_, rfl⟩
    unfold rk_word
    first | rw [if_pos (e1.mp h1)] | (rw [if_neg (fun e => h1 (e1.mpr e))]; rfl) | rw [if_pos (e1.mp (Classical.not_not.mp h1))]
  · refine zz_iload_1 S dX8_wordHere_30 (q := 31) rfl ?_
    refine zz_goto S dX8_wordHere_31 (t := 36) (by decide) ?_
    refine zz_iret S dX8_wordHere_36 ⟨rfl, _, rfl, rfl, ?_⟩
    refine ⟨?_, rfl⟩
    unfold rk_word
    first | rw [if_pos (e1.mp h1)] | (rw [if_neg (fun e => h1 (e1.mpr e))]; rfl) | rw [if_pos (e1.mp (Classical.not_not.mp h1))]
/-- how many numbers a command has -/
def rk_cnt : Nat → Nat
  | 3 => 3
  | 1 => 2
  | 2 => 2
  | 4 => 1
  | 6 => 1
  | _ => 0
theorem co_numbersOf (v : Nat) (x : Int32) (hx : x = nI v) (hv : v < 7) (E : ZE) (im : ZI) : zz_OP G l 0 mX8_numbersOf [.int x] E im (nI (rk_cnt v)) := by
  subst hx
  refine zz_intro (isI := false) (by decide) rfl (Nat.le_of_ble_eq_true rfl) (fun h => by cases h) (fun w S => ?_)
  rcases (show v = 0 ∨ v = 1 ∨ v = 2 ∨ v = 3 ∨ v = 4 ∨ v = 5 ∨ v = 6 by omega) with rfl | rfl | rfl | rfl | rfl | rfl | rfl
  all_goals
    refine zz_iload_0 S dX8_numbersOf_0 (q := 1) rfl ?_
    refine zz_iconst S (v := 3) rfl dX8_numbersOf_1 (q := 2) rfl ?_
    refine zz_icmp_ne S dX8_numbersOf_2 (t := 9) (by decide) (q := 5) rfl (fun h1 => ?_) (fun h1 => ?_)
    · refine zz_iload_0 S dX8_numbersOf_9 (q := 10) rfl ?_
      refine zz_iconst S (v := 1) rfl dX8_numbersOf_10 (q := 11) rfl ?_
      refine zz_icmp_eq S dX8_numbersOf_11 (t := 19) (by decide) (q := 14) rfl (fun h2 => ?_) (fun h2 => ?_)
      · refine zz_iconst S (v := 2) rfl dX8_numbersOf_19 (q := 20) rfl ?_
        refine zz_goto S dX8_numbersOf_20 (t := 39) (by decide) ?_
        refine zz_iret S dX8_numbersOf_39 ⟨rfl, _, rfl, rfl, ?_⟩
        refine ⟨?_, rfl⟩
        first | rfl | exact absurd h1 (by decide) | exact absurd (by decide) h1 | exact absurd h2 (by decide) | exact absurd (by decide) h2 | exact absurd h3 (by decide) | exact absurd (by decide) h3 | exact absurd h4 (by decide) | exact absurd (by decide) h4 | exact absurd h5 (by decide) | exact absurd (by decide) h5
      · refine zz_iload_0 S dX8_numbersOf_14 (q := 15) rfl ?_
        refine zz_iconst S (v := 2) rfl dX8_numbersOf_15 (q := 16) rfl ?_
        refine zz_icmp_ne S dX8_numbersOf_16 (t := 23) (by decide) (q := 19) rfl (fun h3 => ?_) (fun h3 => ?_)
        · refine zz_iload_0 S dX8_numbersOf_23 (q := 24) rfl ?_
          refine zz_iconst S (v := 4) rfl dX8_numbersOf_24 (q := 25) rfl ?_
          refine zz_icmp_eq S dX8_numbersOf_25 (t := 34) (by decide) (q := 28) rfl (fun h4 => ?_) (fun h4 => ?_)
          · refine zz_iconst S (v := 1) rfl dX8_numbersOf_34 (q := 35) rfl ?_
            refine zz_goto S dX8_numbersOf_35 (t := 39) (by decide) ?_
            refine zz_iret S dX8_numbersOf_39 ⟨rfl, _, rfl, rfl, ?_⟩
            refine ⟨?_, rfl⟩
            first | rfl | exact absurd h1 (by decide) | exact absurd (by decide) h1 | exact absurd h2 (by decide) | exact absurd (by decide) h2 | exact absurd h3 (by decide) | exact absurd (by decide) h3 | exact absurd h4 (by decide) | exact absurd (by decide) h4 | exact absurd h5 (by decide) | exact absurd (by decide) h5
          · refine zz_iload_0 S dX8_numbersOf_28 (q := 29) rfl ?_
            refine zz_bipush S (v := 6) rfl dX8_numbersOf_29 (q := 31) rfl ?_
            refine zz_icmp_ne S dX8_numbersOf_31 (t := 38) (by decide) (q := 34) rfl (fun h5 => ?_) (fun h5 => ?_)
            · refine zz_iconst S (v := 0) rfl dX8_numbersOf_38 (q := 39) rfl ?_
              refine zz_iret S dX8_numbersOf_39 ⟨rfl, _, rfl, rfl, ?_⟩
              refine ⟨?_, rfl⟩
              first | rfl | exact absurd h1 (by decide) | exact absurd (by decide) h1 | exact absurd h2 (by decide) | exact absurd (by decide) h2 | exact absurd h3 (by decide) | exact absurd (by decide) h3 | exact absurd h4 (by decide) | exact absurd (by decide) h4 | exact absurd h5 (by decide) | exact absurd (by decide) h5
            · refine zz_iconst S (v := 1) rfl dX8_numbersOf_34 (q := 35) rfl ?_
              refine zz_goto S dX8_numbersOf_35 (t := 39) (by decide) ?_
              refine zz_iret S dX8_numbersOf_39 ⟨rfl, _, rfl, rfl, ?_⟩
              refine ⟨?_, rfl⟩
              first | rfl | exact absurd h1 (by decide) | exact absurd (by decide) h1 | exact absurd h2 (by decide) | exact absurd (by decide) h2 | exact absurd h3 (by decide) | exact absurd (by decide) h3 | exact absurd h4 (by decide) | exact absurd (by decide) h4 | exact absurd h5 (by decide) | exact absurd (by decide) h5
        · refine zz_iconst S (v := 2) rfl dX8_numbersOf_19 (q := 20) rfl ?_
          refine zz_goto S dX8_numbersOf_20 (t := 39) (by decide) ?_
          refine zz_iret S dX8_numbersOf_39 ⟨rfl, _, rfl, rfl, ?_⟩
          refine ⟨?_, rfl⟩
          first | rfl | exact absurd h1 (by decide) | exact absurd (by decide) h1 | exact absurd h2 (by decide) | exact absurd (by decide) h2 | exact absurd h3 (by decide) | exact absurd (by decide) h3 | exact absurd h4 (by decide) | exact absurd (by decide) h4 | exact absurd h5 (by decide) | exact absurd (by decide) h5
    · refine zz_iconst S (v := 3) rfl dX8_numbersOf_5 (q := 6) rfl ?_
      refine zz_goto S dX8_numbersOf_6 (t := 39) (by decide) ?_
      refine zz_iret S dX8_numbersOf_39 ⟨rfl, _, rfl, rfl, ?_⟩
      refine ⟨?_, rfl⟩
      first | rfl | exact absurd h1 (by decide) | exact absurd (by decide) h1 | exact absurd h2 (by decide) | exact absurd (by decide) h2 | exact absurd h3 (by decide) | exact absurd (by decide) h3 | exact absurd h4 (by decide) | exact absurd (by decide) h4 | exact absurd h5 (by decide) | exact absurd (by decide) h5
theorem co_fail (x : Int32) (im : ZI) : zz_OV G l 0 mX8_fail [.ref 470, .int x] zE im (fun im' => im' = zz_u im 470 14 (if im 470 14 < 0 then x else im 470 14)) := by
  refine zz_intro (isI := false) (by decide) rfl (Nat.le_of_ble_eq_true rfl) (fun h => by cases h) (fun w S => ?_)
  refine zz_aload_0 S dX8_fail_0 (q := 1) rfl ?_
  refine zz_aload_0 S dX8_fail_1 (q := 2) rfl ?_
  refine zz_getI S fX8_214 rfl (Nat.le_of_ble_eq_true rfl) rfl dX8_fail_2 (q := 5) rfl ?_
  refine zz_if_ge S dX8_fail_5 (t := 12) (by decide) (q := 8) rfl (fun h1 => ?_) (fun h1 => ?_)
  · refine zz_aload_0 S dX8_fail_12 (q := 13) rfl ?_
    refine zz_getI S fX8_214 rfl (Nat.le_of_ble_eq_true rfl) rfl dX8_fail_13 (q := 16) rfl ?_
    refine zz_putI S fX8_214 rfl rfl (Nat.le_of_ble_eq_true rfl) rfl dX8_fail_16 (q := 19) rfl ?_
    refine zz_vret S dX8_fail_19 ⟨rfl, rfl, rfl, ?_⟩
    first | rw [if_neg (Int32.not_lt.mpr h1)] | rw [if_pos (Int32.not_le.mp h1)]
  · refine zz_iload_1 S dX8_fail_8 (q := 9) rfl ?_
    refine zz_goto S dX8_fail_9 (t := 16) (by decide) ?_
    refine zz_putI S fX8_214 rfl rfl (Nat.le_of_ble_eq_true rfl) rfl dX8_fail_16 (q := 19) rfl ?_
    refine zz_vret S dX8_fail_19 ⟨rfl, rfl, rfl, ?_⟩
    first | rw [if_neg (Int32.not_lt.mpr h1)] | rw [if_pos (Int32.not_le.mp h1)]
end ZWRD
