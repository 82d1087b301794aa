/-! THE REFERENCE: readings, and how far they are apart -/
def zs_by (c : Nat → Int32) (s : Int32) : Nat → Nat → Int32
  | 0, _ => -100009
  | n + 1, k => if c (60 * k) = -100009 ∨ c (60 * k + 60) = -100009 ∨ c (60 * k) > s ∨ s > c (60 * k + 60) then zs_by c s n (k + 1)
      else if c (60 * k + 60) - c (60 * k) = 0 then zs_t (60 * k)
      else ((zs_t (60 * k)).toInt64 + zs_rd (60 * (s - c (60 * k)).toInt64) (c (60 * k + 60) - c (60 * k)).toInt64).toInt32
def zs_byL (c : Nat → Int32) (s : Int32) : Int32 := zs_by c s 12 0
def zs_shG (c : Nat → Int32) (s : Int32) : Nat → Nat → Int32 → Int32 → Int32
  | 0, _, its, _ => its
  | n + 1, i, its, least => if c i = -100009 then zs_shG c s n (i + 1) its least
      else if its = -100009 ∨ zs_size (c i - s) < least then zs_shG c s n (i + 1) (zs_t i) (zs_size (c i - s))
      else zs_shG c s n (i + 1) its least
def zs_sh (c : Nat → Int32) (s : Int32) : Int32 := zs_shG c s 721 0 (-100009) 0
def zs_apG (c : Nat → Int32) : Nat → Nat → Int32 → Int32 → Int32 × Int32
  | 0, _, g, t => (g, t)
  | n + 1, i, g, t => if c i = -100009 ∨ zs_byL c (c i) = -100009 then zs_apG c n (i + 1) g t
      else if t = -100009 ∨ zs_size (zs_t i - zs_byL c (c i)) > g then zs_apG c n (i + 1) (zs_size (zs_t i - zs_byL c (c i))) (zs_t i)
      else zs_apG c n (i + 1) g t
def zs_ap (c : Nat → Int32) : Int32 × Int32 := zs_apG c 721 0 0 (-100009)
def zs_hlG (c : Nat → Int32) : Nat → Nat → Int32 → Int32
  | 0, _, m => m
  | n + 1, k, m => zs_hlG c n (k + 1) (m + (if c (60 * k) = -100009 then 0 else 1))
def zs_hl (c : Nat → Int32) : Int32 := zs_hlG c 13 0 0
theorem zs_ne (i : Nat) (h : i < 100000) : zs_t i ≠ -100009 := by
  intro e
  have h1 := zs_t_i h
  rw [e] at h1
  have h2 : ((-100009 : Int32)).toInt = -100009 := rfl
  omega
/-- a quotient by a number above 0, small numbers: the floor -/
theorem zs_rd_i {a b : Int64} (hb : 0 < b.toInt) (hb2 : b.toInt < 2 ^ 60) (ha : -2 ^ 60 < a.toInt) (ha2 : a.toInt < 2 ^ 60) : (zs_rd a b).toInt = (2 * a.toInt + b.toInt) / (2 * b.toInt) := by
  have e1 : (a + a + b).toInt = 2 * a.toInt + b.toInt := by
    rw [Int64.toInt_add, Int64.toInt_add, Int.bmod_eq_of_le (n := a.toInt + a.toInt) (by omega) (by omega), Int.bmod_eq_of_le (by omega) (by omega)]
    omega
  have e2 : (b + b).toInt = 2 * b.toInt := by
    rw [Int64.toInt_add, Int.bmod_eq_of_le (by omega) (by omega)]
    omega
  generalize hT : 2 * a.toInt + b.toInt = T at e1 ⊢
  generalize hY : 2 * b.toInt = Y at e2 ⊢
  have hY0 : 0 < Y := by omega
  have hY1 : Y < 2 ^ 61 := by omega
  have hT0 : -2 ^ 62 < T := by omega
  have hT1 : T < 2 ^ 62 := by omega
  clear hT hY
  have hn : (T.tdiv Y).natAbs ≤ T.natAbs := Int.natAbs_tdiv_le_natAbs _ _
  have ht : ((a + a + b) / (b + b)).toInt = T.tdiv Y := by
    rw [Int64.toInt_div, e1, e2]
    apply Int.bmod_eq_of_le <;> omega
  by_cases h0 : 0 ≤ a + a + b
  · unfold zs_rd
    rw [if_pos h0, ht, Int.tdiv_eq_ediv_of_nonneg]
    have := Int64.le_iff_toInt_le.mp h0
    rw [e1] at this
    simpa using this
  · have h1 : T < 0 := by
      rw [Int64.le_iff_toInt_le, e1] at h0
      have : (0 : Int64).toInt = 0 := rfl
      omega
    have hq := Int.tdiv_eq_ediv (a := T) (b := Y)
    have hsg : Y.sign = 1 := Int.sign_eq_one_of_pos hY0
    have hm : ((a + a + b) / (b + b) * (b + b)).toInt = T.tdiv Y * Y := by
      rw [Int64.toInt_mul, ht, e2]
      have h5 := Int.tmod_add_mul_tdiv T Y
      have h6 : (T.tmod Y).natAbs < Y.natAbs := by
        rw [Int.natAbs_tmod]
        exact Nat.mod_lt _ (by omega)
      rw [Int.mul_comm] at h5
      generalize T.tdiv Y * Y = P at h5 ⊢
      generalize T.tmod Y = M at h5 h6
      apply Int.bmod_eq_of_le <;> omega
    unfold zs_rd
    rw [if_neg h0]
    by_cases hd : Y ∣ T
    · have hz : (a + a + b) / (b + b) * (b + b) = a + a + b := by
        apply Int64.toInt_inj.mp
        rw [hm, e1]
        exact Int.tdiv_mul_cancel hd
      rw [if_pos hz, ht, hq, if_pos (Or.inr hd)]
      omega
    · have hz : ¬ (a + a + b) / (b + b) * (b + b) = a + a + b := by
        intro e
        have := congrArg Int64.toInt e
        rw [hm, e1] at this
        exact hd ⟨T.tdiv Y, by rw [Int.mul_comm]; exact this.symm⟩
      rw [if_neg (by rintro (h | h); omega; exact hd h), hsg] at hq
      rw [if_neg hz, Int64.toInt_sub, ht]
      have h1' : (1 : Int64).toInt = 1 := rfl
      have hs : T.tdiv Y - 1 = T / Y := by omega
      rw [h1', hs]
      apply Int.bmod_eq_of_le <;> omega
/-- a reading lies within -360 to 360 -/
theorem zs_by_in {c : Nat → Int32} (hc : zs_fine c) {s : Int32} : ∀ (n k : Nat), k + n = 12 → zs_by c s n k ≠ -100009 → -360 ≤ (zs_by c s n k).toInt ∧ (zs_by c s n k).toInt ≤ 360 := by
  intro n
  induction n with
  | zero => intro k _ h; exact absurd rfl h
  | succ n ih =>
    intro k hk
    rw [zs_by]
    split
    · exact ih (k + 1) (by omega)
    · rename_i h1
      have ha := hc (60 * k) (fun e => h1 (Or.inl e))
      have hb := hc (60 * k + 60) (fun e => h1 (Or.inr (Or.inl e)))
      have h2 : ¬ c (60 * k) > s := fun e => h1 (Or.inr (Or.inr (Or.inl e)))
      have h3 : ¬ s > c (60 * k + 60) := fun e => h1 (Or.inr (Or.inr (Or.inr e)))
      rw [gt_iff_lt, Int32.lt_iff_toInt_lt] at h2 h3
      have ht := zs_t_i (i := 60 * k) (by omega)
      split
      · intro _
        rw [ht]
        omega
      · rename_i h4
        intro _
        have d1 : (s - c (60 * k)).toInt = s.toInt - (c (60 * k)).toInt := by
          rw [Int32.toInt_sub, Int.bmod_eq_of_le (by omega) (by omega)]
        have d2 : (c (60 * k + 60) - c (60 * k)).toInt = (c (60 * k + 60)).toInt - (c (60 * k)).toInt := by
          rw [Int32.toInt_sub, Int.bmod_eq_of_le (by omega) (by omega)]
        have d3 : (c (60 * k + 60) - c (60 * k)).toInt ≠ 0 := by
          intro e
          exact h4 (Int32.toInt_inj.mp (by rw [e]; rfl))
        have d4 : ((60 : Int64) * (s - c (60 * k)).toInt64).toInt = 60 * (s - c (60 * k)).toInt := by
          rw [Int64.toInt_mul, Int32.toInt_toInt64, show ((60 : Int64)).toInt = 60 from rfl, Int.bmod_eq_of_le (by omega) (by omega)]
        have d5 : (c (60 * k + 60) - c (60 * k)).toInt64.toInt = (c (60 * k + 60) - c (60 * k)).toInt := Int32.toInt_toInt64 _
        have hr := zs_rd_i (a := 60 * (s - c (60 * k)).toInt64) (b := (c (60 * k + 60) - c (60 * k)).toInt64) (by omega) (by omega) (by omega) (by omega)
        rw [d4, d5, d1, d2] at hr
        have lo : 0 ≤ (zs_rd (60 * (s - c (60 * k)).toInt64) (c (60 * k + 60) - c (60 * k)).toInt64).toInt := by
          rw [hr]
          apply Int.ediv_nonneg <;> omega
        have hi : (zs_rd (60 * (s - c (60 * k)).toInt64) (c (60 * k + 60) - c (60 * k)).toInt64).toInt ≤ 60 := by
          rw [hr]
          apply Int.le_of_lt_add_one
          apply Int.ediv_lt_of_lt_mul <;> omega
        rw [Int64.toInt_toInt32, Int64.toInt_add, Int32.toInt_toInt64, ht]
        generalize (zs_rd (60 * (s - c (60 * k)).toInt64) (c (60 * k + 60) - c (60 * k)).toInt64).toInt = Z at lo hi
        rw [Int.bmod_eq_of_le (n := ((60 * k : Nat) : Int) - 360 + Z) (by omega) (by omega), Int.bmod_eq_of_le (by omega) (by omega)]
        omega
theorem zs_wide {a b : Int32} (h : ¬ a - b = 0) : ¬ (a - b).toInt64 + (a - b).toInt64 = 0 := by
  intro e
  have h1 := congrArg Int64.toInt e
  have h2 := Int32.toInt_lt (a - b)
  have h3 := Int32.le_toInt (a - b)
  rw [Int64.toInt_add, Int32.toInt_toInt64, Int.bmod_eq_of_le (by omega) (by omega)] at h1
  have h4 : (0 : Int64).toInt = 0 := rfl
  rw [h4] at h1
  exact h (Int32.toInt_inj.mp (by show _ = 0; omega))
section ZLINES
variable {G : ZG} {l : Launch}
theorem zs_t_60 (k : Nat) : zs_t (60 * k) + 60 = zs_t (60 * k + 60) := zs_t_add (60 * k) 60
set_option maxHeartbeats 4000000 in
theorem lo_byLines {n0 mcT msT : Nat} {isI : Bool} {Qf : Option Value → ZE → ZI → Prop} {w : Nat → ZL → List Value → Nat → ZE → ZI → Prop} {s : Int32} {z : Nat} {im : ZI} {c : Nat → Int32} (S : zz_S G l RX8 cX8_byLines 4 1 n0 mcT msT isI (some .int) Qf w)
    (hc : zm_dial im c) (hQ : Qf (some (.int (zs_byL c s))) zE im) :
    ∀ (n k : Nat) (x : Int32), k + n = 12 → x = zs_t (60 * k) → zs_byL c s = zs_by c s n k → w 4 [some (.ref 470), some (.int s), some (.int x), none] [] z zE im := by
  intro n
  induction n with
  | zero =>
    intro k x hk hx hF
    have hk : k = 12 := by omega
    subst hk
    have hx1 := zs_t_i (i := 60 * 12) (by omega)
    refine zz_iload_2 S dX8_byLines_4 (q := 5) rfl ?_
    refine zz_sipush S (v := 360) rfl dX8_byLines_5 (q := 8) rfl ?_
    refine zz_icmp_ge S dX8_byLines_8 (t := 102) (by decide) (q := 11) rfl (fun a1 => ?_) (fun a1 => ?_)
    -- then 102 else 11
    · refine zz_ldc S (v := (-100009)) kX8_83 dX8_byLines_102 (q := 104) rfl ?_
      -- at 104: ireturn 
      exact zz_iret S dX8_byLines_104 (by rw [hF] at hQ; exact hQ)
    · exact absurd (by rw [hx, ge_iff_le, Int32.le_iff_toInt_le, hx1]; decide) a1
  | succ n ih =>
    intro k x hk hx hF
    have hx1 := zs_t_i (i := 60 * k) (by omega)
    have i1 : x + 360 = nI (60 * k) := by rw [hx]; exact zs_t_ix _
    have i2 : x + 60 + 360 = nI (60 * k + 60) := by rw [hx, zs_t_60]; exact zs_t_ix _
    have step : (c (60 * k) = -100009 ∨ c (60 * k + 60) = -100009 ∨ c (60 * k) > s ∨ s > c (60 * k + 60)) → w 96 [some (.ref 470), some (.int s), some (.int x), none] [] z zE im := fun h => by
      refine zz_iinc_2 S rfl dX8_byLines_96 (q := 99) rfl ?_
      refine zz_goto S dX8_byLines_99 (t := 4) (by decide) ?_
      -- at 4
      exact ih (k + 1) _ (by omega) (by rw [hx]; exact zs_t_60 k) (by rw [hF, zs_by, if_pos h])
    refine zz_iload_2 S dX8_byLines_4 (q := 5) rfl ?_
    refine zz_sipush S (v := 360) rfl dX8_byLines_5 (q := 8) rfl ?_
    refine zz_icmp_ge S dX8_byLines_8 (t := 102) (by decide) (q := 11) rfl (fun a1 => ?_) (fun a1 => ?_)
    -- then 102 else 11
    · exact absurd a1 (by rw [hx, ge_iff_le, Int32.le_iff_toInt_le, hx1]; show ¬ (360 : Int) ≤ _; omega)
    · refine zz_aload_0 S dX8_byLines_11 (q := 12) rfl ?_
      refine zz_iload_2 S dX8_byLines_12 (q := 13) rfl ?_
      refine zz_virtP S yy_X8_has lX8_73 (ci := 8) (by decide) rfl (co_has x (60 * k) c im i1 (by omega) hc) rfl (Nat.le_of_ble_eq_true rfl) (Nat.le_of_ble_eq_true rfl) rfl (Nat.le_of_ble_eq_true rfl) rfl dX8_byLines_13 (q := 16) rfl ?_
      refine zz_if_eq S dX8_byLines_16 (t := 96) (by decide) (q := 19) rfl (fun b1 => ?_) (fun b1 => ?_)
      · first | exact step (Or.inl (zs_b0.mp b1)) | exact step (Or.inr (Or.inl (zs_b0.mp b2))) | exact step (Or.inr (Or.inr (Or.inl b3))) | exact step (Or.inr (Or.inr (Or.inr b4)))
      · refine zz_aload_0 S dX8_byLines_19 (q := 20) rfl ?_
        refine zz_iload_2 S dX8_byLines_20 (q := 21) rfl ?_
        refine zz_bipush S (v := 60) rfl dX8_byLines_21 (q := 23) rfl ?_
        refine zz_iadd S dX8_byLines_23 (q := 24) rfl ?_
        refine zz_virtP S yy_X8_has lX8_73 (ci := 8) (by decide) rfl (co_has (x + 60) (60 * k + 60) c im i2 (by omega) hc) rfl (Nat.le_of_ble_eq_true rfl) (Nat.le_of_ble_eq_true rfl) rfl (Nat.le_of_ble_eq_true rfl) rfl dX8_byLines_24 (q := 27) rfl ?_
        refine zz_if_eq S dX8_byLines_27 (t := 96) (by decide) (q := 30) rfl (fun b2 => ?_) (fun b2 => ?_)
        · first | exact step (Or.inl (zs_b0.mp b1)) | exact step (Or.inr (Or.inl (zs_b0.mp b2))) | exact step (Or.inr (Or.inr (Or.inl b3))) | exact step (Or.inr (Or.inr (Or.inr b4)))
        · refine zz_aload_0 S dX8_byLines_30 (q := 31) rfl ?_
          refine zz_iload_2 S dX8_byLines_31 (q := 32) rfl ?_
          refine zz_virtP S yy_X8_off lX8_77 (ci := 8) (by decide) rfl (co_off x (60 * k) c im i1 (by omega) hc (fun e => b1 (zs_b0.mpr e))) rfl (Nat.le_of_ble_eq_true rfl) (Nat.le_of_ble_eq_true rfl) rfl (Nat.le_of_ble_eq_true rfl) rfl dX8_byLines_32 (q := 35) rfl ?_
          refine zz_iload_1 S dX8_byLines_35 (q := 36) rfl ?_
          refine zz_icmp_gt S dX8_byLines_36 (t := 96) (by decide) (q := 39) rfl (fun b3 => ?_) (fun b3 => ?_)
          · first | exact step (Or.inl (zs_b0.mp b1)) | exact step (Or.inr (Or.inl (zs_b0.mp b2))) | exact step (Or.inr (Or.inr (Or.inl b3))) | exact step (Or.inr (Or.inr (Or.inr b4)))
          · refine zz_iload_1 S dX8_byLines_39 (q := 40) rfl ?_
            refine zz_aload_0 S dX8_byLines_40 (q := 41) rfl ?_
            refine zz_iload_2 S dX8_byLines_41 (q := 42) rfl ?_
            refine zz_bipush S (v := 60) rfl dX8_byLines_42 (q := 44) rfl ?_
            refine zz_iadd S dX8_byLines_44 (q := 45) rfl ?_
            refine zz_virtP S yy_X8_off lX8_77 (ci := 8) (by decide) rfl (co_off (x + 60) (60 * k + 60) c im i2 (by omega) hc (fun e => b2 (zs_b0.mpr e))) rfl (Nat.le_of_ble_eq_true rfl) (Nat.le_of_ble_eq_true rfl) rfl (Nat.le_of_ble_eq_true rfl) rfl dX8_byLines_45 (q := 48) rfl ?_
            refine zz_icmp_gt S dX8_byLines_48 (t := 96) (by decide) (q := 51) rfl (fun b4 => ?_) (fun b4 => ?_)
            · first | exact step (Or.inl (zs_b0.mp b1)) | exact step (Or.inr (Or.inl (zs_b0.mp b2))) | exact step (Or.inr (Or.inr (Or.inl b3))) | exact step (Or.inr (Or.inr (Or.inr b4)))
            · refine zz_aload_0 S dX8_byLines_51 (q := 52) rfl ?_
              refine zz_iload_2 S dX8_byLines_52 (q := 53) rfl ?_
              refine zz_bipush S (v := 60) rfl dX8_byLines_53 (q := 55) rfl ?_
              refine zz_iadd S dX8_byLines_55 (q := 56) rfl ?_
              refine zz_virtP S yy_X8_off lX8_77 (ci := 8) (by decide) rfl (co_off (x + 60) (60 * k + 60) c im i2 (by omega) hc (fun e => b2 (zs_b0.mpr e))) rfl (Nat.le_of_ble_eq_true rfl) (Nat.le_of_ble_eq_true rfl) rfl (Nat.le_of_ble_eq_true rfl) rfl dX8_byLines_56 (q := 59) rfl ?_
              refine zz_aload_0 S dX8_byLines_59 (q := 60) rfl ?_
              refine zz_iload_2 S dX8_byLines_60 (q := 61) rfl ?_
              refine zz_virtP S yy_X8_off lX8_77 (ci := 8) (by decide) rfl (co_off x (60 * k) c im i1 (by omega) hc (fun e => b1 (zs_b0.mpr e))) rfl (Nat.le_of_ble_eq_true rfl) (Nat.le_of_ble_eq_true rfl) rfl (Nat.le_of_ble_eq_true rfl) rfl dX8_byLines_61 (q := 64) rfl ?_
              refine zz_isub S dX8_byLines_64 (q := 65) rfl ?_
              refine zz_istore_3 S rfl dX8_byLines_65 (q := 66) rfl ?_
              refine zz_iload_3 S dX8_byLines_66 (q := 67) rfl ?_
              refine zz_if_ne S dX8_byLines_67 (t := 74) (by decide) (q := 70) rfl (fun b5 => ?_) (fun b5 => ?_)
              · refine zz_iload_2 S dX8_byLines_74 (q := 75) rfl ?_
                refine zz_i2l S dX8_byLines_75 (q := 76) rfl ?_
                refine zz_ldc2 S (v := 60) kX8_81 dX8_byLines_76 (q := 79) rfl ?_
                refine zz_iload_1 S dX8_byLines_79 (q := 80) rfl ?_
                refine zz_aload_0 S dX8_byLines_80 (q := 81) rfl ?_
                refine zz_iload_2 S dX8_byLines_81 (q := 82) rfl ?_
                refine zz_virtP S yy_X8_off lX8_77 (ci := 8) (by decide) rfl (co_off x (60 * k) c im i1 (by omega) hc (fun e => b1 (zs_b0.mpr e))) rfl (Nat.le_of_ble_eq_true rfl) (Nat.le_of_ble_eq_true rfl) rfl (Nat.le_of_ble_eq_true rfl) rfl dX8_byLines_82 (q := 85) rfl ?_
                refine zz_isub S dX8_byLines_85 (q := 86) rfl ?_
                refine zz_i2l S dX8_byLines_86 (q := 87) rfl ?_
                refine zz_lmul S dX8_byLines_87 (q := 88) rfl ?_
                refine zz_iload_3 S dX8_byLines_88 (q := 89) rfl ?_
                refine zz_i2l S dX8_byLines_89 (q := 90) rfl ?_
                refine zz_statPL S yy_X8_rounded lX8_46 (co_rounded G l (60 * (s - c (60 * k)).toInt64) (c (60 * k + 60) - c (60 * k)).toInt64 (zs_wide b5) zE im) rfl (Nat.le_of_ble_eq_true rfl) (Nat.le_of_ble_eq_true rfl) rfl dX8_byLines_90 (q := 93) rfl ?_
                refine zz_ladd S dX8_byLines_93 (q := 94) rfl ?_
                refine zz_l2i S dX8_byLines_94 (q := 95) rfl ?_
                refine zz_iret S dX8_byLines_95 ?_
                rw [hF, zs_by, if_neg (by rintro (h | h | h | h); exact b1 (zs_b0.mpr h); exact b2 (zs_b0.mpr h); exact b3 h; exact b4 h)] at hQ
                first | (rw [if_pos b5, ← hx] at hQ; exact hQ) | (rw [if_neg b5, ← hx] at hQ; exact hQ)
              · refine zz_iload_2 S dX8_byLines_70 (q := 71) rfl ?_
                refine zz_goto S dX8_byLines_71 (t := 95) (by decide) ?_
                refine zz_iret S dX8_byLines_95 ?_
                rw [hF, zs_by, if_neg (by rintro (h | h | h | h); exact b1 (zs_b0.mpr h); exact b2 (zs_b0.mpr h); exact b3 h; exact b4 h)] at hQ
                first | (rw [if_pos b5, ← hx] at hQ; exact hQ) | (rw [if_neg b5, ← hx] at hQ; exact hQ)
theorem co_byLines (s : Int32) (c : Nat → Int32) (im : ZI) (hc : zm_dial im c) : zz_OP G l 1 mX8_byLines [.ref 470, .int s] zE im (zs_byL c s) := by
  refine zz_intro (isI := false) (by decide) rfl (Nat.le_of_ble_eq_true rfl) (fun h => by cases h) (fun w S => ?_)
  refine zz_sipush S (v := (-360)) rfl dX8_byLines_0 (q := 3) rfl ?_
  refine zz_istore_2 S rfl dX8_byLines_3 (q := 4) rfl ?_
  -- at 4
  exact lo_byLines S hc ⟨rfl, _, rfl, rfl, rfl, rfl⟩ 12 0 _ rfl rfl rfl
set_option maxHeartbeats 4000000 in
theorem lo_byShadow {n0 mcT msT : Nat} {isI : Bool} {Qf : Option Value → ZE → ZI → Prop} {w : Nat → ZL → List Value → Nat → ZE → ZI → Prop} {s : Int32} {z : Nat} {im : ZI} {c : Nat → Int32} (S : zz_S G l RX8 cX8_byShadow 7 1 n0 mcT msT isI (some .int) Qf w)
    (hc : zm_dial im c) (hQ : Qf (some (.int (zs_sh c s))) zE im) :
    ∀ (n i : Nat) (x its least : Int32), i + n = 721 → x = zs_t i → zs_sh c s = zs_shG c s n i its least → w 10 [some (.ref 470), some (.int s), some (.int its), some (.int least), some (.int x), none, none] [] z zE im := by
  intro n
  induction n with
  | zero =>
    intro i x its least hi hx hF
    have hi : i = 721 := by omega
    subst hi
    have hx1 := zs_t_i (i := 721) (by omega)
    refine zz_iload_4 S dX8_byShadow_10 (q := 12) rfl ?_
    refine zz_sipush S (v := 360) rfl dX8_byShadow_12 (q := 15) rfl ?_
    refine zz_icmp_gt S dX8_byShadow_15 (t := 89) (by decide) (q := 18) rfl (fun a1 => ?_) (fun a1 => ?_)
    -- then 89 else 18
    · refine zz_iload_2 S dX8_byShadow_89 (q := 90) rfl ?_
      -- at 90: ireturn 
      exact zz_iret S dX8_byShadow_90 (by rw [hF] at hQ; exact hQ)
    · exact absurd (by rw [hx, gt_iff_lt, Int32.lt_iff_toInt_lt, hx1]; decide) a1
  | succ n ih =>
    intro i x its least hi hx hF
    have hx1 := zs_t_i (i := i) (by omega)
    have i1 : x + 360 = nI i := by rw [hx]; exact zs_t_ix _
    have step : ∀ (its' least' : Int32) (u5 u6 : Option Value), zs_shG c s (n + 1) i its least = zs_shG c s n (i + 1) its' least' → w 83 [some (.ref 470), some (.int s), some (.int its'), some (.int least'), some (.int x), u5, u6] [] z zE im := fun its' least' u5 u6 h => by
      refine zz_iinc_4 S rfl dX8_byShadow_83 (q := 86) rfl ?_
      refine zz_goto S dX8_byShadow_86 (t := 10) (by decide) ?_
      -- at 10
      refine zz_msk S [true, true, true, true, true, false, false] ?_
      exact ih (i + 1) _ _ _ (by omega) (by rw [hx]; exact zs_t_add i 1) (by rw [hF, h])
    refine zz_iload_4 S dX8_byShadow_10 (q := 12) rfl ?_
    refine zz_sipush S (v := 360) rfl dX8_byShadow_12 (q := 15) rfl ?_
    refine zz_icmp_gt S dX8_byShadow_15 (t := 89) (by decide) (q := 18) rfl (fun a1 => ?_) (fun a1 => ?_)
    -- then 89 else 18
    · exact absurd a1 (by rw [hx, gt_iff_lt, Int32.lt_iff_toInt_lt, hx1]; show ¬ (360 : Int) < _; omega)
    · refine zz_aload_0 S dX8_byShadow_18 (q := 19) rfl ?_
      refine zz_iload_4 S dX8_byShadow_19 (q := 21) rfl ?_
      refine zz_virtP S yy_X8_has lX8_73 (ci := 8) (by decide) rfl (co_has x i c im i1 (by omega) hc) rfl (Nat.le_of_ble_eq_true rfl) (Nat.le_of_ble_eq_true rfl) rfl (Nat.le_of_ble_eq_true rfl) rfl dX8_byShadow_21 (q := 24) rfl ?_
      refine zz_if_eq S dX8_byShadow_24 (t := 83) (by decide) (q := 27) rfl (fun b1 => ?_) (fun b1 => ?_)
      · first | exact absurd b5 (by decide) | exact step _ _ _ _ (by rw [zs_shG, if_pos (zs_b0.mp b1)]) | exact absurd b3 (by decide) | exact absurd b4 (by decide) | exact absurd rfl b3 | exact absurd rfl b4 | exact step _ _ _ _ (by rw [zs_shG, if_neg (fun e => b1 (zs_b0.mpr e)), if_pos (Or.inl b2), ← hx]) | exact step _ _ _ _ (by rw [zs_shG, if_neg (fun e => b1 (zs_b0.mpr e)), if_pos (Or.inr (Int32.not_le.mp b3)), ← hx]) | exact step _ _ _ _ (by rw [zs_shG, if_neg (fun e => b1 (zs_b0.mpr e)), if_neg (by rintro (h | h); exact b2 h; exact absurd b3 (Int32.not_le.mpr h))])
      · refine zz_aload_0 S dX8_byShadow_27 (q := 28) rfl ?_
        refine zz_iload_4 S dX8_byShadow_28 (q := 30) rfl ?_
        refine zz_virtP S yy_X8_off lX8_77 (ci := 8) (by decide) rfl (co_off x i c im i1 (by omega) hc (fun e => b1 (zs_b0.mpr e))) rfl (Nat.le_of_ble_eq_true rfl) (Nat.le_of_ble_eq_true rfl) rfl (Nat.le_of_ble_eq_true rfl) rfl dX8_byShadow_30 (q := 33) rfl ?_
        refine zz_iload_1 S dX8_byShadow_33 (q := 34) rfl ?_
        refine zz_isub S dX8_byShadow_34 (q := 35) rfl ?_
        refine zz_statP S yy_X8_size lX8_84 (co_size G l (c i - s) zE im) rfl (Nat.le_of_ble_eq_true rfl) (Nat.le_of_ble_eq_true rfl) rfl dX8_byShadow_35 (q := 38) rfl ?_
        refine zz_istore_5 S rfl dX8_byShadow_38 (q := 40) rfl ?_
        refine zz_iload_2 S dX8_byShadow_40 (q := 41) rfl ?_
        refine zz_ldc S (v := (-100009)) kX8_83 dX8_byShadow_41 (q := 43) rfl ?_
        refine zz_icmp_eq S dX8_byShadow_43 (t := 52) (by decide) (q := 46) rfl (fun b2 => ?_) (fun b2 => ?_)
        · refine zz_iconst S (v := 1) rfl dX8_byShadow_52 (q := 53) rfl ?_
          refine zz_goto S dX8_byShadow_53 (t := 57) (by decide) ?_
          refine zz_istore_6 S rfl dX8_byShadow_57 (q := 59) rfl ?_
          refine zz_iload_6 S dX8_byShadow_59 (q := 61) rfl ?_
          refine zz_if_eq S dX8_byShadow_61 (t := 69) (by decide) (q := 64) rfl (fun b3 => ?_) (fun b3 => ?_)
          · refine zz_iload_2 S dX8_byShadow_69 (q := 70) rfl ?_
            refine zz_istore_2 S rfl dX8_byShadow_70 (q := 71) rfl ?_
            refine zz_iload_6 S dX8_byShadow_71 (q := 73) rfl ?_
            refine zz_if_eq S dX8_byShadow_73 (t := 81) (by decide) (q := 76) rfl (fun b4 => ?_) (fun b4 => ?_)
            · refine zz_iload_3 S dX8_byShadow_81 (q := 82) rfl ?_
              refine zz_istore_3 S rfl dX8_byShadow_82 (q := 83) rfl ?_
              first | exact absurd b5 (by decide) | exact step _ _ _ _ (by rw [zs_shG, if_pos (zs_b0.mp b1)]) | exact absurd b3 (by decide) | exact absurd b4 (by decide) | exact absurd rfl b3 | exact absurd rfl b4 | exact step _ _ _ _ (by rw [zs_shG, if_neg (fun e => b1 (zs_b0.mpr e)), if_pos (Or.inl b2), ← hx]) | exact step _ _ _ _ (by rw [zs_shG, if_neg (fun e => b1 (zs_b0.mpr e)), if_pos (Or.inr (Int32.not_le.mp b3)), ← hx]) | exact step _ _ _ _ (by rw [zs_shG, if_neg (fun e => b1 (zs_b0.mpr e)), if_neg (by rintro (h | h); exact b2 h; exact absurd b3 (Int32.not_le.mpr h))])
            · refine zz_iload_5 S dX8_byShadow_76 (q := 78) rfl ?_
              refine zz_goto S dX8_byShadow_78 (t := 82) (by decide) ?_
              refine zz_istore_3 S rfl dX8_byShadow_82 (q := 83) rfl ?_
              first | exact absurd b5 (by decide) | exact step _ _ _ _ (by rw [zs_shG, if_pos (zs_b0.mp b1)]) | exact absurd b3 (by decide) | exact absurd b4 (by decide) | exact absurd rfl b3 | exact absurd rfl b4 | exact step _ _ _ _ (by rw [zs_shG, if_neg (fun e => b1 (zs_b0.mpr e)), if_pos (Or.inl b2), ← hx]) | exact step _ _ _ _ (by rw [zs_shG, if_neg (fun e => b1 (zs_b0.mpr e)), if_pos (Or.inr (Int32.not_le.mp b3)), ← hx]) | exact step _ _ _ _ (by rw [zs_shG, if_neg (fun e => b1 (zs_b0.mpr e)), if_neg (by rintro (h | h); exact b2 h; exact absurd b3 (Int32.not_le.mpr h))])
          · refine zz_iload_4 S dX8_byShadow_64 (q := 66) rfl ?_
            refine zz_goto S dX8_byShadow_66 (t := 70) (by decide) ?_
            refine zz_istore_2 S rfl dX8_byShadow_70 (q := 71) rfl ?_
            refine zz_iload_6 S dX8_byShadow_71 (q := 73) rfl ?_
            refine zz_if_eq S dX8_byShadow_73 (t := 81) (by decide) (q := 76) rfl (fun b4 => ?_) (fun b4 => ?_)
            · refine zz_iload_3 S dX8_byShadow_81 (q := 82) rfl ?_
              refine zz_istore_3 S rfl dX8_byShadow_82 (q := 83) rfl ?_
              first | exact absurd b5 (by decide) | exact step _ _ _ _ (by rw [zs_shG, if_pos (zs_b0.mp b1)]) | exact absurd b3 (by decide) | exact absurd b4 (by decide) | exact absurd rfl b3 | exact absurd rfl b4 | exact step _ _ _ _ (by rw [zs_shG, if_neg (fun e => b1 (zs_b0.mpr e)), if_pos (Or.inl b2), ← hx]) | exact step _ _ _ _ (by rw [zs_shG, if_neg (fun e => b1 (zs_b0.mpr e)), if_pos (Or.inr (Int32.not_le.mp b3)), ← hx]) | exact step _ _ _ _ (by rw [zs_shG, if_neg (fun e => b1 (zs_b0.mpr e)), if_neg (by rintro (h | h); exact b2 h; exact absurd b3 (Int32.not_le.mpr h))])
            · refine zz_iload_5 S dX8_byShadow_76 (q := 78) rfl ?_
              refine zz_goto S dX8_byShadow_78 (t := 82) (by decide) ?_
              refine zz_istore_3 S rfl dX8_byShadow_82 (q := 83) rfl ?_
              first | exact absurd b5 (by decide) | exact step _ _ _ _ (by rw [zs_shG, if_pos (zs_b0.mp b1)]) | exact absurd b3 (by decide) | exact absurd b4 (by decide) | exact absurd rfl b3 | exact absurd rfl b4 | exact step _ _ _ _ (by rw [zs_shG, if_neg (fun e => b1 (zs_b0.mpr e)), if_pos (Or.inl b2), ← hx]) | exact step _ _ _ _ (by rw [zs_shG, if_neg (fun e => b1 (zs_b0.mpr e)), if_pos (Or.inr (Int32.not_le.mp b3)), ← hx]) | exact step _ _ _ _ (by rw [zs_shG, if_neg (fun e => b1 (zs_b0.mpr e)), if_neg (by rintro (h | h); exact b2 h; exact absurd b3 (Int32.not_le.mpr h))])
        · refine zz_iload_5 S dX8_byShadow_46 (q := 48) rfl ?_
          refine zz_iload_3 S dX8_byShadow_48 (q := 49) rfl ?_
          refine zz_icmp_ge S dX8_byShadow_49 (t := 56) (by decide) (q := 52) rfl (fun b3 => ?_) (fun b3 => ?_)
          · refine zz_iconst S (v := 0) rfl dX8_byShadow_56 (q := 57) rfl ?_
            refine zz_istore_6 S rfl dX8_byShadow_57 (q := 59) rfl ?_
            refine zz_iload_6 S dX8_byShadow_59 (q := 61) rfl ?_
            refine zz_if_eq S dX8_byShadow_61 (t := 69) (by decide) (q := 64) rfl (fun b4 => ?_) (fun b4 => ?_)
            · refine zz_iload_2 S dX8_byShadow_69 (q := 70) rfl ?_
              refine zz_istore_2 S rfl dX8_byShadow_70 (q := 71) rfl ?_
              refine zz_iload_6 S dX8_byShadow_71 (q := 73) rfl ?_
              refine zz_if_eq S dX8_byShadow_73 (t := 81) (by decide) (q := 76) rfl (fun b5 => ?_) (fun b5 => ?_)
              · refine zz_iload_3 S dX8_byShadow_81 (q := 82) rfl ?_
                refine zz_istore_3 S rfl dX8_byShadow_82 (q := 83) rfl ?_
                first | exact absurd b5 (by decide) | exact step _ _ _ _ (by rw [zs_shG, if_pos (zs_b0.mp b1)]) | exact absurd b3 (by decide) | exact absurd b4 (by decide) | exact absurd rfl b3 | exact absurd rfl b4 | exact step _ _ _ _ (by rw [zs_shG, if_neg (fun e => b1 (zs_b0.mpr e)), if_pos (Or.inl b2), ← hx]) | exact step _ _ _ _ (by rw [zs_shG, if_neg (fun e => b1 (zs_b0.mpr e)), if_pos (Or.inr (Int32.not_le.mp b3)), ← hx]) | exact step _ _ _ _ (by rw [zs_shG, if_neg (fun e => b1 (zs_b0.mpr e)), if_neg (by rintro (h | h); exact b2 h; exact absurd b3 (Int32.not_le.mpr h))])
              · refine zz_iload_5 S dX8_byShadow_76 (q := 78) rfl ?_
                refine zz_goto S dX8_byShadow_78 (t := 82) (by decide) ?_
                refine zz_istore_3 S rfl dX8_byShadow_82 (q := 83) rfl ?_
                first | exact absurd b5 (by decide) | exact step _ _ _ _ (by rw [zs_shG, if_pos (zs_b0.mp b1)]) | exact absurd b3 (by decide) | exact absurd b4 (by decide) | exact absurd rfl b3 | exact absurd rfl b4 | exact step _ _ _ _ (by rw [zs_shG, if_neg (fun e => b1 (zs_b0.mpr e)), if_pos (Or.inl b2), ← hx]) | exact step _ _ _ _ (by rw [zs_shG, if_neg (fun e => b1 (zs_b0.mpr e)), if_pos (Or.inr (Int32.not_le.mp b3)), ← hx]) | exact step _ _ _ _ (by rw [zs_shG, if_neg (fun e => b1 (zs_b0.mpr e)), if_neg (by rintro (h | h); exact b2 h; exact absurd b3 (Int32.not_le.mpr h))])
            · refine zz_iload_4 S dX8_byShadow_64 (q := 66) rfl ?_
              refine zz_goto S dX8_byShadow_66 (t := 70) (by decide) ?_
              refine zz_istore_2 S rfl dX8_byShadow_70 (q := 71) rfl ?_
              refine zz_iload_6 S dX8_byShadow_71 (q := 73) rfl ?_
              refine zz_if_eq S dX8_byShadow_73 (t := 81) (by decide) (q := 76) rfl (fun b5 => ?_) (fun b5 => ?_)
              · refine zz_iload_3 S dX8_byShadow_81 (q := 82) rfl ?_
                refine zz_istore_3 S rfl dX8_byShadow_82 (q := 83) rfl ?_
                first | exact absurd b5 (by decide) | exact step _ _ _ _ (by rw [zs_shG, if_pos (zs_b0.mp b1)]) | exact absurd b3 (by decide) | exact absurd b4 (by decide) | exact absurd rfl b3 | exact absurd rfl b4 | exact step _ _ _ _ (by rw [zs_shG, if_neg (fun e => b1 (zs_b0.mpr e)), if_pos (Or.inl b2), ← hx]) | exact step _ _ _ _ (by rw [zs_shG, if_neg (fun e => b1 (zs_b0.mpr e)), if_pos (Or.inr (Int32.not_le.mp b3)), ← hx]) | exact step _ _ _ _ (by rw [zs_shG, if_neg (fun e => b1 (zs_b0.mpr e)), if_neg (by rintro (h | h); exact b2 h; exact absurd b3 (Int32.not_le.mpr h))])
              · refine zz_iload_5 S dX8_byShadow_76 (q := 78) rfl ?_
                refine zz_goto S dX8_byShadow_78 (t := 82) (by decide) ?_
                refine zz_istore_3 S rfl dX8_byShadow_82 (q := 83) rfl ?_
                first | exact absurd b5 (by decide) | exact step _ _ _ _ (by rw [zs_shG, if_pos (zs_b0.mp b1)]) | exact absurd b3 (by decide) | exact absurd b4 (by decide) | exact absurd rfl b3 | exact absurd rfl b4 | exact step _ _ _ _ (by rw [zs_shG, if_neg (fun e => b1 (zs_b0.mpr e)), if_pos (Or.inl b2), ← hx]) | exact step _ _ _ _ (by rw [zs_shG, if_neg (fun e => b1 (zs_b0.mpr e)), if_pos (Or.inr (Int32.not_le.mp b3)), ← hx]) | exact step _ _ _ _ (by rw [zs_shG, if_neg (fun e => b1 (zs_b0.mpr e)), if_neg (by rintro (h | h); exact b2 h; exact absurd b3 (Int32.not_le.mpr h))])
          · refine zz_iconst S (v := 1) rfl dX8_byShadow_52 (q := 53) rfl ?_
            refine zz_goto S dX8_byShadow_53 (t := 57) (by decide) ?_
            refine zz_istore_6 S rfl dX8_byShadow_57 (q := 59) rfl ?_
            refine zz_iload_6 S dX8_byShadow_59 (q := 61) rfl ?_
            refine zz_if_eq S dX8_byShadow_61 (t := 69) (by decide) (q := 64) rfl (fun b4 => ?_) (fun b4 => ?_)
            · refine zz_iload_2 S dX8_byShadow_69 (q := 70) rfl ?_
              refine zz_istore_2 S rfl dX8_byShadow_70 (q := 71) rfl ?_
              refine zz_iload_6 S dX8_byShadow_71 (q := 73) rfl ?_
              refine zz_if_eq S dX8_byShadow_73 (t := 81) (by decide) (q := 76) rfl (fun b5 => ?_) (fun b5 => ?_)
              · refine zz_iload_3 S dX8_byShadow_81 (q := 82) rfl ?_
                refine zz_istore_3 S rfl dX8_byShadow_82 (q := 83) rfl ?_
                first | exact absurd b5 (by decide) | exact step _ _ _ _ (by rw [zs_shG, if_pos (zs_b0.mp b1)]) | exact absurd b3 (by decide) | exact absurd b4 (by decide) | exact absurd rfl b3 | exact absurd rfl b4 | exact step _ _ _ _ (by rw [zs_shG, if_neg (fun e => b1 (zs_b0.mpr e)), if_pos (Or.inl b2), ← hx]) | exact step _ _ _ _ (by rw [zs_shG, if_neg (fun e => b1 (zs_b0.mpr e)), if_pos (Or.inr (Int32.not_le.mp b3)), ← hx]) | exact step _ _ _ _ (by rw [zs_shG, if_neg (fun e => b1 (zs_b0.mpr e)), if_neg (by rintro (h | h); exact b2 h; exact absurd b3 (Int32.not_le.mpr h))])
              · refine zz_iload_5 S dX8_byShadow_76 (q := 78) rfl ?_
                refine zz_goto S dX8_byShadow_78 (t := 82) (by decide) ?_
                refine zz_istore_3 S rfl dX8_byShadow_82 (q := 83) rfl ?_
                first | exact absurd b5 (by decide) | exact step _ _ _ _ (by rw [zs_shG, if_pos (zs_b0.mp b1)]) | exact absurd b3 (by decide) | exact absurd b4 (by decide) | exact absurd rfl b3 | exact absurd rfl b4 | exact step _ _ _ _ (by rw [zs_shG, if_neg (fun e => b1 (zs_b0.mpr e)), if_pos (Or.inl b2), ← hx]) | exact step _ _ _ _ (by rw [zs_shG, if_neg (fun e => b1 (zs_b0.mpr e)), if_pos (Or.inr (Int32.not_le.mp b3)), ← hx]) | exact step _ _ _ _ (by rw [zs_shG, if_neg (fun e => b1 (zs_b0.mpr e)), if_neg (by rintro (h | h); exact b2 h; exact absurd b3 (Int32.not_le.mpr h))])
            · refine zz_iload_4 S dX8_byShadow_64 (q := 66) rfl ?_
              refine zz_goto S dX8_byShadow_66 (t := 70) (by decide) ?_
              refine zz_istore_2 S rfl dX8_byShadow_70 (q := 71) rfl ?_
              refine zz_iload_6 S dX8_byShadow_71 (q := 73) rfl ?_
              refine zz_if_eq S dX8_byShadow_73 (t := 81) (by decide) (q := 76) rfl (fun b5 => ?_) (fun b5 => ?_)
              · refine zz_iload_3 S dX8_byShadow_81 (q := 82) rfl ?_
                refine zz_istore_3 S rfl dX8_byShadow_82 (q := 83) rfl ?_
                first | exact absurd b5 (by decide) | exact step _ _ _ _ (by rw [zs_shG, if_pos (zs_b0.mp b1)]) | exact absurd b3 (by decide) | exact absurd b4 (by decide) | exact absurd rfl b3 | exact absurd rfl b4 | exact step _ _ _ _ (by rw [zs_shG, if_neg (fun e => b1 (zs_b0.mpr e)), if_pos (Or.inl b2), ← hx]) | exact step _ _ _ _ (by rw [zs_shG, if_neg (fun e => b1 (zs_b0.mpr e)), if_pos (Or.inr (Int32.not_le.mp b3)), ← hx]) | exact step _ _ _ _ (by rw [zs_shG, if_neg (fun e => b1 (zs_b0.mpr e)), if_neg (by rintro (h | h); exact b2 h; exact absurd b3 (Int32.not_le.mpr h))])
              · refine zz_iload_5 S dX8_byShadow_76 (q := 78) rfl ?_
                refine zz_goto S dX8_byShadow_78 (t := 82) (by decide) ?_
                refine zz_istore_3 S rfl dX8_byShadow_82 (q := 83) rfl ?_
                first | exact absurd b5 (by decide) | exact step _ _ _ _ (by rw [zs_shG, if_pos (zs_b0.mp b1)]) | exact absurd b3 (by decide) | exact absurd b4 (by decide) | exact absurd rfl b3 | exact absurd rfl b4 | exact step _ _ _ _ (by rw [zs_shG, if_neg (fun e => b1 (zs_b0.mpr e)), if_pos (Or.inl b2), ← hx]) | exact step _ _ _ _ (by rw [zs_shG, if_neg (fun e => b1 (zs_b0.mpr e)), if_pos (Or.inr (Int32.not_le.mp b3)), ← hx]) | exact step _ _ _ _ (by rw [zs_shG, if_neg (fun e => b1 (zs_b0.mpr e)), if_neg (by rintro (h | h); exact b2 h; exact absurd b3 (Int32.not_le.mpr h))])
theorem co_byShadow (s : Int32) (c : Nat → Int32) (im : ZI) (hc : zm_dial im c) : zz_OP G l 1 mX8_byShadow [.ref 470, .int s] zE im (zs_sh c s) := by
  refine zz_intro (isI := false) (by decide) rfl (Nat.le_of_ble_eq_true rfl) (fun h => by cases h) (fun w S => ?_)
  refine zz_ldc S (v := (-100009)) kX8_83 dX8_byShadow_0 (q := 2) rfl ?_
  refine zz_istore_2 S rfl dX8_byShadow_2 (q := 3) rfl ?_
  refine zz_iconst S (v := 0) rfl dX8_byShadow_3 (q := 4) rfl ?_
  refine zz_istore_3 S rfl dX8_byShadow_4 (q := 5) rfl ?_
  refine zz_sipush S (v := (-360)) rfl dX8_byShadow_5 (q := 8) rfl ?_
  refine zz_istore_4 S rfl dX8_byShadow_8 (q := 10) rfl ?_
  -- at 10
  exact lo_byShadow S hc ⟨rfl, _, rfl, rfl, rfl, rfl⟩ 721 0 _ _ _ rfl rfl rfl
theorem zs_size_i {v : Int32} (h : -1000000 ≤ v.toInt) : 0 ≤ (zs_size v).toInt := by
  unfold zs_size
  split
  · rename_i h1
    rw [ge_iff_le, Int32.le_iff_toInt_le] at h1
    exact h1
  · rename_i h1
    rw [ge_iff_le, Int32.le_iff_toInt_le] at h1
    have h2 : (0 : Int32).toInt = 0 := rfl
    have h3 := Int32.toInt_lt v
    rw [Int32.toInt_neg, Int.bmod_eq_of_le (by omega) (by omega)]
    omega
theorem zs_ap_nn {c : Nat → Int32} (hf : zs_fine c) {i : Nat} (hi : i < 721) (h : zs_byL c (c i) ≠ -100009) : 0 ≤ (zs_size (zs_t i - zs_byL c (c i))).toInt := by
  have h1 := zs_by_in hf (s := c i) 12 0 rfl h
  have h2 := zs_t_i (i := i) (by omega)
  apply zs_size_i
  rw [Int32.toInt_sub, h2]
  unfold zs_byL
  rw [Int.bmod_eq_of_le (by omega) (by omega)]
  omega
set_option maxHeartbeats 4000000 in
theorem lo_apartOf {n0 mcT msT : Nat} {isI : Bool} {Qf : Option Value → ZE → ZI → Prop} {w : Nat → ZL → List Value → Nat → ZE → ZI → Prop} {what : Int32} {z : Nat} {im : ZI} {c : Nat → Int32} (S : zz_S G l RX8 cX8_apartOf 7 2 n0 mcT msT isI (some .int) Qf w)
    (hc : zm_dial im c) (hf : zs_fine c) (hQ : Qf (some (.int (if what = 0 then (zs_ap c).1 else (zs_ap c).2))) zE im) :
    ∀ (n i : Nat) (x g t : Int32), i + n = 721 → x = zs_t i → (t = -100009 → g = 0) → zs_ap c = zs_apG c n i g t → w 10 [some (.ref 470), some (.int what), some (.int g), some (.int t), some (.int x), none, none] [] z zE im := by
  intro n
  induction n with
  | zero =>
    intro i x g t hi hx hg hF
    have hi : i = 721 := by omega
    subst hi
    have hx1 := zs_t_i (i := 721) (by omega)
    rw [hF] at hQ
    refine zz_iload_4 S dX8_apartOf_10 (q := 12) rfl ?_
    refine zz_sipush S (v := 360) rfl dX8_apartOf_12 (q := 15) rfl ?_
    refine zz_icmp_gt S dX8_apartOf_15 (t := 99) (by decide) (q := 18) rfl (fun a1 => ?_) (fun a1 => ?_)
    -- then 99 else 18
    · refine zz_iload_1 S dX8_apartOf_99 (q := 100) rfl ?_
      refine zz_if_ne S dX8_apartOf_100 (t := 107) (by decide) (q := 103) rfl (fun b1 => ?_) (fun b1 => ?_)
      · refine zz_iload_3 S dX8_apartOf_107 (q := 108) rfl ?_
        refine zz_iret S dX8_apartOf_108 ?_
        first | (rw [if_pos b1] at hQ; exact hQ) | (rw [if_neg b1] at hQ; exact hQ)
      · refine zz_iload_2 S dX8_apartOf_103 (q := 104) rfl ?_
        refine zz_goto S dX8_apartOf_104 (t := 108) (by decide) ?_
        refine zz_iret S dX8_apartOf_108 ?_
        first | (rw [if_pos b1] at hQ; exact hQ) | (rw [if_neg b1] at hQ; exact hQ)
    · exact absurd (by rw [hx, gt_iff_lt, Int32.lt_iff_toInt_lt, hx1]; decide) a1
  | succ n ih =>
    intro i x g t hi hx hg hF
    have hx1 := zs_t_i (i := i) (by omega)
    have i1 : x + 360 = nI i := by rw [hx]; exact zs_t_ix _
    have step : ∀ (g' t' : Int32) (u5 u6 : Option Value), zs_apG c (n + 1) i g t = zs_apG c n (i + 1) g' t' → (t' = -100009 → g' = 0) → w 93 [some (.ref 470), some (.int what), some (.int g'), some (.int t'), some (.int x), u5, u6] [] z zE im := fun g' t' u5 u6 h hg' => by
      refine zz_iinc_4 S rfl dX8_apartOf_93 (q := 96) rfl ?_
      refine zz_goto S dX8_apartOf_96 (t := 10) (by decide) ?_
      -- at 10
      refine zz_msk S [true, true, true, true, true, false, false] ?_
      exact ih (i + 1) _ _ _ (by omega) (by rw [hx]; exact zs_t_add i 1) hg' (by rw [hF, h])
    have hne : x ≠ -100009 := by rw [hx]; exact zs_ne i (by omega)
    have same : c i = -100009 ∨ zs_byL c (c i) = -100009 → zs_apG c (n + 1) i g t = zs_apG c n (i + 1) g t := fun h => by rw [zs_apG, if_pos h]
    have upd1 : ¬ c i = -100009 → ¬ zs_byL c (c i) = -100009 → t = -100009 ∨ zs_size (x - zs_byL c (c i)) > g → zs_apG c (n + 1) i g t = zs_apG c n (i + 1) (zs_size (x - zs_byL c (c i))) x := fun h1 h2 h3 => by
      rw [hx] at h3
      rw [zs_apG, if_neg (by rintro (h | h); exact h1 h; exact h2 h), if_pos h3, ← hx]
    have upd2 : ¬ c i = -100009 → ¬ zs_byL c (c i) = -100009 → ¬ t = -100009 → ¬ zs_size (x - zs_byL c (c i)) > g → zs_apG c (n + 1) i g t = zs_apG c n (i + 1) g t := fun h1 h2 h3 h4 => by
      rw [hx] at h4
      rw [zs_apG, if_neg (by rintro (h | h); exact h1 h; exact h2 h), if_neg (by rintro (h | h); exact h3 h; exact h4 h)]
    have zero : ¬ zs_byL c (c i) = -100009 → t = -100009 → zs_size (x - zs_byL c (c i)) ≤ g → zs_size (x - zs_byL c (c i)) = g := fun h1 h2 h3 => by
      have h4 := zs_ap_nn hf (by omega) h1
      rw [← hx] at h4
      rw [hg h2] at h3 ⊢
      rw [Int32.le_iff_toInt_le] at h3
      have h5 : (0 : Int32).toInt = 0 := rfl
      exact Int32.toInt_inj.mp (by omega)
    refine zz_iload_4 S dX8_apartOf_10 (q := 12) rfl ?_
    refine zz_sipush S (v := 360) rfl dX8_apartOf_12 (q := 15) rfl ?_
    refine zz_icmp_gt S dX8_apartOf_15 (t := 99) (by decide) (q := 18) rfl (fun a1 => ?_) (fun a1 => ?_)
    -- then 99 else 18
    · exact absurd a1 (by rw [hx, gt_iff_lt, Int32.lt_iff_toInt_lt, hx1]; show ¬ (360 : Int) < _; omega)
    · refine zz_aload_0 S dX8_apartOf_18 (q := 19) rfl ?_
      refine zz_iload_4 S dX8_apartOf_19 (q := 21) rfl ?_
      -- at 21: invokevirtual 73
      refine zz_virtP S yy_X8_has lX8_73 (ci := 8) (by decide) rfl (co_has x i c im i1 (by omega) hc) rfl (Nat.le_of_ble_eq_true rfl) (Nat.le_of_ble_eq_true rfl) rfl (Nat.le_of_ble_eq_true rfl) rfl dX8_apartOf_21 (q := 24) rfl ?_
      refine zz_if_eq S dX8_apartOf_24 (t := 40) (by decide) (q := 27) rfl (fun b1 => ?_) (fun b1 => ?_)
      -- then 40 else 27
      · refine zz_ldc S (v := (-100009)) kX8_83 dX8_apartOf_40 (q := 42) rfl ?_
        refine zz_istore_5 S rfl dX8_apartOf_42 (q := 44) rfl ?_
        refine zz_iload_5 S dX8_apartOf_44 (q := 46) rfl ?_
        refine zz_ldc S (v := (-100009)) kX8_83 dX8_apartOf_46 (q := 48) rfl ?_
        refine zz_icmp_eq S dX8_apartOf_48 (t := 93) (by decide) (q := 51) rfl (fun b2 => ?_) (fun b2 => ?_)
        -- then 93 else 51
        · exact step _ _ _ _ (same (Or.inl (zs_b0.mp b1))) hg
        · exact absurd rfl b2
      · have c1 : ¬ c i = -100009 := fun e => b1 (zs_b0.mpr e)
        refine zz_aload_0 S dX8_apartOf_27 (q := 28) rfl ?_
        refine zz_aload_0 S dX8_apartOf_28 (q := 29) rfl ?_
        refine zz_iload_4 S dX8_apartOf_29 (q := 31) rfl ?_
        -- at 31: invokevirtual 77
        refine zz_virtP S yy_X8_off lX8_77 (ci := 8) (by decide) rfl (co_off x i c im i1 (by omega) hc c1) rfl (Nat.le_of_ble_eq_true rfl) (Nat.le_of_ble_eq_true rfl) rfl (Nat.le_of_ble_eq_true rfl) rfl dX8_apartOf_31 (q := 34) rfl ?_
        refine zz_virtP S yy_X8_byLines lX8_87 (ci := 8) (by decide) rfl (co_byLines (c i) c im hc) rfl (Nat.le_of_ble_eq_true rfl) (Nat.le_of_ble_eq_true rfl) rfl (Nat.le_of_ble_eq_true rfl) rfl dX8_apartOf_34 (q := 37) rfl ?_
        refine zz_goto S dX8_apartOf_37 (t := 42) (by decide) ?_
        refine zz_istore_5 S rfl dX8_apartOf_42 (q := 44) rfl ?_
        refine zz_iload_5 S dX8_apartOf_44 (q := 46) rfl ?_
        refine zz_ldc S (v := (-100009)) kX8_83 dX8_apartOf_46 (q := 48) rfl ?_
        refine zz_icmp_eq S dX8_apartOf_48 (t := 93) (by decide) (q := 51) rfl (fun b2 => ?_) (fun b2 => ?_)
        -- then 93 else 51
        · exact step _ _ _ _ (same (Or.inr b2)) hg
        · refine zz_iload_4 S dX8_apartOf_51 (q := 53) rfl ?_
          refine zz_iload_5 S dX8_apartOf_53 (q := 55) rfl ?_
          refine zz_isub S dX8_apartOf_55 (q := 56) rfl ?_
          -- at 56: invokestatic 84
          refine zz_statP S yy_X8_size lX8_84 (co_size G l (x - zs_byL c (c i)) zE im) rfl (Nat.le_of_ble_eq_true rfl) (Nat.le_of_ble_eq_true rfl) rfl dX8_apartOf_56 (q := 59) rfl ?_
          refine zz_istore_6 S rfl dX8_apartOf_59 (q := 61) rfl ?_
          refine zz_iload_3 S dX8_apartOf_61 (q := 62) rfl ?_
          refine zz_ldc S (v := (-100009)) kX8_83 dX8_apartOf_62 (q := 64) rfl ?_
          refine zz_icmp_eq S dX8_apartOf_64 (t := 73) (by decide) (q := 67) rfl (fun b3 => ?_) (fun b3 => ?_)
          -- then 73 else 67
          · refine zz_iload_4 S dX8_apartOf_73 (q := 75) rfl ?_
            refine zz_goto S dX8_apartOf_75 (t := 79) (by decide) ?_
            refine zz_istore_3 S rfl dX8_apartOf_79 (q := 80) rfl ?_
            refine zz_iload_6 S dX8_apartOf_80 (q := 82) rfl ?_
            refine zz_iload_2 S dX8_apartOf_82 (q := 83) rfl ?_
            refine zz_icmp_le S dX8_apartOf_83 (t := 91) (by decide) (q := 86) rfl (fun b4 => ?_) (fun b4 => ?_)
            -- then 91 else 86
            · refine zz_iload_2 S dX8_apartOf_91 (q := 92) rfl ?_
              refine zz_istore_2 S rfl dX8_apartOf_92 (q := 93) rfl ?_
              -- at 93
              have e := zero b2 b3 b4
              have e2 := upd1 c1 b2 (Or.inl b3)
              rw [e] at e2
              exact step _ _ _ _ e2 (fun h => absurd h hne)
            · refine zz_iload_6 S dX8_apartOf_86 (q := 88) rfl ?_
              refine zz_goto S dX8_apartOf_88 (t := 92) (by decide) ?_
              refine zz_istore_2 S rfl dX8_apartOf_92 (q := 93) rfl ?_
              -- at 93
              exact step _ _ _ _ (upd1 c1 b2 (Or.inl b3)) (fun h => absurd h hne)
          · refine zz_iload_6 S dX8_apartOf_67 (q := 69) rfl ?_
            refine zz_iload_2 S dX8_apartOf_69 (q := 70) rfl ?_
            refine zz_icmp_le S dX8_apartOf_70 (t := 78) (by decide) (q := 73) rfl (fun b4 => ?_) (fun b4 => ?_)
            -- then 78 else 73
            · refine zz_iload_3 S dX8_apartOf_78 (q := 79) rfl ?_
              refine zz_istore_3 S rfl dX8_apartOf_79 (q := 80) rfl ?_
              refine zz_iload_6 S dX8_apartOf_80 (q := 82) rfl ?_
              refine zz_iload_2 S dX8_apartOf_82 (q := 83) rfl ?_
              refine zz_icmp_le S dX8_apartOf_83 (t := 91) (by decide) (q := 86) rfl (fun b5 => ?_) (fun b5 => ?_)
              -- then 91 else 86
              · refine zz_iload_2 S dX8_apartOf_91 (q := 92) rfl ?_
                refine zz_istore_2 S rfl dX8_apartOf_92 (q := 93) rfl ?_
                -- at 93
                exact step _ _ _ _ (upd2 c1 b2 b3 (fun h => absurd b4 (Int32.not_le.mpr h))) hg
              · exact absurd b4 b5
            · refine zz_iload_4 S dX8_apartOf_73 (q := 75) rfl ?_
              refine zz_goto S dX8_apartOf_75 (t := 79) (by decide) ?_
              refine zz_istore_3 S rfl dX8_apartOf_79 (q := 80) rfl ?_
              refine zz_iload_6 S dX8_apartOf_80 (q := 82) rfl ?_
              refine zz_iload_2 S dX8_apartOf_82 (q := 83) rfl ?_
              refine zz_icmp_le S dX8_apartOf_83 (t := 91) (by decide) (q := 86) rfl (fun b5 => ?_) (fun b5 => ?_)
              -- then 91 else 86
              · exact absurd b5 b4
              · refine zz_iload_6 S dX8_apartOf_86 (q := 88) rfl ?_
                refine zz_goto S dX8_apartOf_88 (t := 92) (by decide) ?_
                refine zz_istore_2 S rfl dX8_apartOf_92 (q := 93) rfl ?_
                -- at 93
                exact step _ _ _ _ (upd1 c1 b2 (Or.inr (Int32.not_le.mp b4))) (fun h => absurd h hne)
theorem co_apartOf (what : Int32) (c : Nat → Int32) (im : ZI) (hc : zm_dial im c) (hf : zs_fine c) : zz_OP G l 2 mX8_apartOf [.ref 470, .int what] zE im (if what = 0 then (zs_ap c).1 else (zs_ap c).2) := by
  refine zz_intro (isI := false) (by decide) rfl (Nat.le_of_ble_eq_true rfl) (fun h => by cases h) (fun w S => ?_)
  refine zz_iconst S (v := 0) rfl dX8_apartOf_0 (q := 1) rfl ?_
  refine zz_istore_2 S rfl dX8_apartOf_1 (q := 2) rfl ?_
  refine zz_ldc S (v := (-100009)) kX8_83 dX8_apartOf_2 (q := 4) rfl ?_
  refine zz_istore_3 S rfl dX8_apartOf_4 (q := 5) rfl ?_
  refine zz_sipush S (v := (-360)) rfl dX8_apartOf_5 (q := 8) rfl ?_
  refine zz_istore_4 S rfl dX8_apartOf_8 (q := 10) rfl ?_
  -- at 10
  exact lo_apartOf S hc hf ⟨rfl, _, rfl, rfl, rfl, rfl⟩ 721 0 _ _ _ rfl rfl (fun _ => rfl) rfl
set_option maxHeartbeats 4000000 in
theorem lo_hourLines {n0 mcT msT : Nat} {isI : Bool} {Qf : Option Value → ZE → ZI → Prop} {w : Nat → ZL → List Value → Nat → ZE → ZI → Prop} {z : Nat} {im : ZI} {c : Nat → Int32} (S : zz_S G l RX8 cX8_hourLines 3 1 n0 mcT msT isI (some .int) Qf w)
    (hc : zm_dial im c) (hQ : Qf (some (.int (zs_hl c))) zE im) :
    ∀ (n k : Nat) (x m : Int32), k + n = 13 → x = zs_t (60 * k) → zs_hl c = zs_hlG c n k m → w 6 [some (.ref 470), some (.int m), some (.int x)] [] z zE im := by
  intro n
  induction n with
  | zero =>
    intro k x m hk hx hF
    have hk : k = 13 := by omega
    subst hk
    have hx1 := zs_t_i (i := 60 * 13) (by omega)
    refine zz_iload_2 S dX8_hourLines_6 (q := 7) rfl ?_
    refine zz_sipush S (v := 360) rfl dX8_hourLines_7 (q := 10) rfl ?_
    refine zz_icmp_gt S dX8_hourLines_10 (t := 35) (by decide) (q := 13) rfl (fun a1 => ?_) (fun a1 => ?_)
    -- then 35 else 13
    · refine zz_iload_1 S dX8_hourLines_35 (q := 36) rfl ?_
      -- at 36: ireturn 
      exact zz_iret S dX8_hourLines_36 (by rw [hF] at hQ; exact hQ)
    · exact absurd (by rw [hx, gt_iff_lt, Int32.lt_iff_toInt_lt, hx1]; decide) a1
  | succ n ih =>
    intro k x m hk hx hF
    have hx1 := zs_t_i (i := 60 * k) (by omega)
    have i1 : x + 360 = nI (60 * k) := by rw [hx]; exact zs_t_ix _
    refine zz_iload_2 S dX8_hourLines_6 (q := 7) rfl ?_
    refine zz_sipush S (v := 360) rfl dX8_hourLines_7 (q := 10) rfl ?_
    refine zz_icmp_gt S dX8_hourLines_10 (t := 35) (by decide) (q := 13) rfl (fun a1 => ?_) (fun a1 => ?_)
    -- then 35 else 13
    · exact absurd a1 (by rw [hx, gt_iff_lt, Int32.lt_iff_toInt_lt, hx1]; show ¬ (360 : Int) < _; omega)
    · refine zz_iload_1 S dX8_hourLines_13 (q := 14) rfl ?_
      refine zz_aload_0 S dX8_hourLines_14 (q := 15) rfl ?_
      refine zz_iload_2 S dX8_hourLines_15 (q := 16) rfl ?_
      refine zz_virtP S yy_X8_has lX8_73 (ci := 8) (by decide) rfl (co_has x (60 * k) c im i1 (by omega) hc) rfl (Nat.le_of_ble_eq_true rfl) (Nat.le_of_ble_eq_true rfl) rfl (Nat.le_of_ble_eq_true rfl) rfl dX8_hourLines_16 (q := 19) rfl ?_
      refine zz_if_eq S dX8_hourLines_19 (t := 26) (by decide) (q := 22) rfl (fun b1 => ?_) (fun b1 => ?_)
      · refine zz_iconst S (v := 0) rfl dX8_hourLines_26 (q := 27) rfl ?_
        refine zz_iadd S dX8_hourLines_27 (q := 28) rfl ?_
        refine zz_istore_1 S rfl dX8_hourLines_28 (q := 29) rfl ?_
        refine zz_iinc_2 S rfl dX8_hourLines_29 (q := 32) rfl ?_
        refine zz_goto S dX8_hourLines_32 (t := 6) (by decide) ?_
        refine ih (k + 1) _ _ (by omega) (by rw [hx]; exact zs_t_60 k) ?_
        rw [hF, zs_hlG]
        first | rw [if_pos (zs_b0.mp b1)] | rw [if_neg (fun e => b1 (zs_b0.mpr e))]
      · refine zz_iconst S (v := 1) rfl dX8_hourLines_22 (q := 23) rfl ?_
        refine zz_goto S dX8_hourLines_23 (t := 27) (by decide) ?_
        refine zz_iadd S dX8_hourLines_27 (q := 28) rfl ?_
        refine zz_istore_1 S rfl dX8_hourLines_28 (q := 29) rfl ?_
        refine zz_iinc_2 S rfl dX8_hourLines_29 (q := 32) rfl ?_
        refine zz_goto S dX8_hourLines_32 (t := 6) (by decide) ?_
        refine ih (k + 1) _ _ (by omega) (by rw [hx]; exact zs_t_60 k) ?_
        rw [hF, zs_hlG]
        first | rw [if_pos (zs_b0.mp b1)] | rw [if_neg (fun e => b1 (zs_b0.mpr e))]
theorem co_hourLines (c : Nat → Int32) (im : ZI) (hc : zm_dial im c) : zz_OP G l 1 mX8_hourLines [.ref 470] zE im (zs_hl c) := by
  refine zz_intro (isI := false) (by decide) rfl (Nat.le_of_ble_eq_true rfl) (fun h => by cases h) (fun w S => ?_)
  refine zz_iconst S (v := 0) rfl dX8_hourLines_0 (q := 1) rfl ?_
  refine zz_istore_1 S rfl dX8_hourLines_1 (q := 2) rfl ?_
  refine zz_sipush S (v := (-360)) rfl dX8_hourLines_2 (q := 5) rfl ?_
  refine zz_istore_2 S rfl dX8_hourLines_5 (q := 6) rfl ?_
  -- at 6
  exact lo_hourLines S hc ⟨rfl, _, rfl, rfl, rfl, rfl⟩ 13 0 _ _ rfl rfl rfl
end ZLINES
