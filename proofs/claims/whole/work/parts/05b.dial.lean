/-! THE REFERENCE: dials -/
theorem zs_okq {q : Int32} (h1 : -720 ≤ q.toInt) (h2 : q.toInt ≤ 720) : zs_ok q := by
  have key : ∀ i, i < 1441 → ¬ (648000 - zs_prod (nI i + (-720))) + (648000 - zs_prod (nI i + (-720))) = 0 := by
    have h : (List.range 1441).all (fun i => decide (¬ (648000 - zs_prod (nI i + (-720))) + (648000 - zs_prod (nI i + (-720))) = 0)) = true := by decide +kernel
    intro i hi
    have h9 := List.all_eq_true.mp h i (List.mem_range.mpr hi)
    exact of_decide_eq_true h9
  have e : q = nI (q.toInt + 720).toNat + (-720) := by
    apply Int32.toInt_inj.mp
    rw [Int32.toInt_add, nI_toInt (by omega), show ((-720 : Int32)).toInt = -720 from rfl, Int.bmod_eq_of_le (by omega) (by omega)]
    omega
  have h := key (q.toInt + 720).toNat (by omega)
  rw [← e] at h
  exact h
/-- the offset at a time, where it is on the dial -/
def zs_off (f v d m : Int32) : Int64 := zs_rd (1000 * zs_side f v m) (zs_front f v d m)
def zs_on (f v d m : Int32) : Prop := 0 < zs_front f v d m ∧ -3000 ≤ zs_off f v d m ∧ zs_off f v d m ≤ 3000
/-- a dial: the offset at each place, -100009 where there is none -/
def zs_dial (f v d : Int32) (i : Nat) : Int32 := if 0 < zs_front f v d (zs_t i) ∧ -3000 ≤ zs_off f v d (zs_t i) ∧ zs_off f v d (zs_t i) ≤ 3000 then (zs_off f v d (zs_t i)).toInt32 else -100009
theorem zs_i32 {x : Int64} (h1 : -3000 ≤ x) (h2 : x ≤ 3000) : (x.toInt32).toInt = x.toInt ∧ -3000 ≤ x.toInt ∧ x.toInt ≤ 3000 := by
  have a1 : -3000 ≤ x.toInt := by have := Int64.le_iff_toInt_le.mp h1; simpa using this
  have a2 : x.toInt ≤ 3000 := by have := Int64.le_iff_toInt_le.mp h2; simpa using this
  refine ⟨?_, a1, a2⟩
  rw [Int64.toInt_toInt32, Int.bmod_eq_of_le (by omega) (by omega)]
theorem zs_dial_on {f v d : Int32} {i : Nat} (h : 0 < zs_front f v d (zs_t i) ∧ -3000 ≤ zs_off f v d (zs_t i) ∧ zs_off f v d (zs_t i) ≤ 3000) : zs_dial f v d i = (zs_off f v d (zs_t i)).toInt32 ∧ zs_dial f v d i ≠ -100009 ∧ -3000 ≤ (zs_dial f v d i).toInt ∧ (zs_dial f v d i).toInt ≤ 3000 := by
  have e : zs_dial f v d i = (zs_off f v d (zs_t i)).toInt32 := by unfold zs_dial; rw [if_pos h]
  obtain ⟨h1, h2, h3⟩ := zs_i32 h.2.1 h.2.2
  rw [e]
  refine ⟨rfl, fun q => ?_, by omega, by omega⟩
  rw [q] at h1
  have : ((-100009 : Int32)).toInt = -100009 := rfl
  omega
/-- what offsets a dial may have -/
def zs_fine (c : Nat → Int32) : Prop := ∀ i, c i ≠ -100009 → -3000 ≤ (c i).toInt ∧ (c i).toInt ≤ 3000
theorem zs_dial_fine (f v d : Int32) : zs_fine (zs_dial f v d) := by
  intro i h
  by_cases hc : 0 < zs_front f v d (zs_t i) ∧ -3000 ≤ zs_off f v d (zs_t i) ∧ zs_off f v d (zs_t i) ≤ 3000
  · exact (zs_dial_on hc).2.2
  · exact absurd (by unfold zs_dial; rw [if_neg hc]) h
/-- the reference holds the dial c -/
def zm_at (im : ZI) (c : Nat → Int32) (i : Nat) : Prop := im 477 i = (if c i = -100009 then 0 else 1) ∧ im 476 i = (if c i = -100009 then 0 else c i)
def zm_dial (im : ZI) (c : Nat → Int32) : Prop := ∀ i, i < 721 → zm_at im c i
/-- what a method leaves as it was, but for some rows -/
def zz_keep (ks : List Nat) (im im' : ZI) : Prop := ∀ k, k ∉ ks → im' k = im k
theorem zz_keep.rf {ks : List Nat} {im : ZI} : zz_keep ks im im := fun _ _ => rfl
theorem zz_keep.u {ks : List Nat} {im im' : ZI} (h : zz_keep ks im im') {k j : Nat} {v : Int32} (hk : k ∈ ks) : zz_keep ks im (zz_u im' k j v) := fun q hq => by
  rw [zz_u_off _ _ _ _ (fun e => hq (by rw [e]; exact hk))]
  exact h q hq
theorem zz_keep.tr {ks ks' : List Nat} {im im1 im2 : ZI} (h1 : zz_keep ks im im1) (h2 : zz_keep ks' im1 im2) (hs : ∀ k, k ∈ ks' → k ∈ ks) : zz_keep ks im im2 := fun k hk => (h2 k (fun h => hk (hs k h))).trans (h1 k hk)
theorem zz_keep.le {ks ks' : List Nat} {im im1 : ZI} (h1 : zz_keep ks im im1) (hs : ∀ k, k ∈ ks → k ∈ ks') : zz_keep ks' im im1 := fun k hk => h1 k (fun h => hk (hs k h))
theorem zs_two {b : Int64} (h : 0 < b) : ¬ b + b = 0 := by
  intro e
  have h1 := congrArg Int64.toInt e
  rw [Int64.toInt_add] at h1
  have h2 : b.toInt < 2 ^ 63 := Int64.toInt_lt b
  have h3 : 0 < b.toInt := by have := Int64.lt_iff_toInt_lt.mp h; simpa using this
  have h4 : (0 : Int64).toInt = 0 := rfl
  rw [h4] at h1
  unfold Int.bmod at h1
  simp only at h1
  split at h1 <;> omega
section ZRECK
variable {G : ZG} {l : Launch}
set_option maxHeartbeats 4000000 in
theorem lo_reckon {n0 mcT msT : Nat} {isI : Bool} {Qf : Option Value → ZE → ZI → Prop} {w : Nat → ZL → List Value → Nat → ZE → ZI → Prop} {lat v dec : Int32} {z : Nat} {im0 : ZI} (S : zz_S G l RX8 cX8_reckon 12 4 n0 mcT msT isI none Qf w)
    (h1 : zs_ok (4 * lat)) (h2 : zs_ok (360 + 4 * lat)) (h3 : zs_ok (4 * dec)) (h4 : zs_ok (360 + 4 * dec))
    (hQ : ∀ im', zm_dial im' (zs_dial (4 * lat) v (4 * dec)) → zz_keep [476, 477] im0 im' → Qf none zE im') :
    ∀ (n i : Nat) (x : Int32) (im : ZI), i + n = 721 → x = zs_t i → (∀ j, j < i → zm_at im (zs_dial (4 * lat) v (4 * dec)) j) → zz_keep [476, 477] im0 im →
      w 15 [some (.ref 470), some (.int lat), some (.int v), some (.int dec), some (.int (4 * lat)), some (.int (4 * dec)), some (.int x), none, none, none, none, none] [] z zE im := by
  intro n
  induction n with
  | zero =>
    intro i x im hi hx hc hk
    have hi : i = 721 := by omega
    subst hi
    have hx1 := zs_t_i (i := 721) (by omega)
    refine zz_iload_6 S dX8_reckon_15 (q := 17) rfl ?_
    refine zz_sipush S (v := 360) rfl dX8_reckon_17 (q := 20) rfl ?_
    refine zz_icmp_gt S dX8_reckon_20 (t := 139) (by decide) (q := 23) rfl (fun a1 => ?_) (fun a1 => ?_)
    -- then 139 else 23
    · exact zz_vret S dX8_reckon_139 (hQ im hc hk)
    · exact absurd (by rw [hx, gt_iff_lt, Int32.lt_iff_toInt_lt, hx1]; decide) a1
  | succ n ih =>
    intro i x im hi hx hc hk
    have hx1 := zs_t_i (i := i) (by omega)
    have ht : zs_ok x := by rw [hx]; exact zs_okq (by omega) (by omega)
    have ht2 : zs_ok (360 + x) := by
      have e : 360 + x = nI i := by rw [hx, Int32.add_comm]; exact zs_t_ix i
      rw [e]
      exact zs_okq (by rw [nI_toInt (by omega)]; omega) (by rw [nI_toInt (by omega)]; omega)
    have hix : x + 360 = nI i := by rw [hx]; exact zs_t_ix i
    have hnx : x + Int32.ofInt 1 = zs_t (i + 1) := by rw [hx]; exact zs_t_add i 1
    -- the next round
    have step : ∀ (b o : Int32) (u1 u2 u3 u4 u5 : Option Value), b = (if zs_dial (4 * lat) v (4 * dec) i = -100009 then 0 else 1) → o = (if zs_dial (4 * lat) v (4 * dec) i = -100009 then 0 else zs_dial (4 * lat) v (4 * dec) i) →
        w 15 [some (.ref 470), some (.int lat), some (.int v), some (.int dec), some (.int (4 * lat)), some (.int (4 * dec)), some (.int (x + Int32.ofInt 1)), u1, u2, u3, u4, u5] [] z zE (zz_u (zz_u im 477 i b) 476 i o) := by
      intro b o u1 u2 u3 u4 u5 hb ho
      refine zz_msk S [true, true, true, true, true, true, true, false, false, false, false, false] ?_
      refine ih (i + 1) _ _ (by omega) hnx (fun j hj => ?_) ((hk.u (by simp)).u (by simp))
      by_cases hji : j = i
      · subst hji
        exact ⟨by rw [zz_u_n _ _ (by simp), zz_u_e, hb], by rw [zz_u_e, ho]⟩
      · have := hc j (by omega)
        exact ⟨by rw [zz_u_n _ _ (by simp), zz_u_n _ _ (by omega)]; exact this.1, by rw [zz_u_n _ _ (by omega), zz_u_n _ _ (by simp)]; exact this.2⟩
    have off : ¬ (0 < zs_front (4 * lat) v (4 * dec) x ∧ -3000 ≤ zs_off (4 * lat) v (4 * dec) x ∧ zs_off (4 * lat) v (4 * dec) x ≤ 3000) → zs_dial (4 * lat) v (4 * dec) i = -100009 := fun h => by
      unfold zs_dial
      rw [← hx, if_neg h]
    have nar0 : vp_nar .boolean 0 = 0 := rfl
    have nar1 : vp_nar .boolean 1 = 1 := rfl
    refine zz_iload_6 S dX8_reckon_15 (q := 17) rfl ?_
    refine zz_sipush S (v := 360) rfl dX8_reckon_17 (q := 20) rfl ?_
    refine zz_icmp_gt S dX8_reckon_20 (t := 139) (by decide) (q := 23) rfl (fun a1 => ?_) (fun a1 => ?_)
    -- then 139 else 23
    · exact absurd a1 (by rw [hx, gt_iff_lt, Int32.lt_iff_toInt_lt, hx1]; show ¬ (360 : Int) < _; omega)
    · refine zz_iload_4 S dX8_reckon_23 (q := 25) rfl ?_
      refine zz_iload_2 S dX8_reckon_25 (q := 26) rfl ?_
      refine zz_iload_5 S dX8_reckon_26 (q := 28) rfl ?_
      refine zz_iload_6 S dX8_reckon_28 (q := 30) rfl ?_
      -- at 30: invokestatic 59
      refine zz_statPL S yy_X8_frontOf lX8_59 (co_frontOf G l (4 * lat) v (4 * dec) x h1 h4 ht ht2 h3 zE im) rfl (Nat.le_of_ble_eq_true rfl) (Nat.le_of_ble_eq_true rfl) rfl dX8_reckon_30 (q := 33) rfl ?_
      refine zz_lstore_7 S rfl dX8_reckon_33 (q := 35) rfl ?_
      refine zz_lload_7 S dX8_reckon_35 (q := 37) rfl ?_
      refine zz_lconst S (v := 0) rfl dX8_reckon_37 (q := 38) rfl ?_
      refine zz_lcmp S dX8_reckon_38 (q := 39) rfl ?_
      refine zz_if_le S dX8_reckon_39 (t := 62) (by decide) (q := 42) rfl (fun a2 => ?_) (fun a2 => ?_)
      -- then 62 else 42
      · have a2' : ¬ 0 < zs_front (4 * lat) v (4 * dec) x := by
          have := (lg_cmp_le _ _).mp a2
          intro h
          rw [Int64.lt_iff_toInt_lt] at h
          rw [Int64.le_iff_toInt_le] at this
          omega
        have e0 := off (fun h => a2' h.1)
        refine zz_lconst S (v := 0) rfl dX8_reckon_62 (q := 63) rfl ?_
        refine zz_lstore_9 S rfl dX8_reckon_63 (q := 65) rfl ?_
        refine zz_lload_7 S dX8_reckon_65 (q := 67) rfl ?_
        refine zz_lconst S (v := 0) rfl dX8_reckon_67 (q := 68) rfl ?_
        refine zz_lcmp S dX8_reckon_68 (q := 69) rfl ?_
        refine zz_if_le S dX8_reckon_69 (t := 94) (by decide) (q := 72) rfl (fun a3 => ?_) (fun a3 => ?_)
        -- then 94 else 72
        · refine zz_iconst S (v := 0) rfl dX8_reckon_94 (q := 95) rfl ?_
          -- at 95
          refine zz_istore_11 S rfl dX8_reckon_95 (q := 97) rfl ?_
          refine zz_aload_0 S dX8_reckon_97 (q := 98) rfl ?_
          refine zz_getR S fX8_28 rfl (Nat.le_of_ble_eq_true rfl) rfl rfl dX8_reckon_98 (q := 101) rfl ?_
          refine zz_iload_6 S dX8_reckon_101 (q := 103) rfl ?_
          refine zz_sipush S (v := 360) rfl dX8_reckon_103 (q := 106) rfl ?_
          refine zz_iadd S dX8_reckon_106 (q := 107) rfl ?_
          refine zz_iload_11 S dX8_reckon_107 (q := 109) rfl ?_
          refine zz_zaS S (j := i) (Nat.le_of_ble_eq_true rfl) rfl (Nat.le_of_ble_eq_true rfl) hix (by omega) dX8_reckon_109 (q := 110) rfl ?_
          refine zz_aload_0 S dX8_reckon_110 (q := 111) rfl ?_
          refine zz_getR S fX8_25 rfl (Nat.le_of_ble_eq_true rfl) rfl rfl dX8_reckon_111 (q := 114) rfl ?_
          refine zz_iload_6 S dX8_reckon_114 (q := 116) rfl ?_
          refine zz_sipush S (v := 360) rfl dX8_reckon_116 (q := 119) rfl ?_
          refine zz_iadd S dX8_reckon_119 (q := 120) rfl ?_
          refine zz_iload_11 S dX8_reckon_120 (q := 122) rfl ?_
          refine zz_if_eq S dX8_reckon_122 (t := 131) (by decide) (q := 125) rfl (fun a4 => ?_) (fun a4 => ?_)
          -- then 131 else 125
          · refine zz_iconst S (v := 0) rfl dX8_reckon_131 (q := 132) rfl ?_
            refine zz_iaS S (j := i) (Nat.le_of_ble_eq_true rfl) rfl (Nat.le_of_ble_eq_true rfl) hix (by omega) dX8_reckon_132 (q := 133) rfl ?_
            refine zz_iinc_6 S rfl dX8_reckon_133 (q := 136) rfl ?_
            refine zz_goto S dX8_reckon_136 (t := 15) (by decide) ?_
            -- at 15
            exact step 0 0 _ _ _ _ _ (by rw [if_pos e0]) (by rw [if_pos e0])
          · exact absurd rfl a4
        · exact absurd a2 a3
      · have a2' : 0 < zs_front (4 * lat) v (4 * dec) x := by
          have a2b : ¬ lg_cmp (zs_front (4 * lat) v (4 * dec) x) 0 ≤ 0 := a2
          rw [lg_cmp_le] at a2b
          rw [Int64.lt_iff_toInt_lt]
          rw [Int64.le_iff_toInt_le] at a2b
          omega
        refine zz_ldc2 S (v := 1000) kX8_63 dX8_reckon_42 (q := 45) rfl ?_
        refine zz_iload_4 S dX8_reckon_45 (q := 47) rfl ?_
        refine zz_iload_2 S dX8_reckon_47 (q := 48) rfl ?_
        refine zz_iload_6 S dX8_reckon_48 (q := 50) rfl ?_
        -- at 50: invokestatic 65
        refine zz_statPL S yy_X8_sideOf lX8_65 (co_sideOf G l (4 * lat) v x h1 h2 ht zE im) rfl (Nat.le_of_ble_eq_true rfl) (Nat.le_of_ble_eq_true rfl) rfl dX8_reckon_50 (q := 53) rfl ?_
        refine zz_lmul S dX8_reckon_53 (q := 54) rfl ?_
        refine zz_lload_7 S dX8_reckon_54 (q := 56) rfl ?_
        -- at 56: invokestatic 46
        refine zz_statPL S yy_X8_rounded lX8_46 (co_rounded G l (1000 * zs_side (4 * lat) v x) (zs_front (4 * lat) v (4 * dec) x) (zs_two a2') zE im) rfl (Nat.le_of_ble_eq_true rfl) (Nat.le_of_ble_eq_true rfl) rfl dX8_reckon_56 (q := 59) rfl ?_
        refine zz_goto S dX8_reckon_59 (t := 63) (by decide) ?_
        refine zz_lstore_9 S rfl dX8_reckon_63 (q := 65) rfl ?_
        refine zz_lload_7 S dX8_reckon_65 (q := 67) rfl ?_
        refine zz_lconst S (v := 0) rfl dX8_reckon_67 (q := 68) rfl ?_
        refine zz_lcmp S dX8_reckon_68 (q := 69) rfl ?_
        refine zz_if_le S dX8_reckon_69 (t := 94) (by decide) (q := 72) rfl (fun a3 => ?_) (fun a3 => ?_)
        -- then 94 else 72
        · exact absurd a3 a2
        · refine zz_lload_9 S dX8_reckon_72 (q := 74) rfl ?_
          refine zz_ldc2 S (v := (-3000)) kX8_69 dX8_reckon_74 (q := 77) rfl ?_
          refine zz_lcmp S dX8_reckon_77 (q := 78) rfl ?_
          refine zz_if_lt S dX8_reckon_78 (t := 94) (by decide) (q := 81) rfl (fun a4 => ?_) (fun a4 => ?_)
          -- then 94 else 81
          · have e0 := off (fun h => by
              have b1 := (lg_cmp_lt _ _).mp a4
              have b2 := h.2.1
              rw [Int64.lt_iff_toInt_lt] at b1
              rw [Int64.le_iff_toInt_le] at b2
              exact absurd b2 (Int.not_le.mpr b1))
            refine zz_iconst S (v := 0) rfl dX8_reckon_94 (q := 95) rfl ?_
            refine zz_istore_11 S rfl dX8_reckon_95 (q := 97) rfl ?_
            refine zz_aload_0 S dX8_reckon_97 (q := 98) rfl ?_
            refine zz_getR S fX8_28 rfl (Nat.le_of_ble_eq_true rfl) rfl rfl dX8_reckon_98 (q := 101) rfl ?_
            refine zz_iload_6 S dX8_reckon_101 (q := 103) rfl ?_
            refine zz_sipush S (v := 360) rfl dX8_reckon_103 (q := 106) rfl ?_
            refine zz_iadd S dX8_reckon_106 (q := 107) rfl ?_
            refine zz_iload_11 S dX8_reckon_107 (q := 109) rfl ?_
            refine zz_zaS S (j := i) (Nat.le_of_ble_eq_true rfl) rfl (Nat.le_of_ble_eq_true rfl) hix (by omega) dX8_reckon_109 (q := 110) rfl ?_
            refine zz_aload_0 S dX8_reckon_110 (q := 111) rfl ?_
            refine zz_getR S fX8_25 rfl (Nat.le_of_ble_eq_true rfl) rfl rfl dX8_reckon_111 (q := 114) rfl ?_
            refine zz_iload_6 S dX8_reckon_114 (q := 116) rfl ?_
            refine zz_sipush S (v := 360) rfl dX8_reckon_116 (q := 119) rfl ?_
            refine zz_iadd S dX8_reckon_119 (q := 120) rfl ?_
            refine zz_iload_11 S dX8_reckon_120 (q := 122) rfl ?_
            refine zz_if_eq S dX8_reckon_122 (t := 131) (by decide) (q := 125) rfl (fun a5 => ?_) (fun a5 => ?_)
            -- then 131 else 125
            · refine zz_iconst S (v := 0) rfl dX8_reckon_131 (q := 132) rfl ?_
              refine zz_iaS S (j := i) (Nat.le_of_ble_eq_true rfl) rfl (Nat.le_of_ble_eq_true rfl) hix (by omega) dX8_reckon_132 (q := 133) rfl ?_
              refine zz_iinc_6 S rfl dX8_reckon_133 (q := 136) rfl ?_
              refine zz_goto S dX8_reckon_136 (t := 15) (by decide) ?_
              -- at 15
              exact step 0 0 _ _ _ _ _ (by rw [if_pos e0]) (by rw [if_pos e0])
            · exact absurd rfl a5
          · refine zz_lload_9 S dX8_reckon_81 (q := 83) rfl ?_
            refine zz_ldc2 S (v := 3000) kX8_71 dX8_reckon_83 (q := 86) rfl ?_
            refine zz_lcmp S dX8_reckon_86 (q := 87) rfl ?_
            refine zz_if_gt S dX8_reckon_87 (t := 94) (by decide) (q := 90) rfl (fun a5 => ?_) (fun a5 => ?_)
            -- then 94 else 90
            · have e0 := off (fun h => by
                have b1 := (lg_cmp_gt _ _).mp a5
                have b2 := h.2.2
                rw [Int64.lt_iff_toInt_lt] at b1
                rw [Int64.le_iff_toInt_le] at b2
                exact absurd b2 (Int.not_le.mpr b1))
              refine zz_iconst S (v := 0) rfl dX8_reckon_94 (q := 95) rfl ?_
              refine zz_istore_11 S rfl dX8_reckon_95 (q := 97) rfl ?_
              refine zz_aload_0 S dX8_reckon_97 (q := 98) rfl ?_
              refine zz_getR S fX8_28 rfl (Nat.le_of_ble_eq_true rfl) rfl rfl dX8_reckon_98 (q := 101) rfl ?_
              refine zz_iload_6 S dX8_reckon_101 (q := 103) rfl ?_
              refine zz_sipush S (v := 360) rfl dX8_reckon_103 (q := 106) rfl ?_
              refine zz_iadd S dX8_reckon_106 (q := 107) rfl ?_
              refine zz_iload_11 S dX8_reckon_107 (q := 109) rfl ?_
              refine zz_zaS S (j := i) (Nat.le_of_ble_eq_true rfl) rfl (Nat.le_of_ble_eq_true rfl) hix (by omega) dX8_reckon_109 (q := 110) rfl ?_
              refine zz_aload_0 S dX8_reckon_110 (q := 111) rfl ?_
              refine zz_getR S fX8_25 rfl (Nat.le_of_ble_eq_true rfl) rfl rfl dX8_reckon_111 (q := 114) rfl ?_
              refine zz_iload_6 S dX8_reckon_114 (q := 116) rfl ?_
              refine zz_sipush S (v := 360) rfl dX8_reckon_116 (q := 119) rfl ?_
              refine zz_iadd S dX8_reckon_119 (q := 120) rfl ?_
              refine zz_iload_11 S dX8_reckon_120 (q := 122) rfl ?_
              refine zz_if_eq S dX8_reckon_122 (t := 131) (by decide) (q := 125) rfl (fun a6 => ?_) (fun a6 => ?_)
              -- then 131 else 125
              · refine zz_iconst S (v := 0) rfl dX8_reckon_131 (q := 132) rfl ?_
                refine zz_iaS S (j := i) (Nat.le_of_ble_eq_true rfl) rfl (Nat.le_of_ble_eq_true rfl) hix (by omega) dX8_reckon_132 (q := 133) rfl ?_
                refine zz_iinc_6 S rfl dX8_reckon_133 (q := 136) rfl ?_
                refine zz_goto S dX8_reckon_136 (t := 15) (by decide) ?_
                -- at 15
                exact step 0 0 _ _ _ _ _ (by rw [if_pos e0]) (by rw [if_pos e0])
              · exact absurd rfl a6
            · have hon : 0 < zs_front (4 * lat) v (4 * dec) (zs_t i) ∧ -3000 ≤ zs_off (4 * lat) v (4 * dec) (zs_t i) ∧ zs_off (4 * lat) v (4 * dec) (zs_t i) ≤ 3000 := by
                rw [← hx]
                refine ⟨a2', ?_, ?_⟩
                · have b1 := mt (lg_cmp_lt _ _).mpr a4
                  rw [Int64.lt_iff_toInt_lt] at b1
                  rw [Int64.le_iff_toInt_le]
                  exact Int.not_lt.mp b1
                · have b1 := mt (lg_cmp_gt _ _).mpr a5
                  rw [Int64.lt_iff_toInt_lt] at b1
                  rw [Int64.le_iff_toInt_le]
                  exact Int.not_lt.mp b1
              obtain ⟨e0, e1, -⟩ := zs_dial_on hon
              refine zz_iconst S (v := 1) rfl dX8_reckon_90 (q := 91) rfl ?_
              refine zz_goto S dX8_reckon_91 (t := 95) (by decide) ?_
              refine zz_istore_11 S rfl dX8_reckon_95 (q := 97) rfl ?_
              refine zz_aload_0 S dX8_reckon_97 (q := 98) rfl ?_
              refine zz_getR S fX8_28 rfl (Nat.le_of_ble_eq_true rfl) rfl rfl dX8_reckon_98 (q := 101) rfl ?_
              refine zz_iload_6 S dX8_reckon_101 (q := 103) rfl ?_
              refine zz_sipush S (v := 360) rfl dX8_reckon_103 (q := 106) rfl ?_
              refine zz_iadd S dX8_reckon_106 (q := 107) rfl ?_
              refine zz_iload_11 S dX8_reckon_107 (q := 109) rfl ?_
              refine zz_zaS S (j := i) (Nat.le_of_ble_eq_true rfl) rfl (Nat.le_of_ble_eq_true rfl) hix (by omega) dX8_reckon_109 (q := 110) rfl ?_
              refine zz_aload_0 S dX8_reckon_110 (q := 111) rfl ?_
              refine zz_getR S fX8_25 rfl (Nat.le_of_ble_eq_true rfl) rfl rfl dX8_reckon_111 (q := 114) rfl ?_
              refine zz_iload_6 S dX8_reckon_114 (q := 116) rfl ?_
              refine zz_sipush S (v := 360) rfl dX8_reckon_116 (q := 119) rfl ?_
              refine zz_iadd S dX8_reckon_119 (q := 120) rfl ?_
              refine zz_iload_11 S dX8_reckon_120 (q := 122) rfl ?_
              refine zz_if_eq S dX8_reckon_122 (t := 131) (by decide) (q := 125) rfl (fun a6 => ?_) (fun a6 => ?_)
              -- then 131 else 125
              · exact absurd a6 (by decide)
              · refine zz_lload_9 S dX8_reckon_125 (q := 127) rfl ?_
                refine zz_l2i S dX8_reckon_127 (q := 128) rfl ?_
                refine zz_goto S dX8_reckon_128 (t := 132) (by decide) ?_
                refine zz_iaS S (j := i) (Nat.le_of_ble_eq_true rfl) rfl (Nat.le_of_ble_eq_true rfl) hix (by omega) dX8_reckon_132 (q := 133) rfl ?_
                refine zz_iinc_6 S rfl dX8_reckon_133 (q := 136) rfl ?_
                refine zz_goto S dX8_reckon_136 (t := 15) (by decide) ?_
                -- at 15
                exact step 1 _ _ _ _ _ _ (by rw [if_neg e1]) (by rw [if_neg e1, e0, ← hx]; rfl)
theorem co_reckon (lat v dec : Int32) (h1 : zs_ok (4 * lat)) (h2 : zs_ok (360 + 4 * lat)) (h3 : zs_ok (4 * dec)) (h4 : zs_ok (360 + 4 * dec)) (im : ZI) :
    zz_OV G l 4 mX8_reckon [.ref 470, .int lat, .int v, .int dec] zE im (fun im' => zm_dial im' (zs_dial (4 * lat) v (4 * dec)) ∧ zz_keep [476, 477] im im') := by
  refine zz_intro (isI := false) (by decide) rfl (Nat.le_of_ble_eq_true rfl) (fun h => by cases h) (fun w S => ?_)
  refine zz_iconst S (v := 4) rfl dX8_reckon_0 (q := 1) rfl ?_
  refine zz_iload_1 S dX8_reckon_1 (q := 2) rfl ?_
  refine zz_imul S dX8_reckon_2 (q := 3) rfl ?_
  refine zz_istore_4 S rfl dX8_reckon_3 (q := 5) rfl ?_
  refine zz_iconst S (v := 4) rfl dX8_reckon_5 (q := 6) rfl ?_
  refine zz_iload_3 S dX8_reckon_6 (q := 7) rfl ?_
  refine zz_imul S dX8_reckon_7 (q := 8) rfl ?_
  refine zz_istore_5 S rfl dX8_reckon_8 (q := 10) rfl ?_
  refine zz_sipush S (v := (-360)) rfl dX8_reckon_10 (q := 13) rfl ?_
  refine zz_istore_6 S rfl dX8_reckon_13 (q := 15) rfl ?_
  -- at 15
  exact lo_reckon S h1 h2 h3 h4 (fun im' a b => ⟨rfl, rfl, rfl, a, b⟩) 721 0 _ im (by omega) rfl (fun j hj => absurd hj (Nat.not_lt_zero j)) zz_keep.rf
/-- has, off -/
theorem co_has (x : Int32) (i : Nat) (c : Nat → Int32) (im : ZI) (hx : x + 360 = nI i) (hi : i < 721) (hc : zm_dial im c) : zz_OP G l 0 mX8_has [.ref 470, .int x] zE im (if c i = -100009 then 0 else 1) := by
  refine zz_intro (isI := false) (by decide) rfl (Nat.le_of_ble_eq_true rfl) (fun h => by cases h) (fun w S => ?_)
  refine zz_aload_0 S dX8_has_0 (q := 1) rfl ?_
  refine zz_getR S fX8_28 rfl (Nat.le_of_ble_eq_true rfl) rfl rfl dX8_has_1 (q := 4) rfl ?_
  refine zz_iload_1 S dX8_has_4 (q := 5) rfl ?_
  refine zz_sipush S (v := 360) rfl dX8_has_5 (q := 8) rfl ?_
  refine zz_iadd S dX8_has_8 (q := 9) rfl ?_
  refine zz_zaN S (j := i) (Nat.le_of_ble_eq_true rfl) rfl (Nat.le_of_ble_eq_true rfl) hx hi dX8_has_9 (q := 10) rfl ?_
  refine zz_zret S (zz_bit (by rw [(hc i hi).1]; exact zs_b0b)) dX8_has_10 ⟨rfl, _, rfl, rfl, ?_⟩
  exact ⟨(hc i hi).1, rfl⟩
theorem co_off (x : Int32) (i : Nat) (c : Nat → Int32) (im : ZI) (hx : x + 360 = nI i) (hi : i < 721) (hc : zm_dial im c) (hn : c i ≠ -100009) : zz_OP G l 0 mX8_off [.ref 470, .int x] zE im (c i) := by
  refine zz_intro (isI := false) (by decide) rfl (Nat.le_of_ble_eq_true rfl) (fun h => by cases h) (fun w S => ?_)
  refine zz_aload_0 S dX8_off_0 (q := 1) rfl ?_
  refine zz_getR S fX8_25 rfl (Nat.le_of_ble_eq_true rfl) rfl rfl dX8_off_1 (q := 4) rfl ?_
  refine zz_iload_1 S dX8_off_4 (q := 5) rfl ?_
  refine zz_sipush S (v := 360) rfl dX8_off_5 (q := 8) rfl ?_
  refine zz_iadd S dX8_off_8 (q := 9) rfl ?_
  refine zz_iaN S (j := i) (Nat.le_of_ble_eq_true rfl) rfl (Nat.le_of_ble_eq_true rfl) hx hi dX8_off_9 (q := 10) rfl ?_
  refine zz_iret S dX8_off_10 ⟨rfl, _, rfl, rfl, ?_⟩
  exact ⟨by rw [(hc i hi).2, if_neg hn], rfl⟩
end ZRECK
