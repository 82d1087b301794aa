/-! THE REFERENCE: a program -/
/-- the first k places of f, behind them those of g -/
def mx (k : Nat) (f g : Nat → Int32) : Nat → Int32 := fun j => if j < k then f j else g j
theorem mx_0 (f g : Nat → Int32) : mx 0 f g = g := by
  funext j
  unfold mx
  rw [if_neg (by omega)]
theorem mx_at {k j : Nat} {f g : Nat → Int32} (h : j < k) : mx k f g j = f j := if_pos h
theorem mx_n {k j : Nat} {f g : Nat → Int32} (h : ¬ j < k) : mx k f g j = g j := if_neg h
theorem mx_s {k : Nat} {f g : Nat → Int32} {v : Int32} (hv : v = f k) : upd (mx k f g) k v = mx (k + 1) f g := by
  funext j
  by_cases hj : j = k
  · rw [hj, u_eq, mx_at (by omega), hv]
  · rw [u_ne _ _ hj]
    unfold mx
    by_cases h : j < k
    · rw [if_pos h, if_pos (by omega)]
    · rw [if_neg h, if_neg (by omega)]
theorem mx_far {k : Nat} {f g : Nat → Int32} (h : ∀ j, k ≤ j → g j = f j) : mx k f g = f := by
  funext j
  unfold mx
  split
  · rfl
  · exact h j (by omega)
theorem mx_mx {k : Nat} {f g h : Nat → Int32} : mx k (mx k f g) h = mx k f h := by
  funext j
  unfold mx
  split
  · rfl
  · rfl
def zRun (im' : ZI) (s0 : ZSt) (x : Int32) : Nat ⊕ (ZSt × Nat) → Prop
  | .inl p => im' 470 14 = nI p ∧ p ≤ 140 ∧ ∀ j, 118 ≤ j → im' 471 j = s0 j
  | .inr q => im' 470 14 = -1 ∧ im' 471 = q.1 ∧ x = nI q.2 ∧ ∀ j, 118 ≤ j → q.1 j = s0 j
def ot_r (s : ZSt) (n : Nat) (h : Nat → ZSt) (len : Nat) : Nat ⊕ (ZSt × Nat) → Int32 × ZSt × Nat × (Nat → ZSt) × Nat
  | .inl p => (-1000 - nI p, s, n, h, len)
  | .inr q => (nI q.2, q.1, sh_n n, sh_p n h s, 0)
def ot_run (tx : Nat → Int32) (s : ZSt) (n : Nat) (h : Nat → ZSt) (len : Nat) : Int32 × ZSt × Nat × (Nat → ZSt) × Nat := ot_r s n h len (rk_runG tx len 140 s (tk tx len 0) 0)
section ZPRG
variable {G : ZG} {l : Launch}
set_option maxHeartbeats 4000000 in
theorem lo_run1 {n0 mcT msT : Nat} {isI : Bool} {Qf : Option Value → ZE → ZI → Prop} {w : Nat → ZL → List Value → Nat → ZE → ZI → Prop} {z : Nat} {im1 : ZI} (S : zz_S G l RX8 cX8_run 4 10 n0 mcT msT isI (some .int) Qf w)
    (hQ : ∀ im' x, zz_keep [472] im1 im' → im' 472 = mx 356 (im1 471) (im1 472) → w 32 [some (.ref 470), some (.int x), none, none] [] z zE im') :
    ∀ (n k : Nat) (x : Int32) (im : ZI), k + n = 356 → x = nI k → zz_keep [472] im1 im → im 472 = mx k (im1 471) (im1 472) → w 7 [some (.ref 470), some (.int x), none, none] [] z zE im := by
  intro n
  induction n with
  | zero =>
    intro k x im hk hx hK h2
    have hk : k = 356 := by omega
    subst hk
    refine zz_iload_1 S dX8_run_7 (q := 8) rfl ?_
    refine zz_sipush S (v := 356) rfl dX8_run_8 (q := 11) rfl ?_
    refine zz_icmp_ge S dX8_run_11 (t := 32) (by decide) (q := 14) rfl (fun a1 => ?_) (fun a1 => ?_)
    -- then 32 else 14
    · exact hQ im x hK h2
    · exact absurd (by rw [hx]; decide) a1
  | succ n ih =>
    intro k x im hk hx hK h2
    have e1 : im 471 = im1 471 := hK 471 (by decide)
    refine zz_iload_1 S dX8_run_7 (q := 8) rfl ?_
    refine zz_sipush S (v := 356) rfl dX8_run_8 (q := 11) rfl ?_
    refine zz_icmp_ge S dX8_run_11 (t := 32) (by decide) (q := 14) rfl (fun a1 => ?_) (fun a1 => ?_)
    -- then 32 else 14
    · exact absurd a1 (by rw [hx]; exact nI_ge (b := 356) (by omega) (by omega))
    · refine zz_aload_0 S dX8_run_14 (q := 15) rfl ?_
      refine zz_getR S fX8_13 rfl (Nat.le_of_ble_eq_true rfl) rfl rfl dX8_run_15 (q := 18) rfl ?_
      refine zz_iload_1 S dX8_run_18 (q := 19) rfl ?_
      refine zz_aload_0 S dX8_run_19 (q := 20) rfl ?_
      refine zz_getR S fX8_7 rfl (Nat.le_of_ble_eq_true rfl) rfl rfl dX8_run_20 (q := 23) rfl ?_
      refine zz_iload_1 S dX8_run_23 (q := 24) rfl ?_
      refine zz_iaN S (j := k) (Nat.le_of_ble_eq_true rfl) rfl (Nat.le_of_ble_eq_true rfl) hx (by omega) dX8_run_24 (q := 25) rfl ?_
      refine zz_iaS S (j := k) (Nat.le_of_ble_eq_true rfl) rfl (Nat.le_of_ble_eq_true rfl) hx (by omega) dX8_run_25 (q := 26) rfl ?_
      refine zz_iinc_1 S rfl dX8_run_26 (q := 29) rfl ?_
      refine zz_goto S dX8_run_29 (t := 7) (by decide) ?_
      -- at 7
      exact ih (k + 1) _ _ (by omega) (by rw [hx]; exact nI_1 k) (hK.u (by decide)) (by rw [zz_u_row, h2, mx_s (by rw [e1])])
set_option maxHeartbeats 4000000 in
theorem lo_run2 {n0 mcT msT : Nat} {isI : Bool} {Qf : Option Value → ZE → ZI → Prop} {w : Nat → ZL → List Value → Nat → ZE → ZI → Prop} {z len : Nat} {im0 : ZI} {tx : Nat → Int32} {R : Nat ⊕ (ZSt × Nat)} (S : zz_S G l RX8 cX8_run 4 10 n0 mcT msT isI (some .int) Qf w)
    (hQ : ∀ im' x, zC im0 im' → zRun im' (im0 471) x R → w 72 [some (.ref 470), some (.int x), none, none] [] z zE im') :
    ∀ (n k : Nat) (x : Int32) (T : ZTok) (im : ZI), zTx im T len → im 474 = tx → zTk tx len 0 T → len - T.1 ≤ n → im 470 14 = -1 → zC im0 im → (∃ nw nc, sI (im 471) nw nc) → (∀ j, 118 ≤ j → im 471 j = im0 471 j) → x = nI k → R = rk_runG tx len n (im 471) T k → w 48 [some (.ref 470), some (.int x), none, none] [] z zE im := by
  intro n
  induction n with
  | zero =>
    intro k x T im hT htx hk hn hf hC hI hfar hx hR
    have hi := hk.i
    have h0 : T.2.2 = 0 := hi.2.2.2.2.1.mpr (by omega)
    refine zz_aload_0 S dX8_run_48 (q := 49) rfl ?_
    refine zz_getI S fX8_214 rfl (Nat.le_of_ble_eq_true rfl) rfl dX8_run_49 (q := 52) rfl ?_
    refine zz_if_ge S dX8_run_52 (t := 72) (by decide) (q := 55) rfl (fun a1 => ?_) (fun a1 => ?_)
    -- then 72 else 55
    · exact absurd a1 (by rw [hf]; decide)
    · refine zz_aload_0 S dX8_run_55 (q := 56) rfl ?_
      refine zz_getI S fX8_211 rfl (Nat.le_of_ble_eq_true rfl) rfl dX8_run_56 (q := 59) rfl ?_
      refine zz_if_eq S dX8_run_59 (t := 72) (by decide) (q := 62) rfl (fun a2 => ?_) (fun a2 => ?_)
      -- then 72 else 62
      · exact hQ im x hC (by rw [hR]; exact ⟨hf, rfl, hx, hfar⟩)
      · exact absurd (by rw [hT.1.2.2, h0]; rfl) a2
  | succ n ih =>
    intro k x T im hT htx hk hn hf hC hI hfar hx hR
    have hi := hk.i
    rw [rk_runG] at hR
    have k0 : im 470 11 = 0 ↔ T.2.2 = 0 := by rw [hT.1.2.2]; exact nI_eq (a := T.2.2) (b := 0) (by omega) (by omega)
    refine zz_aload_0 S dX8_run_48 (q := 49) rfl ?_
    refine zz_getI S fX8_214 rfl (Nat.le_of_ble_eq_true rfl) rfl dX8_run_49 (q := 52) rfl ?_
    refine zz_if_ge S dX8_run_52 (t := 72) (by decide) (q := 55) rfl (fun a1 => ?_) (fun a1 => ?_)
    -- then 72 else 55
    · exact absurd a1 (by rw [hf]; decide)
    · refine zz_aload_0 S dX8_run_55 (q := 56) rfl ?_
      refine zz_getI S fX8_211 rfl (Nat.le_of_ble_eq_true rfl) rfl dX8_run_56 (q := 59) rfl ?_
      refine zz_if_eq S dX8_run_59 (t := 72) (by decide) (q := 62) rfl (fun a2 => ?_) (fun a2 => ?_)
      -- then 72 else 62
      · rw [if_pos (k0.mp a2)] at hR
        exact hQ im x hC (by rw [hR]; exact ⟨hf, rfl, hx, hfar⟩)
      · have hne : ¬ T.2.2 = 0 := fun e => a2 (k0.mpr e)
        rw [if_neg hne] at hR
        have hlt : T.1 < T.2.1 := hi.2.2.2.2.2 (by
          have := hi.2.2.2.2.1
          have h3 : T.1 ≠ len := fun e => hne (this.mpr e)
          omega)
        obtain ⟨nw, nc, hI⟩ := hI
        refine zz_iload_1 S dX8_run_62 (q := 63) rfl ?_
        refine zz_aload_0 S dX8_run_63 (q := 64) rfl ?_
        -- at 64: invokevirtual 250
        refine zz_virtI S yy_X8_command lX8_250 (ci := 8) (by decide) rfl (co_command len nw nc 0 T im hT (by rw [htx]; exact hk) hf hI) rfl (Nat.le_of_ble_eq_true rfl) (Nat.le_of_ble_eq_true rfl) rfl (Nat.le_of_ble_eq_true rfl) rfl dX8_run_64 (q := 67) rfl ?_
        rintro r im1 ⟨hC1, hr⟩
        rw [htx] at hr
        have hct := rk_cmd_t (s := im 471) hk
        have hcI := rk_cmd_I (tx := tx) (len := len) (T := T) hI
        generalize rk_cmd tx len (im 471) T = q at hr hct hcI hR
        cases q with
        | inl p =>
          obtain ⟨rfl, h14, h471⟩ := hr
          have hp : p ≤ 140 := Nat.le_trans hct hT.2.2.1
          refine zz_iadd S dX8_run_67 (q := 68) rfl ?_
          refine zz_istore_1 S rfl dX8_run_68 (q := 69) rfl ?_
          refine zz_goto S dX8_run_69 (t := 48) (by decide) ?_
          -- at 48
          refine zz_aload_0 S dX8_run_48 (q := 49) rfl ?_
          refine zz_getI S fX8_214 rfl (Nat.le_of_ble_eq_true rfl) rfl dX8_run_49 (q := 52) rfl ?_
          refine zz_if_ge S dX8_run_52 (t := 72) (by decide) (q := 55) rfl (fun a3 => ?_) (fun a3 => ?_)
          -- then 72 else 55
          · exact hQ im1 _ (hC.tr hC1) (by rw [hR]; exact ⟨h14, hp, by rw [h471]; exact hfar⟩)
          · exact absurd (by rw [h14]; exact nI_pos' (by omega)) a3
        | inr q =>
          obtain ⟨rfl, h14, h471, hT1⟩ := hr
          have hq := zTk.i hct
          refine zz_iadd S dX8_run_67 (q := 68) rfl ?_
          refine zz_istore_1 S rfl dX8_run_68 (q := 69) rfl ?_
          refine zz_goto S dX8_run_69 (t := 48) (by decide) ?_
          -- at 48
          exact ih (k + 1) _ q.2 im1 hT1 (by rw [hC1.1 474 (by decide)]; exact htx) (zTk.le hct (by omega)) (by omega) h14 (hC.tr hC1) (by rw [h471]; exact hcI.1) (fun j hj => by rw [h471, hcI.2 j hj]; exact hfar j hj) (by rw [hx]; exact nI_1 k) (by rw [h471]; exact hR)
set_option maxHeartbeats 4000000 in
theorem lo_run3 {n0 mcT msT : Nat} {isI : Bool} {Qf : Option Value → ZE → ZI → Prop} {w : Nat → ZL → List Value → Nat → ZE → ZI → Prop} {z : Nat} {im1 : ZI} {x : Int32} (S : zz_S G l RX8 cX8_run 4 10 n0 mcT msT isI (some .int) Qf w)
    (hQ : ∀ im' y u, zz_keep [471, 472] im1 im' → im' 471 = mx 356 (im1 472) (im1 471) → im' 472 = mx 356 (im1 471) (im1 472) → w 113 [some (.ref 470), some (.int x), some (.int y), u] [] z zE im') :
    ∀ (n k : Nat) (y : Int32) (u : Option Value) (im : ZI), k + n = 356 → y = nI k → zz_keep [471, 472] im1 im → im 471 = mx k (im1 472) (im1 471) → im 472 = mx k (im1 471) (im1 472) → w 74 [some (.ref 470), some (.int x), some (.int y), u] [] z zE im := by
  intro n
  induction n with
  | zero =>
    intro k y u im hk hy hK h1 h2
    have hk : k = 356 := by omega
    subst hk
    refine zz_iload_2 S dX8_run_74 (q := 75) rfl ?_
    refine zz_sipush S (v := 356) rfl dX8_run_75 (q := 78) rfl ?_
    refine zz_icmp_ge S dX8_run_78 (t := 113) (by decide) (q := 81) rfl (fun a1 => ?_) (fun a1 => ?_)
    -- then 113 else 81
    · exact hQ im y u hK h1 h2
    · exact absurd (by rw [hy]; decide) a1
  | succ n ih =>
    intro k y u im hk hy hK h1 h2
    refine zz_iload_2 S dX8_run_74 (q := 75) rfl ?_
    refine zz_sipush S (v := 356) rfl dX8_run_75 (q := 78) rfl ?_
    refine zz_icmp_ge S dX8_run_78 (t := 113) (by decide) (q := 81) rfl (fun a1 => ?_) (fun a1 => ?_)
    -- then 113 else 81
    · exact absurd a1 (by rw [hy]; exact nI_ge (b := 356) (by omega) (by omega))
    · refine zz_aload_0 S dX8_run_81 (q := 82) rfl ?_
      refine zz_getR S fX8_7 rfl (Nat.le_of_ble_eq_true rfl) rfl rfl dX8_run_82 (q := 85) rfl ?_
      refine zz_iload_2 S dX8_run_85 (q := 86) rfl ?_
      refine zz_iaN S (j := k) (Nat.le_of_ble_eq_true rfl) rfl (Nat.le_of_ble_eq_true rfl) hy (by omega) dX8_run_86 (q := 87) rfl ?_
      refine zz_istore_3 S rfl dX8_run_87 (q := 88) rfl ?_
      refine zz_aload_0 S dX8_run_88 (q := 89) rfl ?_
      refine zz_getR S fX8_7 rfl (Nat.le_of_ble_eq_true rfl) rfl rfl dX8_run_89 (q := 92) rfl ?_
      refine zz_iload_2 S dX8_run_92 (q := 93) rfl ?_
      refine zz_aload_0 S dX8_run_93 (q := 94) rfl ?_
      refine zz_getR S fX8_13 rfl (Nat.le_of_ble_eq_true rfl) rfl rfl dX8_run_94 (q := 97) rfl ?_
      refine zz_iload_2 S dX8_run_97 (q := 98) rfl ?_
      refine zz_iaN S (j := k) (Nat.le_of_ble_eq_true rfl) rfl (Nat.le_of_ble_eq_true rfl) hy (by omega) dX8_run_98 (q := 99) rfl ?_
      refine zz_iaS S (j := k) (Nat.le_of_ble_eq_true rfl) rfl (Nat.le_of_ble_eq_true rfl) hy (by omega) dX8_run_99 (q := 100) rfl ?_
      refine zz_aload_0 S dX8_run_100 (q := 101) rfl ?_
      refine zz_getR S fX8_13 rfl (Nat.le_of_ble_eq_true rfl) rfl rfl dX8_run_101 (q := 104) rfl ?_
      refine zz_iload_2 S dX8_run_104 (q := 105) rfl ?_
      refine zz_iload_3 S dX8_run_105 (q := 106) rfl ?_
      refine zz_iaS S (j := k) (Nat.le_of_ble_eq_true rfl) rfl (Nat.le_of_ble_eq_true rfl) hy (by omega) dX8_run_106 (q := 107) rfl ?_
      refine zz_iinc_2 S rfl dX8_run_107 (q := 110) rfl ?_
      refine zz_goto S dX8_run_110 (t := 74) (by decide) ?_
      -- at 74
      refine ih (k + 1) _ _ _ (by omega) (by rw [hy]; exact nI_1 k) ((hK.u (by decide)).u (by decide)) ?_ ?_
      · rw [zz_u_off _ _ _ _ (by decide), zz_u_row, h1, h2, mx_s (mx_n (by omega))]
      · rw [zz_u_row, zz_u_off _ _ _ _ (by decide), h1, h2, mx_s (mx_n (by omega))]
set_option maxHeartbeats 4000000 in
theorem lo_run4 {n0 mcT msT : Nat} {isI : Bool} {Qf : Option Value → ZE → ZI → Prop} {w : Nat → ZL → List Value → Nat → ZE → ZI → Prop} {z : Nat} {im1 : ZI} {x : Int32} {u : Option Value} (S : zz_S G l RX8 cX8_run 4 10 n0 mcT msT isI (some .int) Qf w)
    (hQ : ∀ im' y, zz_keep [471] im1 im' → im' 471 = mx 356 (im1 472) (im1 471) → w 160 [some (.ref 470), some (.int x), some (.int y), u] [] z zE im') :
    ∀ (n k : Nat) (y : Int32) (im : ZI), k + n = 356 → y = nI k → zz_keep [471] im1 im → im 471 = mx k (im1 472) (im1 471) → w 135 [some (.ref 470), some (.int x), some (.int y), u] [] z zE im := by
  intro n
  induction n with
  | zero =>
    intro k y im hk hy hK h1
    have hk : k = 356 := by omega
    subst hk
    refine zz_iload_2 S dX8_run_135 (q := 136) rfl ?_
    refine zz_sipush S (v := 356) rfl dX8_run_136 (q := 139) rfl ?_
    refine zz_icmp_ge S dX8_run_139 (t := 160) (by decide) (q := 142) rfl (fun a1 => ?_) (fun a1 => ?_)
    -- then 160 else 142
    · exact hQ im y hK h1
    · exact absurd (by rw [hy]; decide) a1
  | succ n ih =>
    intro k y im hk hy hK h1
    have e2 : im 472 = im1 472 := hK 472 (by decide)
    refine zz_iload_2 S dX8_run_135 (q := 136) rfl ?_
    refine zz_sipush S (v := 356) rfl dX8_run_136 (q := 139) rfl ?_
    refine zz_icmp_ge S dX8_run_139 (t := 160) (by decide) (q := 142) rfl (fun a1 => ?_) (fun a1 => ?_)
    -- then 160 else 142
    · exact absurd a1 (by rw [hy]; exact nI_ge (b := 356) (by omega) (by omega))
    · refine zz_aload_0 S dX8_run_142 (q := 143) rfl ?_
      refine zz_getR S fX8_7 rfl (Nat.le_of_ble_eq_true rfl) rfl rfl dX8_run_143 (q := 146) rfl ?_
      refine zz_iload_2 S dX8_run_146 (q := 147) rfl ?_
      refine zz_aload_0 S dX8_run_147 (q := 148) rfl ?_
      refine zz_getR S fX8_13 rfl (Nat.le_of_ble_eq_true rfl) rfl rfl dX8_run_148 (q := 151) rfl ?_
      refine zz_iload_2 S dX8_run_151 (q := 152) rfl ?_
      refine zz_iaN S (j := k) (Nat.le_of_ble_eq_true rfl) rfl (Nat.le_of_ble_eq_true rfl) hy (by omega) dX8_run_152 (q := 153) rfl ?_
      refine zz_iaS S (j := k) (Nat.le_of_ble_eq_true rfl) rfl (Nat.le_of_ble_eq_true rfl) hy (by omega) dX8_run_153 (q := 154) rfl ?_
      refine zz_iinc_2 S rfl dX8_run_154 (q := 157) rfl ?_
      refine zz_goto S dX8_run_157 (t := 135) (by decide) ?_
      -- at 135
      exact ih (k + 1) _ _ (by omega) (by rw [hy]; exact nI_1 k) (hK.u (by decide)) (by rw [zz_u_row, h1, mx_s (by rw [e2])])
set_option maxHeartbeats 8000000 in
theorem co_run (len n nw nc : Nat) (h : Nat → ZSt) (im : ZI) (hh : zm_h im n h) (hl : im 470 6 = nI len) (hln : len ≤ 140) (hc : tc (im 474) len) (hI : sI (im 471) nw nc) : zz_OI G l 10 mX8_run [.ref 470] zE im (fun r im' => r = (ot_run (im 474) (im 471) n h len).1 ∧ zPT im im' (ot_run (im 474) (im 471) n h len).2.1 (ot_run (im 474) (im 471) n h len).2.2.1 (ot_run (im 474) (im 471) n h len).2.2.2.1 (ot_run (im 474) (im 471) n h len).2.2.2.2 (im 474)) := by
  unfold ot_run
  generalize hRR : rk_runG (im 474) len 140 (im 471) (tk (im 474) len 0) 0 = R
  refine zz_intro (isI := false) (by decide) rfl (Nat.le_of_ble_eq_true rfl) (fun h => by cases h) (fun w S => ?_)
  refine zz_aload_0 S dX8_run_0 (q := 1) rfl ?_
  refine zz_iconst S (v := 0) rfl dX8_run_1 (q := 2) rfl ?_
  refine zz_putI S fX8_35 rfl rfl (Nat.le_of_ble_eq_true rfl) rfl dX8_run_2 (q := 5) rfl ?_
  refine zz_iconst S (v := 0) rfl dX8_run_5 (q := 6) rfl ?_
  refine zz_istore_1 S rfl dX8_run_6 (q := 7) rfl ?_
  -- at 7
  refine lo_run1 S (fun im2 x hk2 h472 => ?_) 356 0 0 (zz_u im 470 0 0) (by omega) rfl zz_keep.rf (mx_0 _ _).symm
  rw [zz_u_off _ _ _ _ (by decide), zz_u_off _ _ _ _ (by decide)] at h472
  have k2 : zz_keep [470, 472] im im2 := ((zz_keep.rf (ks := [470, 472])).u (j := 0) (v := 0) (by decide)).tr (hk2.le (by decide)) (fun _ q => q)
  have f2 : ∀ j, j ≠ 0 → im2 470 j = im 470 j := fun j hj => by rw [hk2 470 (by decide), zz_u_n _ _ (Or.inr hj)]
  refine zz_aload_0 S dX8_run_32 (q := 33) rfl ?_
  refine zz_iconst S (v := 0) rfl dX8_run_33 (q := 34) rfl ?_
  refine zz_putI S fX8_202 rfl rfl (Nat.le_of_ble_eq_true rfl) rfl dX8_run_34 (q := 37) rfl ?_
  refine zz_aload_0 S dX8_run_37 (q := 38) rfl ?_
  refine zz_iconst S (v := (-1)) rfl dX8_run_38 (q := 39) rfl ?_
  refine zz_putI S fX8_214 rfl rfl (Nat.le_of_ble_eq_true rfl) rfl dX8_run_39 (q := 42) rfl ?_
  refine zz_iconst S (v := 0) rfl dX8_run_42 (q := 43) rfl ?_
  refine zz_istore_1 S rfl dX8_run_43 (q := 44) rfl ?_
  refine zz_aload_0 S dX8_run_44 (q := 45) rfl ?_
  -- at 45: invokevirtual 227
  generalize him3 : zz_u (zz_u im2 470 13 0) 470 14 (-1) = im3
  have k3 : zz_keep [470, 472] im im3 := by rw [← him3]; exact (k2.u (by decide)).u (by decide)
  have f3 : ∀ j, j ≠ 0 → j ≠ 13 → j ≠ 14 → im3 470 j = im 470 j := fun j a b c => by rw [← him3, zz_u_n _ _ (Or.inr c), zz_u_n _ _ (Or.inr b)]; exact f2 j a
  have h13 : im3 470 13 = nI 0 := by rw [← him3, zz_u_n _ _ (Or.inr (by decide)), zz_u_e]; rfl
  have h14 : im3 470 14 = -1 := by rw [← him3, zz_u_e]
  have e472 : im3 472 = mx 356 (im 471) (im 472) := by rw [← him3, zz_u_off _ _ _ _ (by decide), zz_u_off _ _ _ _ (by decide)]; exact h472
  have e474 : im3 474 = im 474 := k3 474 (by decide)
  have e471 : im3 471 = im 471 := k3 471 (by decide)
  have h6 : im3 470 6 = nI len := by rw [f3 6 (by decide) (by decide) (by decide)]; exact hl
  refine zz_virtV S yy_X8_next lX8_227 (ci := 8) (by decide) rfl (co_next 0 len im3 h13 (Nat.zero_le _) h6 hln) rfl (Nat.le_of_ble_eq_true rfl) (Nat.le_of_ble_eq_true rfl) rfl (Nat.le_of_ble_eq_true rfl) rfl dX8_run_45 (q := 48) rfl ?_
  intro im4 hn4
  have k4 : zz_keep [470, 472] im im4 := k3.tr (hn4.2.1.le (by decide)) (fun _ q => q)
  have f4 : ∀ j, j ≠ 0 → j ≠ 11 → j ≠ 12 → j ≠ 13 → j ≠ 14 → im4 470 j = im 470 j := fun j a b c d e => by rw [hn4.2.2 j b c d]; exact f3 j a d e
  have h14b : im4 470 14 = -1 := by rw [hn4.2.2 14 (by decide) (by decide) (by decide)]; exact h14
  have e472b : im4 472 = mx 356 (im 471) (im 472) := by rw [hn4.2.1 472 (by decide)]; exact e472
  have e474b : im4 474 = im 474 := k4 474 (by decide)
  have e471b : im4 471 = im 471 := k4 471 (by decide)
  have hti := tk_in (im 474) (len := len) (p := 0) (Nat.zero_le _)
  rw [e474] at hn4
  have hT4 : zTx im4 (tk (im 474) len 0) len := ⟨hn4.1, by rw [f4 6 (by decide) (by decide) (by decide) (by decide) (by decide)]; exact hl, hln, ⟨hti.2.1, hti.2.2.1, hti.2.2.2.1⟩, by rw [e474b]; exact hc⟩
  clear him3
  refine lo_run2 (R := R) (tx := im 474) (len := len) (im0 := im4) S (fun im5 x hC5 hr => ?_) 140 0 0 (tk (im 474) len 0) im4 hT4 e474b (zTk.t (Nat.le_refl _) (Nat.zero_le _)) (by omega) h14b zC.rf ⟨nw, nc, by rw [e471b]; exact hI⟩ (fun _ _ => rfl) rfl (by rw [e471b]; exact hRR.symm)
  clear hRR
  rw [e471b] at hr
  have k5 : zz_keep [470, 471, 472, 475, 476, 477, 478] im im5 := (k4.le (by decide)).tr (hC5.1.le (by decide)) (fun _ q => q)
  have f5 : ∀ j, j ≠ 0 → j ≠ 11 → j ≠ 12 → j ≠ 13 → j ≠ 14 → im5 470 j = im 470 j := fun j a b c d e => by rw [hC5.2 j b c d e]; exact f4 j a b c d e
  have e472c : im5 472 = mx 356 (im 471) (im 472) := by rw [hC5.1 472 (by decide)]; exact e472b
  refine zz_iconst S (v := 0) rfl dX8_run_72 (q := 73) rfl ?_
  refine zz_istore_2 S rfl dX8_run_73 (q := 74) rfl ?_
  -- at 74
  refine lo_run3 (im1 := im5) S (fun im6 y u hk6 g1 g2 => ?_) 356 0 0 none im5 (by omega) rfl zz_keep.rf (mx_0 _ _).symm (mx_0 _ _).symm
  rw [e472c, mx_mx] at g1
  have far : ∀ j, 118 ≤ j → im5 471 j = im 471 j := by
    cases R with
    | inl p => exact hr.2.2
    | inr q => rw [hr.2.1]; exact hr.2.2.2
  have g1' : im6 471 = im 471 := by rw [g1]; exact mx_far (fun j hj => far j (by omega))
  have k6 : zz_keep [470, 471, 472, 475, 476, 477, 478] im im6 := k5.tr (hk6.le (by decide)) (fun _ q => q)
  have e470 : im6 470 = im5 470 := hk6 470 (by decide)
  have hh6 : zm_h im6 n h := ⟨hh.1, by rw [e470, f5 4 (by decide) (by decide) (by decide) (by decide) (by decide)]; exact hh.2.1, fun i k hi hk => by rw [k6 473 (by decide)]; exact hh.2.2 i k hi hk⟩
  refine zz_aload_0 S dX8_run_113 (q := 114) rfl ?_
  refine zz_getI S fX8_214 rfl (Nat.le_of_ble_eq_true rfl) rfl dX8_run_114 (q := 117) rfl ?_
  refine zz_if_lt S dX8_run_117 (t := 129) (by decide) (q := 120) rfl (fun b1 => ?_) (fun b1 => ?_)
  -- then 129 else 120
  · cases R with
    | inl p => exact absurd b1 (by rw [e470, hr.1]; exact nI_pos (by have := hr.2.1; omega))
    | inr q =>
      refine zz_aload_0 S dX8_run_129 (q := 130) rfl ?_
      -- at 130: invokevirtual 95
      refine zz_virtV S yy_X8_act lX8_95 (ci := 8) (by decide) rfl (co_act im6 n h hh6) rfl (Nat.le_of_ble_eq_true rfl) (Nat.le_of_ble_eq_true rfl) rfl (Nat.le_of_ble_eq_true rfl) rfl dX8_run_130 (q := 133) rfl ?_
      rintro im7 ⟨a1, a2, a3⟩
      rw [g1'] at a1
      refine zz_iconst S (v := 0) rfl dX8_run_133 (q := 134) rfl ?_
      refine zz_istore_2 S rfl dX8_run_134 (q := 135) rfl ?_
      -- at 135
      refine lo_run4 (im1 := im7) S (fun im8 y hk8 g3 => ?_) 356 0 0 im7 (by omega) rfl zz_keep.rf (mx_0 _ _).symm
      refine zz_aload_0 S dX8_run_160 (q := 161) rfl ?_
      refine zz_iconst S (v := 0) rfl dX8_run_161 (q := 162) rfl ?_
      refine zz_putI S fX8_199 rfl rfl (Nat.le_of_ble_eq_true rfl) rfl dX8_run_162 (q := 165) rfl ?_
      refine zz_iload_1 S dX8_run_165 (q := 166) rfl ?_
      -- at 166: ireturn 
      refine zz_iret S dX8_run_166 ⟨rfl, _, rfl, rfl, ?_⟩
      refine ⟨hr.2.2.1, ?_, ?_, ?_, ?_, ?_⟩
      · rw [zz_u_off _ _ _ _ (by decide), g3, a3 472 (by decide), g2, mx_mx, a3 471 (by decide), g1', hr.2.1]
        exact mx_far (fun j hj => (hr.2.2.2 j (by omega)).symm)
      · obtain ⟨c1, c2, c3⟩ := a1
        refine ⟨c1, ?_, fun i k hi hk => ?_⟩
        · rw [zz_u_n _ _ (Or.inr (by decide)), hk8 470 (by decide)]
          exact c2
        · rw [zz_u_off _ _ _ _ (by decide), hk8 473 (by decide)]
          exact c3 i k hi hk
      · rw [zz_u_e]
        rfl
      · rw [zz_u_off _ _ _ _ (by decide), hk8 474 (by decide), a3 474 (by decide)]
        exact k6 474 (by decide)
      · intro k hk
        rw [zz_u_off _ _ _ _ (by omega), zP_lt hk8 (by decide) k hk, zP_lt a3 (by decide) k hk]
        exact zP_lt k6 (by decide) k hk
  · cases R with
    | inl p =>
      refine zz_sipush S (v := (-1000)) rfl dX8_run_120 (q := 123) rfl ?_
      refine zz_aload_0 S dX8_run_123 (q := 124) rfl ?_
      refine zz_getI S fX8_214 rfl (Nat.le_of_ble_eq_true rfl) rfl dX8_run_124 (q := 127) rfl ?_
      refine zz_isub S dX8_run_127 (q := 128) rfl ?_
      -- at 128: ireturn 
      refine zz_iret S dX8_run_128 ⟨rfl, _, rfl, rfl, ?_⟩
      refine ⟨?_, g1', hh6, ?_, k6 474 (by decide), fun k hk => zP_lt k6 (by decide) k hk⟩
      · show -1000 - im6 470 14 = -1000 - nI p
        rw [e470, hr.1]
      · rw [e470, f5 6 (by decide) (by decide) (by decide) (by decide) (by decide)]
        exact hl
    | inr q => exact absurd (by rw [e470, hr.1]; decide) b1
end ZPRG
