/-! THE REFERENCE: dials, as one looks at them -/
def op_mtG (s : ZSt) (nc : Nat) : Nat → Int32 → (Nat → Int32) → Int32 × (Nat → Int32)
  | 0, m, st => (m, st)
  | n + 1, m, st => if (op_ml s nc st).1 > 0 then op_mtG s nc n (m + 1) (op_ml s nc st).2 else (m, (op_ml s nc st).2)
def op_lfG (st : Nat → Int32) : Nat → Nat → Int32 → Int32
  | 0, _, b => b
  | n + 1, c, b => op_lfG st n (c + 1) (if b ≠ 0 then 1 else if st c ≠ 1 then 0 else 1)
def ol_melts (s : ZSt) (nc : Nat) : Int32 := if op_lfG (op_mtG s nc 11 0 (op_st s)).2 nc 0 0 = 0 then (op_mtG s nc 11 0 (op_st s)).1 else -100009
/-- how many are accepted -/
def op_ones (st : Nat → Int32) : Nat → Nat → Nat
  | 0, _ => 0
  | n + 1, c => op_ones st n (c + 1) + (if st c = 1 then 1 else 0)
theorem op_ones_u (st : Nat → Int32) (v : Int32) : ∀ (n c k : Nat), k < c → op_ones (upd st k v) n c = op_ones st n c := by
  intro n
  induction n with
  | zero => intro c k _; rfl
  | succ n ih =>
    intro c k h
    rw [op_ones, op_ones, ih (c + 1) k (by omega), u_ne _ _ (by omega)]
theorem op_ml_ones (wt : Nat → Int32) (lim : Int32) : ∀ (n c : Nat) (sm m : Int32) (st : Nat → Int32), ∃ k, (op_mlG wt lim n c sm m st).1 = m + nI k ∧ k ≤ n ∧ op_ones (op_mlG wt lim n c sm m st).2 n c + k = op_ones st n c := by
  intro n
  induction n with
  | zero => intro c sm m st; exact ⟨0, by rw [nI_0, Int32.add_zero]; rfl, Nat.le_refl _, rfl⟩
  | succ n ih =>
    intro c sm m st
    rw [op_mlG, op_ones]
    split
    · rename_i h
      obtain ⟨k, e1, e2, e3⟩ := ih (c + 1) (sm + wt c) (m + 1) (upd st c 2)
      obtain ⟨-, -, e4⟩ := op_mlG_eq wt lim n (c + 1) (sm + wt c) (m + 1) (upd st c 2) (upd st c 2) (fun _ _ _ => rfl)
      refine ⟨k + 1, ?_, by omega, ?_⟩
      · rw [e1, Int32.add_assoc, Int32.add_comm 1, nI_1]
      · rw [op_ones_u _ _ _ _ _ (show c < c + 1 by omega)] at e3
        rw [op_ones, e4 c (by omega), u_eq, if_neg (by decide), if_pos h.1]
        omega
    · obtain ⟨k, e1, e2, e3⟩ := ih (c + 1) sm m st
      obtain ⟨-, -, e4⟩ := op_mlG_eq wt lim n (c + 1) sm m st st (fun _ _ _ => rfl)
      refine ⟨k, e1, by omega, ?_⟩
      rw [op_ones, e4 c (by omega)]
      omega
theorem op_ones_le (st : Nat → Int32) : ∀ (n c : Nat), op_ones st n c ≤ n := by
  intro n
  induction n with
  | zero => intro c; exact Nat.le_refl _
  | succ n ih =>
    intro c
    rw [op_ones]
    have := ih (c + 1)
    split <;> omega
section ZLK3
variable {G : ZG} {l : Launch}
theorem co_offset (x t : Int32) (im : ZI) (nw nc : Nat) (hI : sI (im 471) nw nc) : zz_OI G l 6 mX8_offset [.ref 470, .int x, .int t] zE im (fun r im' => zLk im im' r (ol_off (im 471) x t)) := by
  have hn10 := hI.2.2.2.1
  have bad : ¬ ((x ≥ 0 ∧ x ≤ im 471 1 - 1) ∧ t ≥ -360 ∧ t ≤ 360) → zLk im (zz_u im 470 0 0) (-100001) (ol_off (im 471) x t) := fun q => ⟨by rw [ol_off, if_neg q], zPre.t im⟩
  refine zz_intro (isI := false) (by decide) rfl (Nat.le_of_ble_eq_true rfl) (fun h => by cases h) (fun w S => ?_)
  refine zz_aload_0 S dX8_offset_0 (q := 1) rfl ?_
  refine zz_iconst S (v := 0) rfl dX8_offset_1 (q := 2) rfl ?_
  refine zz_putI S fX8_35 rfl rfl (Nat.le_of_ble_eq_true rfl) rfl dX8_offset_2 (q := 5) rfl ?_
  refine zz_aload_0 S dX8_offset_5 (q := 6) rfl ?_
  refine zz_iload_1 S dX8_offset_6 (q := 7) rfl ?_
  -- at 7: invokevirtual 162
  refine zz_virtP S yy_X8_isCommission lX8_162 (ci := 8) (by decide) rfl (co_isCommission x (zz_u im 470 0 0)) rfl (Nat.le_of_ble_eq_true rfl) (Nat.le_of_ble_eq_true rfl) rfl (Nat.le_of_ble_eq_true rfl) rfl dX8_offset_7 (q := 10) rfl ?_
  rw [(zPre.t im).s]
  refine zz_if_eq S dX8_offset_10 (t := 26) (by decide) (q := 13) rfl (fun h1 => ?_) (fun h1 => ?_)
  -- then 26 else 13
  · refine zz_ldc S (v := (-100001)) kX8_94 dX8_offset_26 (q := 28) rfl ?_
    refine zz_iret S dX8_offset_28 ⟨rfl, _, rfl, rfl, ?_⟩
    exact bad (fun q => zs_b1.mp h1 q.1)
  · refine zz_iload_2 S dX8_offset_13 (q := 14) rfl ?_
    refine zz_sipush S (v := (-360)) rfl dX8_offset_14 (q := 17) rfl ?_
    refine zz_sipush S (v := 360) rfl dX8_offset_17 (q := 20) rfl ?_
    -- at 20: invokestatic 90
    refine zz_statP S yy_X8_in lX8_90 (co_in G l t (-360) 360 zE (zz_u im 470 0 0)) rfl (Nat.le_of_ble_eq_true rfl) (Nat.le_of_ble_eq_true rfl) rfl dX8_offset_20 (q := 23) rfl ?_
    refine zz_if_ne S dX8_offset_23 (t := 29) (by decide) (q := 26) rfl (fun h2 => ?_) (fun h2 => ?_)
    -- then 29 else 26
    · have hp1 := zs_ne0 h1
      have hp2 := zs_ne0 h2
      have hp3 : x ≥ 0 ∧ x ≤ nI nc - 1 := by rw [← hI.2.2.1]; exact hp1
      obtain ⟨k, hk, ek⟩ := zs_within (n := nc) (by omega) hp3
      have ec : x.toNatClampNeg = k := by rw [ek]; exact nI_clamp (by omega)
      have good : ol_off (im 471) x t = (if sp_de (im 471) k = -100009 then -100002 else sp_dial (im 471) k (t + 360).toNatClampNeg) := by rw [ol_off, if_pos ⟨hp1, hp2⟩, ec]
      have ht1 : -360 ≤ t.toInt := Int32.le_iff_toInt_le.mp hp2.1
      have ht2 : t.toInt ≤ 360 := Int32.le_iff_toInt_le.mp hp2.2
      have hti : t + 360 = nI (t.toInt + 360).toNat := by
        apply Int32.toInt_inj.mp
        rw [Int32.toInt_add, nI_toInt (by omega), show ((360 : Int32)).toInt = 360 from rfl, Int.bmod_eq_of_le (by omega) (by omega)]
        omega
      have hcl : (t + 360).toNatClampNeg = (t.toInt + 360).toNat := by rw [hti]; exact nI_clamp (by omega)
      rw [hcl] at good
      refine zz_aload_0 S dX8_offset_29 (q := 30) rfl ?_
      refine zz_iload_1 S dX8_offset_30 (q := 31) rfl ?_
      -- at 31: invokevirtual 139
      refine zz_virtI S yy_X8_takeDial lX8_139 (ci := 8) (by decide) rfl (co_takeDial x k nw nc (zz_u im 470 0 0) ek hI hk) rfl (Nat.le_of_ble_eq_true rfl) (Nat.le_of_ble_eq_true rfl) rfl (Nat.le_of_ble_eq_true rfl) rfl dX8_offset_31 (q := 34) rfl ?_
      rintro r im1 ⟨hkeep, hq⟩
      have hp : zPre im im1 := (zPre.t im).k (hkeep.le (by decide))
      refine zz_if_ne S dX8_offset_34 (t := 40) (by decide) (q := 37) rfl (fun h3 => ?_) (fun h3 => ?_)
      -- then 40 else 37
      · rcases hq with ⟨-, h4⟩ | ⟨hn, -, hd⟩
        · exact absurd h4 h3
        · have hn' : sp_de (im 471) k ≠ -100009 := hn
          refine zz_aload_0 S dX8_offset_40 (q := 41) rfl ?_
          refine zz_iload_2 S dX8_offset_41 (q := 42) rfl ?_
          -- at 42: invokevirtual 73
          refine zz_virtP S yy_X8_has lX8_73 (ci := 8) (by decide) rfl (co_has t (t.toInt + 360).toNat (sp_dial (im 471) k) im1 hti (by omega) hd) rfl (Nat.le_of_ble_eq_true rfl) (Nat.le_of_ble_eq_true rfl) rfl (Nat.le_of_ble_eq_true rfl) rfl dX8_offset_42 (q := 45) rfl ?_
          refine zz_if_eq S dX8_offset_45 (t := 56) (by decide) (q := 48) rfl (fun h5 => ?_) (fun h5 => ?_)
          -- then 56 else 48
          · refine zz_ldc S (v := (-100009)) kX8_83 dX8_offset_56 (q := 58) rfl ?_
            -- at 58: ireturn 
            refine zz_iret S dX8_offset_58 ⟨rfl, _, rfl, rfl, ?_⟩
            exact ⟨by rw [good, if_neg hn', zs_b0.mp h5], hp⟩
          · refine zz_aload_0 S dX8_offset_48 (q := 49) rfl ?_
            refine zz_iload_2 S dX8_offset_49 (q := 50) rfl ?_
            -- at 50: invokevirtual 77
            refine zz_virtP S yy_X8_off lX8_77 (ci := 8) (by decide) rfl (co_off t (t.toInt + 360).toNat (sp_dial (im 471) k) im1 hti (by omega) hd (fun e => h5 (zs_b0.mpr e))) rfl (Nat.le_of_ble_eq_true rfl) (Nat.le_of_ble_eq_true rfl) rfl (Nat.le_of_ble_eq_true rfl) rfl dX8_offset_50 (q := 53) rfl ?_
            refine zz_goto S dX8_offset_53 (t := 58) (by decide) ?_
            -- at 58: ireturn 
            refine zz_iret S dX8_offset_58 ⟨rfl, _, rfl, rfl, ?_⟩
            exact ⟨by rw [good, if_neg hn'], hp⟩
      · rcases hq with ⟨hn, -⟩ | ⟨-, h4, -⟩
        · have hn' : sp_de (im 471) k = -100009 := hn
          refine zz_ldc S (v := (-100002)) kX8_165 dX8_offset_37 (q := 39) rfl ?_
          -- at 39: ireturn 
          refine zz_iret S dX8_offset_39 ⟨rfl, _, rfl, rfl, ?_⟩
          exact ⟨by rw [good, if_pos hn'], hp⟩
        · exact absurd (h3.symm.trans h4) (by decide)
    · refine zz_ldc S (v := (-100001)) kX8_94 dX8_offset_26 (q := 28) rfl ?_
      refine zz_iret S dX8_offset_28 ⟨rfl, _, rfl, rfl, ?_⟩
      exact bad (fun q => zs_b1.mp h2 q.2)
set_option maxHeartbeats 4000000 in
theorem lo_lines {n0 mcT msT : Nat} {isI : Bool} {Qf : Option Value → ZE → ZI → Prop} {w : Nat → ZL → List Value → Nat → ZE → ZI → Prop} {z : Nat} {x0 v : Int32} {im : ZI} {c : Nat → Int32} (S : zz_S G l RX8 cX8_lines 6 6 n0 mcT msT isI (some .int) Qf w)
    (hc : zm_dial im c) (hQ : Qf (some (.int (if v ≠ 0 then (if v ≠ 1 then (zs_fl c).2 else (zs_fl c).1) else zs_hl c))) zE im) :
    ∀ (n k : Nat) (x f t : Int32), k + n = 13 → x = zs_t (60 * k) → zs_fl c = zs_flG c n k f t → w 48 [some (.ref 470), some (.int x0), some (.int v), some (.int f), some (.int t), some (.int x)] [] z zE im := by
  intro n
  induction n with
  | zero =>
    intro k x f t hk hx hF
    have hk : k = 13 := by omega
    subst hk
    have hx1 := zs_t_i (i := 60 * 13) (by omega)
    rw [hF] at hQ
    refine zz_iload_5 S dX8_lines_48 (q := 50) rfl ?_
    refine zz_sipush S (v := 360) rfl dX8_lines_50 (q := 53) rfl ?_
    refine zz_icmp_gt S dX8_lines_53 (t := 102) (by decide) (q := 56) rfl (fun a1 => ?_) (fun a1 => ?_)
    -- then 102 else 56
    · refine zz_iload_2 S dX8_lines_102 (q := 103) rfl ?_
      refine zz_if_ne S dX8_lines_103 (t := 113) (by decide) (q := 106) rfl (fun b1 => ?_) (fun b1 => ?_)
      · refine zz_iload_2 S dX8_lines_113 (q := 114) rfl ?_
        refine zz_iconst S (v := 1) rfl dX8_lines_114 (q := 115) rfl ?_
        refine zz_icmp_ne S dX8_lines_115 (t := 122) (by decide) (q := 118) rfl (fun b2 => ?_) (fun b2 => ?_)
        · refine zz_iload_4 S dX8_lines_122 (q := 124) rfl ?_
          refine zz_iret S dX8_lines_124 ?_
          first | (rw [if_pos b1, if_pos b2] at hQ; exact hQ) | (rw [if_pos b1, if_neg (fun q => q b2)] at hQ; exact hQ) | (rw [if_neg (fun q => q b1)] at hQ; exact hQ)
        · refine zz_iload_3 S dX8_lines_118 (q := 119) rfl ?_
          refine zz_goto S dX8_lines_119 (t := 124) (by decide) ?_
          refine zz_iret S dX8_lines_124 ?_
          first | (rw [if_pos b1, if_pos b2] at hQ; exact hQ) | (rw [if_pos b1, if_neg (fun q => q b2)] at hQ; exact hQ) | (rw [if_neg (fun q => q b1)] at hQ; exact hQ)
      · refine zz_aload_0 S dX8_lines_106 (q := 107) rfl ?_
        refine zz_virtP S yy_X8_hourLines lX8_142 (ci := 8) (by decide) rfl (co_hourLines c im hc) rfl (Nat.le_of_ble_eq_true rfl) (Nat.le_of_ble_eq_true rfl) rfl (Nat.le_of_ble_eq_true rfl) rfl dX8_lines_107 (q := 110) rfl ?_
        refine zz_goto S dX8_lines_110 (t := 124) (by decide) ?_
        refine zz_iret S dX8_lines_124 ?_
        first | (rw [if_pos b1, if_pos b2] at hQ; exact hQ) | (rw [if_pos b1, if_neg (fun q => q b2)] at hQ; exact hQ) | (rw [if_neg (fun q => q b1)] at hQ; exact hQ)
    · exact absurd (by rw [hx, gt_iff_lt, Int32.lt_iff_toInt_lt, hx1]; decide) a1
  | succ n ih =>
    intro k x f t hk hx hF
    have hx1 := zs_t_i (i := 60 * k) (by omega)
    have i1 : x + 360 = nI (60 * k) := by rw [hx]; exact zs_t_ix _
    have step : ∀ f' t', f' = (if c (60 * k) ≠ -100009 ∧ f = -100009 then zs_t (60 * k) else f) → t' = (if c (60 * k) ≠ -100009 then zs_t (60 * k) else t) → w 96 [some (.ref 470), some (.int x0), some (.int v), some (.int f'), some (.int t'), some (.int x)] [] z zE im := fun f' t' hf ht => by
      refine zz_iinc_5 S rfl dX8_lines_96 (q := 99) rfl ?_
      refine zz_goto S dX8_lines_99 (t := 48) (by decide) ?_
      -- at 48
      exact ih (k + 1) _ _ _ (by omega) (by rw [hx]; exact zs_t_60 k) (by rw [hF, zs_flG, hf, ht])
    refine zz_iload_5 S dX8_lines_48 (q := 50) rfl ?_
    refine zz_sipush S (v := 360) rfl dX8_lines_50 (q := 53) rfl ?_
    refine zz_icmp_gt S dX8_lines_53 (t := 102) (by decide) (q := 56) rfl (fun a1 => ?_) (fun a1 => ?_)
    -- then 102 else 56
    · exact absurd a1 (by rw [hx, gt_iff_lt, Int32.lt_iff_toInt_lt, hx1]; show ¬ (360 : Int) < _; omega)
    · refine zz_aload_0 S dX8_lines_56 (q := 57) rfl ?_
      refine zz_iload_5 S dX8_lines_57 (q := 59) rfl ?_
      -- at 59: invokevirtual 73
      refine zz_virtP S yy_X8_has lX8_73 (ci := 8) (by decide) rfl (co_has x (60 * k) c im i1 (by omega) hc) rfl (Nat.le_of_ble_eq_true rfl) (Nat.le_of_ble_eq_true rfl) rfl (Nat.le_of_ble_eq_true rfl) rfl dX8_lines_59 (q := 62) rfl ?_
      refine zz_if_eq S dX8_lines_62 (t := 76) (by decide) (q := 65) rfl (fun b1 => ?_) (fun b1 => ?_)
      -- then 76 else 65
      · have e1 := zs_b0.mp b1
        refine zz_iload_3 S dX8_lines_76 (q := 77) rfl ?_
        refine zz_istore_3 S rfl dX8_lines_77 (q := 78) rfl ?_
        refine zz_aload_0 S dX8_lines_78 (q := 79) rfl ?_
        refine zz_iload_5 S dX8_lines_79 (q := 81) rfl ?_
        -- at 81: invokevirtual 73
        refine zz_virtP S yy_X8_has lX8_73 (ci := 8) (by decide) rfl (co_has x (60 * k) c im i1 (by omega) hc) rfl (Nat.le_of_ble_eq_true rfl) (Nat.le_of_ble_eq_true rfl) rfl (Nat.le_of_ble_eq_true rfl) rfl dX8_lines_81 (q := 84) rfl ?_
        refine zz_if_eq S dX8_lines_84 (t := 92) (by decide) (q := 87) rfl (fun b2 => ?_) (fun b2 => ?_)
        -- then 92 else 87
        · refine zz_iload_4 S dX8_lines_92 (q := 94) rfl ?_
          refine zz_istore_4 S rfl dX8_lines_94 (q := 96) rfl ?_
          -- at 96
          exact step _ _ (by rw [if_neg (fun q => q.1 e1)]) (by rw [if_neg (fun q => q e1)])
        · exact absurd b1 b2
      · have e1 : c (60 * k) ≠ -100009 := fun e => b1 (zs_b0.mpr e)
        refine zz_iload_3 S dX8_lines_65 (q := 66) rfl ?_
        refine zz_ldc S (v := (-100009)) kX8_83 dX8_lines_66 (q := 68) rfl ?_
        refine zz_icmp_ne S dX8_lines_68 (t := 76) (by decide) (q := 71) rfl (fun b2 => ?_) (fun b2 => ?_)
        -- then 76 else 71
        · refine zz_iload_3 S dX8_lines_76 (q := 77) rfl ?_
          refine zz_istore_3 S rfl dX8_lines_77 (q := 78) rfl ?_
          refine zz_aload_0 S dX8_lines_78 (q := 79) rfl ?_
          refine zz_iload_5 S dX8_lines_79 (q := 81) rfl ?_
          -- at 81: invokevirtual 73
          refine zz_virtP S yy_X8_has lX8_73 (ci := 8) (by decide) rfl (co_has x (60 * k) c im i1 (by omega) hc) rfl (Nat.le_of_ble_eq_true rfl) (Nat.le_of_ble_eq_true rfl) rfl (Nat.le_of_ble_eq_true rfl) rfl dX8_lines_81 (q := 84) rfl ?_
          refine zz_if_eq S dX8_lines_84 (t := 92) (by decide) (q := 87) rfl (fun b3 => ?_) (fun b3 => ?_)
          -- then 92 else 87
          · exact absurd b3 b1
          · refine zz_iload_5 S dX8_lines_87 (q := 89) rfl ?_
            refine zz_goto S dX8_lines_89 (t := 94) (by decide) ?_
            refine zz_istore_4 S rfl dX8_lines_94 (q := 96) rfl ?_
            -- at 96
            exact step _ _ (by rw [if_neg (fun q => b2 q.2)]) (by rw [if_pos e1, hx])
        · refine zz_iload_5 S dX8_lines_71 (q := 73) rfl ?_
          refine zz_goto S dX8_lines_73 (t := 77) (by decide) ?_
          refine zz_istore_3 S rfl dX8_lines_77 (q := 78) rfl ?_
          refine zz_aload_0 S dX8_lines_78 (q := 79) rfl ?_
          refine zz_iload_5 S dX8_lines_79 (q := 81) rfl ?_
          -- at 81: invokevirtual 73
          refine zz_virtP S yy_X8_has lX8_73 (ci := 8) (by decide) rfl (co_has x (60 * k) c im i1 (by omega) hc) rfl (Nat.le_of_ble_eq_true rfl) (Nat.le_of_ble_eq_true rfl) rfl (Nat.le_of_ble_eq_true rfl) rfl dX8_lines_81 (q := 84) rfl ?_
          refine zz_if_eq S dX8_lines_84 (t := 92) (by decide) (q := 87) rfl (fun b3 => ?_) (fun b3 => ?_)
          -- then 92 else 87
          · exact absurd b3 b1
          · refine zz_iload_5 S dX8_lines_87 (q := 89) rfl ?_
            refine zz_goto S dX8_lines_89 (t := 94) (by decide) ?_
            refine zz_istore_4 S rfl dX8_lines_94 (q := 96) rfl ?_
            -- at 96
            exact step _ _ (by rw [if_pos ⟨e1, b2⟩, hx]) (by rw [if_pos e1, hx])
theorem co_lines (x v : Int32) (im : ZI) (nw nc : Nat) (hI : sI (im 471) nw nc) : zz_OI G l 6 mX8_lines [.ref 470, .int x, .int v] zE im (fun r im' => zLk im im' r (ol_lines (im 471) x v)) := by
  have hn10 := hI.2.2.2.1
  have bad : ¬ ((x ≥ 0 ∧ x ≤ im 471 1 - 1) ∧ v ≥ 0 ∧ v ≤ 2) → zLk im (zz_u im 470 0 0) (-100001) (ol_lines (im 471) x v) := fun q => ⟨by rw [ol_lines, if_neg q], zPre.t im⟩
  refine zz_intro (isI := false) (by decide) rfl (Nat.le_of_ble_eq_true rfl) (fun h => by cases h) (fun w S => ?_)
  refine zz_aload_0 S dX8_lines_0 (q := 1) rfl ?_
  refine zz_iconst S (v := 0) rfl dX8_lines_1 (q := 2) rfl ?_
  refine zz_putI S fX8_35 rfl rfl (Nat.le_of_ble_eq_true rfl) rfl dX8_lines_2 (q := 5) rfl ?_
  refine zz_aload_0 S dX8_lines_5 (q := 6) rfl ?_
  refine zz_iload_1 S dX8_lines_6 (q := 7) rfl ?_
  -- at 7: invokevirtual 162
  refine zz_virtP S yy_X8_isCommission lX8_162 (ci := 8) (by decide) rfl (co_isCommission x (zz_u im 470 0 0)) rfl (Nat.le_of_ble_eq_true rfl) (Nat.le_of_ble_eq_true rfl) rfl (Nat.le_of_ble_eq_true rfl) rfl dX8_lines_7 (q := 10) rfl ?_
  rw [(zPre.t im).s]
  refine zz_if_eq S dX8_lines_10 (t := 22) (by decide) (q := 13) rfl (fun h1 => ?_) (fun h1 => ?_)
  -- then 22 else 13
  · refine zz_ldc S (v := (-100001)) kX8_94 dX8_lines_22 (q := 24) rfl ?_
    refine zz_iret S dX8_lines_24 ⟨rfl, _, rfl, rfl, ?_⟩
    exact bad (fun q => zs_b1.mp h1 q.1)
  · refine zz_iload_2 S dX8_lines_13 (q := 14) rfl ?_
    refine zz_iconst S (v := 0) rfl dX8_lines_14 (q := 15) rfl ?_
    refine zz_iconst S (v := 2) rfl dX8_lines_15 (q := 16) rfl ?_
    -- at 16: invokestatic 90
    refine zz_statP S yy_X8_in lX8_90 (co_in G l v 0 2 zE (zz_u im 470 0 0)) rfl (Nat.le_of_ble_eq_true rfl) (Nat.le_of_ble_eq_true rfl) rfl dX8_lines_16 (q := 19) rfl ?_
    refine zz_if_ne S dX8_lines_19 (t := 25) (by decide) (q := 22) rfl (fun h2 => ?_) (fun h2 => ?_)
    -- then 25 else 22
    · have hp1 := zs_ne0 h1
      have hp2 := zs_ne0 h2
      have hp3 : x ≥ 0 ∧ x ≤ nI nc - 1 := by rw [← hI.2.2.1]; exact hp1
      obtain ⟨k, hk, ek⟩ := zs_within (n := nc) (by omega) hp3
      have ec : x.toNatClampNeg = k := by rw [ek]; exact nI_clamp (by omega)
      have good : ol_lines (im 471) x v = (if sp_de (im 471) k = -100009 then -100002 else if v ≠ 0 then (if v ≠ 1 then (zs_fl (sp_dial (im 471) k)).2 else (zs_fl (sp_dial (im 471) k)).1) else zs_hl (sp_dial (im 471) k)) := by rw [ol_lines, if_pos ⟨hp1, hp2⟩, ec]
      refine zz_aload_0 S dX8_lines_25 (q := 26) rfl ?_
      refine zz_iload_1 S dX8_lines_26 (q := 27) rfl ?_
      -- at 27: invokevirtual 139
      refine zz_virtI S yy_X8_takeDial lX8_139 (ci := 8) (by decide) rfl (co_takeDial x k nw nc (zz_u im 470 0 0) ek hI hk) rfl (Nat.le_of_ble_eq_true rfl) (Nat.le_of_ble_eq_true rfl) rfl (Nat.le_of_ble_eq_true rfl) rfl dX8_lines_27 (q := 30) rfl ?_
      rintro r im1 ⟨hkeep, hq⟩
      have hp : zPre im im1 := (zPre.t im).k (hkeep.le (by decide))
      refine zz_if_ne S dX8_lines_30 (t := 36) (by decide) (q := 33) rfl (fun h3 => ?_) (fun h3 => ?_)
      -- then 36 else 33
      · rcases hq with ⟨-, h4⟩ | ⟨hn, -, hd⟩
        · exact absurd h4 h3
        · have hn' : sp_de (im 471) k ≠ -100009 := hn
          refine zz_ldc S (v := (-100009)) kX8_83 dX8_lines_36 (q := 38) rfl ?_
          refine zz_istore_3 S rfl dX8_lines_38 (q := 39) rfl ?_
          refine zz_ldc S (v := (-100009)) kX8_83 dX8_lines_39 (q := 41) rfl ?_
          refine zz_istore_4 S rfl dX8_lines_41 (q := 43) rfl ?_
          refine zz_sipush S (v := (-360)) rfl dX8_lines_43 (q := 46) rfl ?_
          refine zz_istore_5 S rfl dX8_lines_46 (q := 48) rfl ?_
          -- at 48
          exact lo_lines S hd ⟨rfl, _, rfl, rfl, by rw [good, if_neg hn']; rfl, hp⟩ 13 0 _ _ _ rfl rfl rfl
      · rcases hq with ⟨hn, -⟩ | ⟨-, h4, -⟩
        · have hn' : sp_de (im 471) k = -100009 := hn
          refine zz_ldc S (v := (-100002)) kX8_165 dX8_lines_33 (q := 35) rfl ?_
          -- at 35: ireturn 
          refine zz_iret S dX8_lines_35 ⟨rfl, _, rfl, rfl, ?_⟩
          exact ⟨by rw [good, if_pos hn'], hp⟩
        · exact absurd (h3.symm.trans h4) (by decide)
    · refine zz_ldc S (v := (-100001)) kX8_94 dX8_lines_22 (q := 24) rfl ?_
      refine zz_iret S dX8_lines_24 ⟨rfl, _, rfl, rfl, ?_⟩
      exact bad (fun q => zs_b1.mp h2 q.2)
theorem co_read (x o b mo : Int32) (im : ZI) (nw nc : Nat) (hI : sI (im 471) nw nc) : zz_OI G l 6 mX8_read [.ref 470, .int x, .int o, .int b, .int mo] zE im (fun r im' => zLk im im' r (ol_read (im 471) x o b mo)) := by
  have hn10 := hI.2.2.2.1
  have bad : ¬ ((x ≥ 0 ∧ x ≤ im 471 1 - 1) ∧ (o ≥ -3000 ∧ o ≤ 3000) ∧ (b ≥ 0 ∧ b ≤ 1) ∧ mo ≥ -1 ∧ mo ≤ 11) → zLk im (zz_u im 470 0 0) (-100001) (ol_read (im 471) x o b mo) := fun q => ⟨by rw [ol_read, if_neg q], zPre.t im⟩
  refine zz_intro (isI := false) (by decide) rfl (Nat.le_of_ble_eq_true rfl) (fun h => by cases h) (fun w S => ?_)
  refine zz_aload_0 S dX8_read_0 (q := 1) rfl ?_
  refine zz_iconst S (v := 0) rfl dX8_read_1 (q := 2) rfl ?_
  refine zz_putI S fX8_35 rfl rfl (Nat.le_of_ble_eq_true rfl) rfl dX8_read_2 (q := 5) rfl ?_
  refine zz_aload_0 S dX8_read_5 (q := 6) rfl ?_
  refine zz_iload_1 S dX8_read_6 (q := 7) rfl ?_
  -- at 7: invokevirtual 162
  refine zz_virtP S yy_X8_isCommission lX8_162 (ci := 8) (by decide) rfl (co_isCommission x (zz_u im 470 0 0)) rfl (Nat.le_of_ble_eq_true rfl) (Nat.le_of_ble_eq_true rfl) rfl (Nat.le_of_ble_eq_true rfl) rfl dX8_read_7 (q := 10) rfl ?_
  rw [(zPre.t im).s]
  refine zz_if_eq S dX8_read_10 (t := 44) (by decide) (q := 13) rfl (fun h1 => ?_) (fun h1 => ?_)
  -- then 44 else 13
  · refine zz_ldc S (v := (-100001)) kX8_94 dX8_read_44 (q := 46) rfl ?_
    refine zz_iret S dX8_read_46 ⟨rfl, _, rfl, rfl, ?_⟩
    exact bad (fun q => zs_b1.mp h1 q.1)
  · refine zz_iload_2 S dX8_read_13 (q := 14) rfl ?_
    refine zz_sipush S (v := (-3000)) rfl dX8_read_14 (q := 17) rfl ?_
    refine zz_sipush S (v := 3000) rfl dX8_read_17 (q := 20) rfl ?_
    -- at 20: invokestatic 90
    refine zz_statP S yy_X8_in lX8_90 (co_in G l o (-3000) 3000 zE (zz_u im 470 0 0)) rfl (Nat.le_of_ble_eq_true rfl) (Nat.le_of_ble_eq_true rfl) rfl dX8_read_20 (q := 23) rfl ?_
    refine zz_if_eq S dX8_read_23 (t := 44) (by decide) (q := 26) rfl (fun h2 => ?_) (fun h2 => ?_)
    -- then 44 else 26
    · refine zz_ldc S (v := (-100001)) kX8_94 dX8_read_44 (q := 46) rfl ?_
      refine zz_iret S dX8_read_46 ⟨rfl, _, rfl, rfl, ?_⟩
      exact bad (fun q => zs_b1.mp h2 q.2.1)
    · refine zz_iload_3 S dX8_read_26 (q := 27) rfl ?_
      -- at 27: invokestatic 193
      refine zz_statP S yy_X8_isBit lX8_193 (co_isBit b zE (zz_u im 470 0 0)) rfl (Nat.le_of_ble_eq_true rfl) (Nat.le_of_ble_eq_true rfl) rfl dX8_read_27 (q := 30) rfl ?_
      refine zz_if_eq S dX8_read_30 (t := 44) (by decide) (q := 33) rfl (fun h3 => ?_) (fun h3 => ?_)
      -- then 44 else 33
      · refine zz_ldc S (v := (-100001)) kX8_94 dX8_read_44 (q := 46) rfl ?_
        refine zz_iret S dX8_read_46 ⟨rfl, _, rfl, rfl, ?_⟩
        exact bad (fun q => zs_b1.mp h3 q.2.2.1)
      · refine zz_iload_4 S dX8_read_33 (q := 35) rfl ?_
        refine zz_iconst S (v := (-1)) rfl dX8_read_35 (q := 36) rfl ?_
        refine zz_bipush S (v := 11) rfl dX8_read_36 (q := 38) rfl ?_
        -- at 38: invokestatic 90
        refine zz_statP S yy_X8_in lX8_90 (co_in G l mo (-1) 11 zE (zz_u im 470 0 0)) rfl (Nat.le_of_ble_eq_true rfl) (Nat.le_of_ble_eq_true rfl) rfl dX8_read_38 (q := 41) rfl ?_
        refine zz_if_ne S dX8_read_41 (t := 47) (by decide) (q := 44) rfl (fun h4 => ?_) (fun h4 => ?_)
        -- then 47 else 44
        · have hp1 := zs_ne0 h1
          have hp5 := zs_ne0 h4
          have hp3 : x ≥ 0 ∧ x ≤ nI nc - 1 := by rw [← hI.2.2.1]; exact hp1
          obtain ⟨k, hk, ek⟩ := zs_within (n := nc) (by omega) hp3
          have ec : x.toNatClampNeg = k := by rw [ek]; exact nI_clamp (by omega)
          have good : ol_read (im 471) x o b mo = (if sp_de (im 471) x.toNatClampNeg = -100009 then -100002 else if ol_reading (im 471) x o b = -100009 ∨ mo = -1 then ol_reading (im 471) x o b else ol_reading (im 471) x o b + im 471 (8 + mo.toNatClampNeg) + im 471 (38 + 8 * x.toNatClampNeg + 3)) := by rw [ol_read, if_pos ⟨hp1, zs_ne0 h2, zs_ne0 h3, hp5⟩]
          rw [ec] at good
          refine zz_aload_0 S dX8_read_47 (q := 48) rfl ?_
          refine zz_iload_1 S dX8_read_48 (q := 49) rfl ?_
          -- at 49: invokevirtual 139
          refine zz_virtI S yy_X8_takeDial lX8_139 (ci := 8) (by decide) rfl (co_takeDial x k nw nc (zz_u im 470 0 0) ek hI hk) rfl (Nat.le_of_ble_eq_true rfl) (Nat.le_of_ble_eq_true rfl) rfl (Nat.le_of_ble_eq_true rfl) rfl dX8_read_49 (q := 52) rfl ?_
          rintro r im1 ⟨hkeep, hq⟩
          have hp : zPre im im1 := (zPre.t im).k (hkeep.le (by decide))
          refine zz_if_ne S dX8_read_52 (t := 58) (by decide) (q := 55) rfl (fun h5 => ?_) (fun h5 => ?_)
          -- then 58 else 55
          · rcases hq with ⟨-, h6⟩ | ⟨hn, -, hd⟩
            · exact absurd h6 h5
            · have hn' : sp_de (im 471) k ≠ -100009 := hn
              rw [if_neg hn'] at good
              have e471 : im1 471 = im 471 := hp.s
              have join : ∀ rd : Int32, rd = ol_reading (im 471) x o b → w 75 [some (.ref 470), some (.int x), some (.int o), some (.int b), some (.int mo), none] [.int rd] 0 zE im1 := fun rd hrd => by
                have corr : mo ≠ -1 → ∃ j, j < 12 ∧ mo = nI j := fun hne => by
                  apply zs_within (n := 12) (by omega)
                  have a1 := Int32.le_iff_toInt_le.mp hp5.1
                  have a2 : mo.toInt ≠ -1 := fun e => hne (Int32.toInt_inj.mp (by rw [e]; rfl))
                  have b1 : ((-1 : Int32)).toInt = -1 := rfl
                  refine ⟨?_, hp5.2⟩
                  rw [ge_iff_le, Int32.le_iff_toInt_le]
                  have b0 : (0 : Int32).toInt = 0 := rfl
                  omega
                refine zz_istore_5 S rfl dX8_read_75 (q := 77) rfl ?_
                refine zz_iload_5 S dX8_read_77 (q := 79) rfl ?_
                refine zz_ldc S (v := (-100009)) kX8_83 dX8_read_79 (q := 81) rfl ?_
                refine zz_icmp_eq S dX8_read_81 (t := 90) (by decide) (q := 84) rfl (fun c1 => ?_) (fun c1 => ?_)
                -- then 90 else 84
                · refine zz_iload_5 S dX8_read_90 (q := 92) rfl ?_
                  refine zz_goto S dX8_read_92 (t := 115) (by decide) ?_
                  -- at 115: ireturn 
                  refine zz_iret S dX8_read_115 ⟨rfl, _, rfl, rfl, ?_⟩
                  exact ⟨by rw [good, if_pos (Or.inl (hrd ▸ c1)), hrd], hp⟩
                · refine zz_iload_4 S dX8_read_84 (q := 86) rfl ?_
                  refine zz_iconst S (v := (-1)) rfl dX8_read_86 (q := 87) rfl ?_
                  refine zz_icmp_ne S dX8_read_87 (t := 95) (by decide) (q := 90) rfl (fun c2 => ?_) (fun c2 => ?_)
                  -- then 95 else 90
                  · obtain ⟨j, hj, ej⟩ := corr c2
                    have e8 : 8 + mo = nI (8 + j) := by rw [ej]; exact nI_add 8 j
                    have emc : mo.toNatClampNeg = j := by rw [ej]; exact nI_clamp (by omega)
                    refine zz_iload_5 S dX8_read_95 (q := 97) rfl ?_
                    refine zz_aload_0 S dX8_read_97 (q := 98) rfl ?_
                    refine zz_getR S fX8_7 rfl (Nat.le_of_ble_eq_true rfl) rfl rfl dX8_read_98 (q := 101) rfl ?_
                    refine zz_bipush S (v := 8) rfl dX8_read_101 (q := 103) rfl ?_
                    refine zz_iload_4 S dX8_read_103 (q := 105) rfl ?_
                    refine zz_iadd S dX8_read_105 (q := 106) rfl ?_
                    refine zz_iaN S (j := 8 + j) (Nat.le_of_ble_eq_true rfl) rfl (Nat.le_of_ble_eq_true rfl) e8 (by omega) dX8_read_106 (q := 107) rfl ?_
                    refine zz_iadd S dX8_read_107 (q := 108) rfl ?_
                    refine zz_aload_0 S dX8_read_108 (q := 109) rfl ?_
                    refine zz_iload_1 S dX8_read_109 (q := 110) rfl ?_
                    refine zz_iconst S (v := 3) rfl dX8_read_110 (q := 111) rfl ?_
                    -- at 111: invokevirtual 127
                    refine zz_virtP S yy_X8_of lX8_127 (ci := 8) (by decide) rfl (co_of x 3 k 3 im1 ek rfl (by omega)) rfl (Nat.le_of_ble_eq_true rfl) (Nat.le_of_ble_eq_true rfl) rfl (Nat.le_of_ble_eq_true rfl) rfl dX8_read_111 (q := 114) rfl ?_
                    refine zz_iadd S dX8_read_114 (q := 115) rfl ?_
                    -- at 115: ireturn 
                    refine zz_iret S dX8_read_115 ⟨rfl, _, rfl, rfl, ?_⟩
                    exact ⟨by rw [good, if_neg (by rintro (h | h); exact c1 (hrd.trans h); exact c2 h), emc, ← hrd, e471], hp⟩
                  · refine zz_iload_5 S dX8_read_90 (q := 92) rfl ?_
                    refine zz_goto S dX8_read_92 (t := 115) (by decide) ?_
                    -- at 115: ireturn 
                    refine zz_iret S dX8_read_115 ⟨rfl, _, rfl, rfl, ?_⟩
                    exact ⟨by rw [good, if_pos (Or.inr c2), hrd], hp⟩
              refine zz_iload_3 S dX8_read_58 (q := 59) rfl ?_
              refine zz_if_ne S dX8_read_59 (t := 70) (by decide) (q := 62) rfl (fun h6 => ?_) (fun h6 => ?_)
              -- then 70 else 62
              · refine zz_aload_0 S dX8_read_70 (q := 71) rfl ?_
                refine zz_iload_2 S dX8_read_71 (q := 72) rfl ?_
                -- at 72: invokevirtual 259
                refine zz_virtP S yy_X8_byShadow lX8_259 (ci := 8) (by decide) rfl (co_byShadow o (sp_dial (im 471) k) im1 hd) rfl (Nat.le_of_ble_eq_true rfl) (Nat.le_of_ble_eq_true rfl) rfl (Nat.le_of_ble_eq_true rfl) rfl dX8_read_72 (q := 75) rfl ?_
                exact join _ (by rw [ol_reading, if_pos h6, ec])
              · refine zz_aload_0 S dX8_read_62 (q := 63) rfl ?_
                refine zz_iload_2 S dX8_read_63 (q := 64) rfl ?_
                -- at 64: invokevirtual 87
                refine zz_virtP S yy_X8_byLines lX8_87 (ci := 8) (by decide) rfl (co_byLines o (sp_dial (im 471) k) im1 hd) rfl (Nat.le_of_ble_eq_true rfl) (Nat.le_of_ble_eq_true rfl) rfl (Nat.le_of_ble_eq_true rfl) rfl dX8_read_64 (q := 67) rfl ?_
                refine zz_goto S dX8_read_67 (t := 75) (by decide) ?_
                -- at 75
                exact join _ (by rw [ol_reading, if_neg (fun q => q h6), ec])
          · rcases hq with ⟨hn, -⟩ | ⟨-, h6, -⟩
            · have hn' : sp_de (im 471) k = -100009 := hn
              rw [if_pos hn'] at good
              refine zz_ldc S (v := (-100002)) kX8_165 dX8_read_55 (q := 57) rfl ?_
              -- at 57: ireturn 
              refine zz_iret S dX8_read_57 ⟨rfl, _, rfl, rfl, ?_⟩
              exact ⟨by rw [good], hp⟩
            · exact absurd (h5.symm.trans h6) (by decide)
        · refine zz_ldc S (v := (-100001)) kX8_94 dX8_read_44 (q := 46) rfl ?_
          refine zz_iret S dX8_read_46 ⟨rfl, _, rfl, rfl, ?_⟩
          exact bad (fun q => zs_b1.mp h4 q.2.2.2)
theorem co_apart (x v : Int32) (im : ZI) (nw nc : Nat) (hI : sI (im 471) nw nc) : zz_OI G l 6 mX8_apart [.ref 470, .int x, .int v] zE im (fun r im' => zLk im im' r (ol_apart (im 471) x v)) := by
  have hn10 := hI.2.2.2.1
  have bad : ¬ ((x ≥ 0 ∧ x ≤ im 471 1 - 1) ∧ v ≥ 0 ∧ v ≤ 1) → zLk im (zz_u im 470 0 0) (-100001) (ol_apart (im 471) x v) := fun q => ⟨by rw [ol_apart, if_neg q], zPre.t im⟩
  refine zz_intro (isI := false) (by decide) rfl (Nat.le_of_ble_eq_true rfl) (fun h => by cases h) (fun w S => ?_)
  refine zz_aload_0 S dX8_apart_0 (q := 1) rfl ?_
  refine zz_iconst S (v := 0) rfl dX8_apart_1 (q := 2) rfl ?_
  refine zz_putI S fX8_35 rfl rfl (Nat.le_of_ble_eq_true rfl) rfl dX8_apart_2 (q := 5) rfl ?_
  refine zz_aload_0 S dX8_apart_5 (q := 6) rfl ?_
  refine zz_iload_1 S dX8_apart_6 (q := 7) rfl ?_
  -- at 7: invokevirtual 162
  refine zz_virtP S yy_X8_isCommission lX8_162 (ci := 8) (by decide) rfl (co_isCommission x (zz_u im 470 0 0)) rfl (Nat.le_of_ble_eq_true rfl) (Nat.le_of_ble_eq_true rfl) rfl (Nat.le_of_ble_eq_true rfl) rfl dX8_apart_7 (q := 10) rfl ?_
  rw [(zPre.t im).s]
  refine zz_if_eq S dX8_apart_10 (t := 20) (by decide) (q := 13) rfl (fun h1 => ?_) (fun h1 => ?_)
  -- then 20 else 13
  · refine zz_ldc S (v := (-100001)) kX8_94 dX8_apart_20 (q := 22) rfl ?_
    refine zz_iret S dX8_apart_22 ⟨rfl, _, rfl, rfl, ?_⟩
    exact bad (fun q => zs_b1.mp h1 q.1)
  · refine zz_iload_2 S dX8_apart_13 (q := 14) rfl ?_
    -- at 14: invokestatic 193
    refine zz_statP S yy_X8_isBit lX8_193 (co_isBit v zE (zz_u im 470 0 0)) rfl (Nat.le_of_ble_eq_true rfl) (Nat.le_of_ble_eq_true rfl) rfl dX8_apart_14 (q := 17) rfl ?_
    refine zz_if_ne S dX8_apart_17 (t := 23) (by decide) (q := 20) rfl (fun h2 => ?_) (fun h2 => ?_)
    -- then 23 else 20
    · have hp1 := zs_ne0 h1
      have hp2 := zs_ne0 h2
      have hp3 : x ≥ 0 ∧ x ≤ nI nc - 1 := by rw [← hI.2.2.1]; exact hp1
      obtain ⟨k, hk, ek⟩ := zs_within (n := nc) (by omega) hp3
      have ec : x.toNatClampNeg = k := by rw [ek]; exact nI_clamp (by omega)
      have good : ol_apart (im 471) x v = (if sp_de (im 471) k = -100009 then -100002 else if v = 0 then (zs_ap (sp_dial (im 471) k)).1 else (zs_ap (sp_dial (im 471) k)).2) := by rw [ol_apart, if_pos ⟨hp1, hp2⟩, ec]
      refine zz_aload_0 S dX8_apart_23 (q := 24) rfl ?_
      refine zz_iload_1 S dX8_apart_24 (q := 25) rfl ?_
      -- at 25: invokevirtual 139
      refine zz_virtI S yy_X8_takeDial lX8_139 (ci := 8) (by decide) rfl (co_takeDial x k nw nc (zz_u im 470 0 0) ek hI hk) rfl (Nat.le_of_ble_eq_true rfl) (Nat.le_of_ble_eq_true rfl) rfl (Nat.le_of_ble_eq_true rfl) rfl dX8_apart_25 (q := 28) rfl ?_
      rintro r im1 ⟨hkeep, hq⟩
      have hp : zPre im im1 := (zPre.t im).k (hkeep.le (by decide))
      refine zz_if_eq S dX8_apart_28 (t := 39) (by decide) (q := 31) rfl (fun h3 => ?_) (fun h3 => ?_)
      -- then 39 else 31
      · rcases hq with ⟨hn, -⟩ | ⟨-, h4, -⟩
        · have hn' : sp_de (im 471) k = -100009 := hn
          refine zz_ldc S (v := (-100002)) kX8_165 dX8_apart_39 (q := 41) rfl ?_
          -- at 41: ireturn 
          refine zz_iret S dX8_apart_41 ⟨rfl, _, rfl, rfl, ?_⟩
          exact ⟨by rw [good, if_pos hn'], hp⟩
        · exact absurd (h3.symm.trans h4) (by decide)
      · rcases hq with ⟨-, h4⟩ | ⟨hn, -, hd⟩
        · exact absurd h4 h3
        · have hn' : sp_de (im 471) k ≠ -100009 := hn
          refine zz_aload_0 S dX8_apart_31 (q := 32) rfl ?_
          refine zz_iload_2 S dX8_apart_32 (q := 33) rfl ?_
          -- at 33: invokevirtual 145
          refine zz_virtP S yy_X8_apartOf lX8_145 (ci := 8) (by decide) rfl (co_apartOf v (sp_dial (im 471) k) im1 hd (zs_dial_fine _ _ _)) rfl (Nat.le_of_ble_eq_true rfl) (Nat.le_of_ble_eq_true rfl) rfl (Nat.le_of_ble_eq_true rfl) rfl dX8_apart_33 (q := 36) rfl ?_
          refine zz_goto S dX8_apart_36 (t := 41) (by decide) ?_
          -- at 41: ireturn 
          refine zz_iret S dX8_apart_41 ⟨rfl, _, rfl, rfl, ?_⟩
          exact ⟨by rw [good, if_neg hn'], hp⟩
    · refine zz_ldc S (v := (-100001)) kX8_94 dX8_apart_20 (q := 22) rfl ?_
      refine zz_iret S dX8_apart_22 ⟨rfl, _, rfl, rfl, ?_⟩
      exact bad (fun q => zs_b1.mp h2 q.2)
theorem co_reason (x : Int32) (im : ZI) (nw nc : Nat) (hI : sI (im 471) nw nc) : zz_OI G l 7 mX8_reason [.ref 470, .int x] zE im (fun r im' => zLk im im' r (ol_reason (im 471) x)) := by
  have hn10 := hI.2.2.2.1
  refine zz_intro (isI := false) (by decide) rfl (Nat.le_of_ble_eq_true rfl) (fun h => by cases h) (fun w S => ?_)
  refine zz_aload_0 S dX8_reason_0 (q := 1) rfl ?_
  refine zz_iconst S (v := 0) rfl dX8_reason_1 (q := 2) rfl ?_
  refine zz_putI S fX8_35 rfl rfl (Nat.le_of_ble_eq_true rfl) rfl dX8_reason_2 (q := 5) rfl ?_
  refine zz_aload_0 S dX8_reason_5 (q := 6) rfl ?_
  refine zz_iload_1 S dX8_reason_6 (q := 7) rfl ?_
  -- at 7: invokevirtual 162
  refine zz_virtP S yy_X8_isCommission lX8_162 (ci := 8) (by decide) rfl (co_isCommission x (zz_u im 470 0 0)) rfl (Nat.le_of_ble_eq_true rfl) (Nat.le_of_ble_eq_true rfl) rfl (Nat.le_of_ble_eq_true rfl) rfl dX8_reason_7 (q := 10) rfl ?_
  rw [(zPre.t im).s]
  refine zz_if_eq S dX8_reason_10 (t := 21) (by decide) (q := 13) rfl (fun h1 => ?_) (fun h1 => ?_)
  -- then 21 else 13
  · refine zz_ldc S (v := (-100001)) kX8_94 dX8_reason_21 (q := 23) rfl ?_
    refine zz_iret S dX8_reason_23 ⟨rfl, _, rfl, rfl, ?_⟩
    exact ⟨by rw [ol_reason, if_neg (zs_b1.mp h1)], zPre.t im⟩
  · have hp1 := zs_ne0 h1
    have hp3 : x ≥ 0 ∧ x ≤ nI nc - 1 := by rw [← hI.2.2.1]; exact hp1
    obtain ⟨k, hk, ek⟩ := zs_within (n := nc) (by omega) hp3
    have ec : x.toNatClampNeg = k := by rw [ek]; exact nI_clamp (by omega)
    refine zz_aload_0 S dX8_reason_13 (q := 14) rfl ?_
    refine zz_iload_1 S dX8_reason_14 (q := 15) rfl ?_
    -- at 15: invokevirtual 166
    refine zz_virtI S yy_X8_reasonFor lX8_166 (ci := 8) (by decide) rfl (co_reasonFor x k nw nc (zz_u im 470 0 0) ek hI hk) rfl (Nat.le_of_ble_eq_true rfl) (Nat.le_of_ble_eq_true rfl) rfl (Nat.le_of_ble_eq_true rfl) rfl dX8_reason_15 (q := 18) rfl ?_
    rintro r im1 ⟨rfl, hkeep⟩
    refine zz_goto S dX8_reason_18 (t := 23) (by decide) ?_
    -- at 23: ireturn 
    refine zz_iret S dX8_reason_23 ⟨rfl, _, rfl, rfl, ?_⟩
    exact ⟨by rw [ol_reason, if_pos hp1, ec]; rfl, (zPre.t im).k (hkeep.le (by decide))⟩
theorem zs_okN {k : Nat} (h : k ≤ 70) : zs_ok (4 * nI k) ∧ zs_ok (360 + 4 * nI k) := zs_ok4 ⟨by rw [nI_toInt (by omega)]; omega, by rw [nI_toInt (by omega)]; omega⟩
set_option maxHeartbeats 4000000 in
theorem lo_bestLatitude {n0 mcT msT : Nat} {isI : Bool} {Qf : Option Value → ZE → ZI → Prop} {w : Nat → ZL → List Value → Nat → ZE → ZI → Prop} {z : Nat} {x v dec : Int32} {im0 : ZI} (S : zz_S G l RX8 cX8_bestLatitude 6 5 n0 mcT msT isI (some .int) Qf w)
    (hv : v = (if x = 100 then 0 else 1)) (hdec : dec = (if x = 100 then 0 else x)) (hd : zs_ok (4 * dec) ∧ zs_ok (360 + 4 * dec))
    (hQ : ∀ im', zz_keep [476, 477] im0 im' → Qf (some (.int (zs_best v dec))) zE im') :
    ∀ (n k : Nat) (y b e : Int32) (im : ZI), k + n = 71 → y = nI k → zz_keep [476, 477] im0 im → (b = -100009 ∨ b.toInt < k) → zs_best v dec = zs_beG v dec n k b e →
      w 34 [some (.ref 470), some (.int x), some (.int b), some (.int e), some (.int y), none] [] z zE im := by
  intro n
  induction n with
  | zero =>
    intro k y b e im hk hy hkp hb hF
    have hk : k = 71 := by omega
    subst hk
    refine zz_iload_4 S dX8_bestLatitude_34 (q := 36) rfl ?_
    refine zz_bipush S (v := 70) rfl dX8_bestLatitude_36 (q := 38) rfl ?_
    refine zz_icmp_gt S dX8_bestLatitude_38 (t := 114) (by decide) (q := 41) rfl (fun a1 => ?_) (fun a1 => ?_)
    -- then 114 else 41
    · refine zz_iload_2 S dX8_bestLatitude_114 (q := 115) rfl ?_
      -- at 115: ireturn 
      exact zz_iret S dX8_bestLatitude_115 (by have := hQ im hkp; rw [hF] at this; exact this)
    · exact absurd (by rw [hy]; decide) a1
  | succ n ih =>
    intro k y b e im hk hy hkp hb hF
    have hy1 := nI_toInt (n := k) (by omega)
    have hl := zs_okN (k := k) (by omega)
    have body : w 66 [some (.ref 470), some (.int x), some (.int b), some (.int e), some (.int y), none] [.int dec, .int v, .int y, .ref 470] z zE im := by
      refine zz_virtV S yy_X8_reckon lX8_133 (ci := 8) (by decide) rfl (co_reckon y v dec (by rw [hy]; exact hl.1) (by rw [hy]; exact hl.2) hd.1 hd.2 im) rfl (Nat.le_of_ble_eq_true rfl) (Nat.le_of_ble_eq_true rfl) rfl (Nat.le_of_ble_eq_true rfl) rfl dX8_bestLatitude_66 (q := 69) rfl ?_
      rintro im1 ⟨hdl, hk1⟩
      have hk2 : zz_keep [476, 477] im0 im1 := hkp.tr hk1 (fun _ h => h)
      refine zz_aload_0 S dX8_bestLatitude_69 (q := 70) rfl ?_
      refine zz_iconst S (v := 0) rfl dX8_bestLatitude_70 (q := 71) rfl ?_
      -- at 71: invokevirtual 145
      refine zz_virtP S yy_X8_apartOf lX8_145 (ci := 8) (by decide) rfl (co_apartOf 0 (zs_dial (4 * y) v (4 * dec)) im1 hdl (zs_dial_fine _ _ _)) rfl (Nat.le_of_ble_eq_true rfl) (Nat.le_of_ble_eq_true rfl) rfl (Nat.le_of_ble_eq_true rfl) rfl dX8_bestLatitude_71 (q := 74) rfl ?_
      rw [if_pos rfl]
      have yes : (b = -100009 ∨ (zs_ap (zs_dial (4 * y) v (4 * dec))).1 < e) → w 88 [some (.ref 470), some (.int x), some (.int b), some (.int e), some (.int y), some (.int (zs_ap (zs_dial (4 * y) v (4 * dec))).1)] [] z zE im1 := fun q => by
        refine zz_iload_4 S dX8_bestLatitude_88 (q := 90) rfl ?_
        refine zz_goto S dX8_bestLatitude_90 (t := 94) (by decide) ?_
        refine zz_istore_2 S rfl dX8_bestLatitude_94 (q := 95) rfl ?_
        refine zz_iload_2 S dX8_bestLatitude_95 (q := 96) rfl ?_
        refine zz_iload_4 S dX8_bestLatitude_96 (q := 98) rfl ?_
        refine zz_icmp_ne S dX8_bestLatitude_98 (t := 106) (by decide) (q := 101) rfl (fun c1 => ?_) (fun c1 => ?_)
        -- then 106 else 101
        · exact absurd rfl c1
        · refine zz_iload_5 S dX8_bestLatitude_101 (q := 103) rfl ?_
          refine zz_goto S dX8_bestLatitude_103 (t := 107) (by decide) ?_
          refine zz_istore_3 S rfl dX8_bestLatitude_107 (q := 108) rfl ?_
          refine zz_iinc_4 S rfl dX8_bestLatitude_108 (q := 111) rfl ?_
          refine zz_goto S dX8_bestLatitude_111 (t := 34) (by decide) ?_
          -- at 34
          refine zz_msk S [true, true, true, true, true, false] ?_
          refine ih (k + 1) _ _ _ im1 (by omega) (by rw [hy]; exact nI_add k 1) hk2 (Or.inr (by rw [hy, hy1]; omega)) ?_
          rw [hF, zs_beG, if_pos (by rw [hy] at q; exact q), hy]
      refine zz_istore_5 S rfl dX8_bestLatitude_74 (q := 76) rfl ?_
      refine zz_iload_2 S dX8_bestLatitude_76 (q := 77) rfl ?_
      refine zz_ldc S (v := (-100009)) kX8_83 dX8_bestLatitude_77 (q := 79) rfl ?_
      refine zz_icmp_eq S dX8_bestLatitude_79 (t := 88) (by decide) (q := 82) rfl (fun b1 => ?_) (fun b1 => ?_)
      -- then 88 else 82
      · exact yes (Or.inl b1)
      · refine zz_iload_5 S dX8_bestLatitude_82 (q := 84) rfl ?_
        refine zz_iload_3 S dX8_bestLatitude_84 (q := 85) rfl ?_
        refine zz_icmp_ge S dX8_bestLatitude_85 (t := 93) (by decide) (q := 88) rfl (fun b2 => ?_) (fun b2 => ?_)
        -- then 93 else 88
        · refine zz_iload_2 S dX8_bestLatitude_93 (q := 94) rfl ?_
          refine zz_istore_2 S rfl dX8_bestLatitude_94 (q := 95) rfl ?_
          refine zz_iload_2 S dX8_bestLatitude_95 (q := 96) rfl ?_
          refine zz_iload_4 S dX8_bestLatitude_96 (q := 98) rfl ?_
          refine zz_icmp_ne S dX8_bestLatitude_98 (t := 106) (by decide) (q := 101) rfl (fun b3 => ?_) (fun b3 => ?_)
          -- then 106 else 101
          · refine zz_iload_3 S dX8_bestLatitude_106 (q := 107) rfl ?_
            refine zz_istore_3 S rfl dX8_bestLatitude_107 (q := 108) rfl ?_
            refine zz_iinc_4 S rfl dX8_bestLatitude_108 (q := 111) rfl ?_
            refine zz_goto S dX8_bestLatitude_111 (t := 34) (by decide) ?_
            -- at 34
            refine zz_msk S [true, true, true, true, true, false] ?_
            refine ih (k + 1) _ _ _ im1 (by omega) (by rw [hy]; exact nI_add k 1) hk2 (hb.imp id (fun q => by omega)) ?_
            rw [hF, zs_beG, if_neg (by rw [hy] at b2; rintro (h | h); exact b1 h; exact absurd b2 (Int32.not_le.mpr h))]
          · exfalso
            rcases hb with hb | hb
            · exact b1 hb
            · rw [b3, hy, hy1] at hb
              omega
        · exact yes (Or.inr (Int32.not_le.mp b2))
    refine zz_iload_4 S dX8_bestLatitude_34 (q := 36) rfl ?_
    refine zz_bipush S (v := 70) rfl dX8_bestLatitude_36 (q := 38) rfl ?_
    refine zz_icmp_gt S dX8_bestLatitude_38 (t := 114) (by decide) (q := 41) rfl (fun a1 => ?_) (fun a1 => ?_)
    -- then 114 else 41
    · exact absurd a1 (by rw [hy, gt_iff_lt, Int32.lt_iff_toInt_lt, hy1]; show ¬ (70 : Int) < _; omega)
    · by_cases hx : x = 100
      · rw [if_pos hx] at hv hdec
        subst hv
        subst hdec
        refine zz_aload_0 S dX8_bestLatitude_41 (q := 42) rfl ?_
        refine zz_iload_4 S dX8_bestLatitude_42 (q := 44) rfl ?_
        refine zz_iload_1 S dX8_bestLatitude_44 (q := 45) rfl ?_
        refine zz_bipush S (v := 100) rfl dX8_bestLatitude_45 (q := 47) rfl ?_
        refine zz_icmp_eq S dX8_bestLatitude_47 (t := 54) (by decide) (q := 50) rfl (fun c1 => ?_) (fun c1 => ?_)
        -- then 54 else 50
        · refine zz_iconst S (v := 0) rfl dX8_bestLatitude_54 (q := 55) rfl ?_
          refine zz_iload_1 S dX8_bestLatitude_55 (q := 56) rfl ?_
          refine zz_bipush S (v := 100) rfl dX8_bestLatitude_56 (q := 58) rfl ?_
          refine zz_icmp_ne S dX8_bestLatitude_58 (t := 65) (by decide) (q := 61) rfl (fun c2 => ?_) (fun c2 => ?_)
          -- then 65 else 61
          · exact absurd hx c2
          · refine zz_iconst S (v := 0) rfl dX8_bestLatitude_61 (q := 62) rfl ?_
            refine zz_goto S dX8_bestLatitude_62 (t := 66) (by decide) ?_
            -- at 66
            exact body
        · exact absurd hx c1
      · rw [if_neg hx] at hv hdec
        subst hv
        subst hdec
        refine zz_aload_0 S dX8_bestLatitude_41 (q := 42) rfl ?_
        refine zz_iload_4 S dX8_bestLatitude_42 (q := 44) rfl ?_
        refine zz_iload_1 S dX8_bestLatitude_44 (q := 45) rfl ?_
        refine zz_bipush S (v := 100) rfl dX8_bestLatitude_45 (q := 47) rfl ?_
        refine zz_icmp_eq S dX8_bestLatitude_47 (t := 54) (by decide) (q := 50) rfl (fun c1 => ?_) (fun c1 => ?_)
        -- then 54 else 50
        · exact absurd c1 hx
        · refine zz_iconst S (v := 1) rfl dX8_bestLatitude_50 (q := 51) rfl ?_
          refine zz_goto S dX8_bestLatitude_51 (t := 55) (by decide) ?_
          refine zz_iload_1 S dX8_bestLatitude_55 (q := 56) rfl ?_
          refine zz_bipush S (v := 100) rfl dX8_bestLatitude_56 (q := 58) rfl ?_
          refine zz_icmp_ne S dX8_bestLatitude_58 (t := 65) (by decide) (q := 61) rfl (fun c2 => ?_) (fun c2 => ?_)
          -- then 65 else 61
          · refine zz_iload_1 S dX8_bestLatitude_65 (q := 66) rfl ?_
            -- at 66
            exact body
          · exact absurd c2 hx
theorem co_bestLatitude (x : Int32) (im : ZI) : zz_OI G l 5 mX8_bestLatitude [.ref 470, .int x] zE im (fun r im' => zLk im im' r (ol_best x)) := by
  have d0 : zs_ok (4 * 0) ∧ zs_ok (360 + 4 * 0) := zs_ok4 ⟨by decide, by decide⟩
  refine zz_intro (isI := false) (by decide) rfl (Nat.le_of_ble_eq_true rfl) (fun h => by cases h) (fun w S => ?_)
  refine zz_aload_0 S dX8_bestLatitude_0 (q := 1) rfl ?_
  refine zz_iconst S (v := 0) rfl dX8_bestLatitude_1 (q := 2) rfl ?_
  refine zz_putI S fX8_35 rfl rfl (Nat.le_of_ble_eq_true rfl) rfl dX8_bestLatitude_2 (q := 5) rfl ?_
  refine zz_iload_1 S dX8_bestLatitude_5 (q := 6) rfl ?_
  refine zz_bipush S (v := 100) rfl dX8_bestLatitude_6 (q := 8) rfl ?_
  refine zz_icmp_eq S dX8_bestLatitude_8 (t := 25) (by decide) (q := 11) rfl (fun h1 => ?_) (fun h1 => ?_)
  -- then 25 else 11
  · refine zz_ldc S (v := (-100009)) kX8_83 dX8_bestLatitude_25 (q := 27) rfl ?_
    refine zz_istore_2 S rfl dX8_bestLatitude_27 (q := 28) rfl ?_
    refine zz_iconst S (v := 0) rfl dX8_bestLatitude_28 (q := 29) rfl ?_
    refine zz_istore_3 S rfl dX8_bestLatitude_29 (q := 30) rfl ?_
    refine zz_bipush S (v := 10) rfl dX8_bestLatitude_30 (q := 32) rfl ?_
    refine zz_istore_4 S rfl dX8_bestLatitude_32 (q := 34) rfl ?_
    -- at 34
    exact lo_bestLatitude (v := 0) (dec := 0) S (by rw [if_pos h1]) (by rw [if_pos h1]) d0 (fun im' hk => ⟨rfl, _, rfl, rfl, by rw [ol_best, if_pos h1], (zPre.t im).k (hk.le (by decide))⟩) 61 10 _ _ _ _ rfl rfl zz_keep.rf (Or.inl rfl) rfl
  · refine zz_iload_1 S dX8_bestLatitude_11 (q := 12) rfl ?_
    refine zz_bipush S (v := (-60)) rfl dX8_bestLatitude_12 (q := 14) rfl ?_
    refine zz_bipush S (v := 60) rfl dX8_bestLatitude_14 (q := 16) rfl ?_
    -- at 16: invokestatic 90
    refine zz_statP S yy_X8_in lX8_90 (co_in G l x (-60) 60 zE (zz_u im 470 0 0)) rfl (Nat.le_of_ble_eq_true rfl) (Nat.le_of_ble_eq_true rfl) rfl dX8_bestLatitude_16 (q := 19) rfl ?_
    refine zz_if_ne S dX8_bestLatitude_19 (t := 25) (by decide) (q := 22) rfl (fun h2 => ?_) (fun h2 => ?_)
    -- then 25 else 22
    · have hp := zs_ne0 h2
      have p1 : ((-60 : Int32)).toInt ≤ x.toInt := Int32.le_iff_toInt_le.mp hp.1
      have p2 : x.toInt ≤ ((60 : Int32)).toInt := Int32.le_iff_toInt_le.mp hp.2
      have p3 : ((-60 : Int32)).toInt = -60 := rfl
      have p4 : ((60 : Int32)).toInt = 60 := rfl
      have dx : zs_ok (4 * x) ∧ zs_ok (360 + 4 * x) := zs_ok4 ⟨by omega, by omega⟩
      refine zz_ldc S (v := (-100009)) kX8_83 dX8_bestLatitude_25 (q := 27) rfl ?_
      refine zz_istore_2 S rfl dX8_bestLatitude_27 (q := 28) rfl ?_
      refine zz_iconst S (v := 0) rfl dX8_bestLatitude_28 (q := 29) rfl ?_
      refine zz_istore_3 S rfl dX8_bestLatitude_29 (q := 30) rfl ?_
      refine zz_bipush S (v := 10) rfl dX8_bestLatitude_30 (q := 32) rfl ?_
      refine zz_istore_4 S rfl dX8_bestLatitude_32 (q := 34) rfl ?_
      -- at 34
      exact lo_bestLatitude (v := 1) (dec := x) S (by rw [if_neg h1]) (by rw [if_neg h1]) dx (fun im' hk => ⟨rfl, _, rfl, rfl, by rw [ol_best, if_neg h1, if_pos hp], (zPre.t im).k (hk.le (by decide))⟩) 61 10 _ _ _ _ rfl rfl zz_keep.rf (Or.inl rfl) rfl
    · refine zz_ldc S (v := (-100001)) kX8_94 dX8_bestLatitude_22 (q := 24) rfl ?_
      -- at 24: ireturn 
      refine zz_iret S dX8_bestLatitude_24 ⟨rfl, _, rfl, rfl, ?_⟩
      exact ⟨by rw [ol_best, if_neg h1, if_neg (zs_b1.mp h2)], zPre.t im⟩
theorem op_ml_eq (s : ZSt) (nc : Nat) (st st' : Nat → Int32) (h : ∀ j, j < nc → st j = st' j) : (op_ml s nc st).1 = (op_ml s nc st').1 ∧ ∀ j, j < nc → (op_ml s nc st).2 j = (op_ml s nc st').2 j := by
  obtain ⟨a, b, -⟩ := op_mlG_eq (sp_wt s) (s 7) nc 0 0 0 st st' (fun j _ h2 => h j (by omega))
  exact ⟨a, fun j hj => b j (Nat.zero_le _) (by omega)⟩
theorem op_mtG_eq (s : ZSt) (nc : Nat) : ∀ (f : Nat) (m : Int32) (st st' : Nat → Int32), (∀ j, j < nc → st j = st' j) → (op_mtG s nc f m st).1 = (op_mtG s nc f m st').1 ∧ ∀ j, j < nc → (op_mtG s nc f m st).2 j = (op_mtG s nc f m st').2 j := by
  intro f
  induction f with
  | zero => intro m st st' h; exact ⟨rfl, h⟩
  | succ f ih =>
    intro m st st' h
    obtain ⟨a, b⟩ := op_ml_eq s nc st st' h
    rw [op_mtG, op_mtG, ← a]
    split
    · exact ih (m + 1) _ _ b
    · exact ⟨rfl, b⟩
theorem op_lfG_eq (nc : Nat) : ∀ (n c : Nat) (b : Int32) (st st' : Nat → Int32), c + n = nc → (∀ j, j < nc → st j = st' j) → op_lfG st n c b = op_lfG st' n c b := by
  intro n
  induction n with
  | zero => intro c b st st' _ _; rfl
  | succ n ih =>
    intro c b st st' hc h
    rw [op_lfG, op_lfG, h c (by omega), ih (c + 1) _ st st' (by omega) h]
set_option maxHeartbeats 4000000 in
theorem lo_melts {n0 mcT msT : Nat} {isI : Bool} {Qf : Option Value → ZE → ZI → Prop} {w : Nat → ZL → List Value → Nat → ZE → ZI → Prop} {z : Nat} {im0 : ZI} {nc : Nat} {R : Int32 × (Nat → Int32)} (S : zz_S G l RX8 cX8_melts 4 3 n0 mcT msT isI (some .int) Qf w)
    (h1 : im0 471 1 = nI nc) (hn : nc ≤ 10) (hQ : ∀ im', zz_keep [478] im0 im' → im' 478 = R.2 → w 24 [some (.ref 470), some (.int R.1), none, none] [] z zE im') :
    ∀ (n f : Nat) (m : Int32) (im : ZI), op_ones (im 478) nc 0 ≤ n → n < f → zz_keep [478] im0 im → R = op_mtG (im0 471) nc f m (im 478) → w 11 [some (.ref 470), some (.int m), none, none] [] z zE im := by
  intro n
  induction n with
  | zero =>
    intro f m im ho hf hk hF
    have e471 : im 471 = im0 471 := hk 471 (by decide)
    obtain ⟨f, rfl⟩ : ∃ g, f = g + 1 := ⟨f - 1, by omega⟩
    refine zz_aload_0 S dX8_melts_11 (q := 12) rfl ?_
    -- at 12: invokevirtual 178
    refine zz_virtI S yy_X8_melt lX8_178 (ci := 8) (by decide) rfl (co_melt nc im (by rw [e471]; exact h1) hn) rfl (Nat.le_of_ble_eq_true rfl) (Nat.le_of_ble_eq_true rfl) rfl (Nat.le_of_ble_eq_true rfl) rfl dX8_melts_12 (q := 15) rfl ?_
    rintro r im1 ⟨rfl, hst, hk1⟩
    rw [e471] at hst ⊢
    obtain ⟨k, e1, e2, e3⟩ := op_ml_ones (sp_wt (im0 471)) (im0 471 7) nc 0 0 0 (im 478)
    have hz : (op_ml (im0 471) nc (im 478)).1 = 0 := by
      have hk0 : k = 0 := by omega
      rw [op_ml, e1, hk0]
      rfl
    refine zz_if_le S dX8_melts_15 (t := 24) (by decide) (q := 18) rfl (fun a1 => ?_) (fun a1 => ?_)
    -- then 24 else 18
    · rw [op_mtG, hz, if_neg (by decide)] at hF
      subst hF
      exact hQ im1 (hk.tr hk1 (fun _ h => h)) hst
    · exact absurd (by rw [hz]; decide) a1
  | succ n ih =>
    intro f m im ho hf hk hF
    have e471 : im 471 = im0 471 := hk 471 (by decide)
    obtain ⟨f, rfl⟩ : ∃ g, f = g + 1 := ⟨f - 1, by omega⟩
    refine zz_aload_0 S dX8_melts_11 (q := 12) rfl ?_
    -- at 12: invokevirtual 178
    refine zz_virtI S yy_X8_melt lX8_178 (ci := 8) (by decide) rfl (co_melt nc im (by rw [e471]; exact h1) hn) rfl (Nat.le_of_ble_eq_true rfl) (Nat.le_of_ble_eq_true rfl) rfl (Nat.le_of_ble_eq_true rfl) rfl dX8_melts_12 (q := 15) rfl ?_
    rintro r im1 ⟨rfl, hst, hk1⟩
    rw [e471] at hst ⊢
    obtain ⟨k, e1, e2, e3⟩ := op_ml_ones (sp_wt (im0 471)) (im0 471 7) nc 0 0 0 (im 478)
    refine zz_if_le S dX8_melts_15 (t := 24) (by decide) (q := 18) rfl (fun a1 => ?_) (fun a1 => ?_)
    -- then 24 else 18
    · rw [op_mtG, if_neg (by rw [gt_iff_lt, Int32.not_lt]; exact a1)] at hF
      subst hF
      exact hQ im1 (hk.tr hk1 (fun _ h => h)) hst
    · have hpos : (op_ml (im0 471) nc (im 478)).1 > 0 := Int32.not_le.mp a1
      have hk0 : 0 < k := by
        rcases Nat.eq_zero_or_pos k with h | h
        · exfalso
          rw [op_ml, e1, h] at hpos
          exact absurd hpos (by decide)
        · exact h
      rw [op_mtG, if_pos hpos, ← hst] at hF
      refine zz_iinc_1 S rfl dX8_melts_18 (q := 21) rfl ?_
      refine zz_goto S dX8_melts_21 (t := 11) (by decide) ?_
      -- at 11
      refine ih f _ im1 ?_ (by omega) (hk.tr hk1 (fun _ h => h)) hF
      rw [hst]
      unfold op_ml
      omega
set_option maxHeartbeats 4000000 in
theorem lo_left {n0 mcT msT : Nat} {isI : Bool} {Qf : Option Value → ZE → ZI → Prop} {w : Nat → ZL → List Value → Nat → ZE → ZI → Prop} {z : Nat} {im : ZI} {nc : Nat} {m : Int32} (S : zz_S G l RX8 cX8_melts 4 3 n0 mcT msT isI (some .int) Qf w)
    (h1 : im 471 1 = nI nc) (hn : nc ≤ 10) (hQ : Qf (some (.int (if op_lfG (im 478) nc 0 0 = 0 then m else -100009))) zE im) :
    ∀ (n c : Nat) (x b : Int32), c + n = nc → x = nI c → op_lfG (im 478) nc 0 0 = op_lfG (im 478) n c b → w 28 [some (.ref 470), some (.int m), some (.int b), some (.int x)] [] z zE im := by
  intro n
  induction n with
  | zero =>
    intro c x b hc hx hF
    have hc : c = nc := by omega
    subst hc
    rw [hF] at hQ
    refine zz_iload_3 S dX8_melts_28 (q := 29) rfl ?_
    refine zz_aload_0 S dX8_melts_29 (q := 30) rfl ?_
    refine zz_getR S fX8_7 rfl (Nat.le_of_ble_eq_true rfl) rfl rfl dX8_melts_30 (q := 33) rfl ?_
    refine zz_iconst S (v := 1) rfl dX8_melts_33 (q := 34) rfl ?_
    refine zz_iaN S (j := 1) (Nat.le_of_ble_eq_true rfl) rfl (Nat.le_of_ble_eq_true rfl) rfl (Nat.le_of_ble_eq_true rfl) dX8_melts_34 (q := 35) rfl ?_
    refine zz_icmp_ge S dX8_melts_35 (t := 64) (by decide) (q := 38) rfl (fun a1 => ?_) (fun a1 => ?_)
    -- then 64 else 38
    · refine zz_iload_2 S dX8_melts_64 (q := 65) rfl ?_
      refine zz_if_eq S dX8_melts_65 (t := 73) (by decide) (q := 68) rfl (fun b1 => ?_) (fun b1 => ?_)
      · refine zz_iload_1 S dX8_melts_73 (q := 74) rfl ?_
        refine zz_iret S dX8_melts_74 ?_
        first | (rw [show op_lfG (im 478) 0 c b = 0 from b1, if_pos rfl] at hQ; exact hQ) | (rw [if_neg (show ¬ op_lfG (im 478) 0 c b = 0 from b1)] at hQ; exact hQ)
      · refine zz_ldc S (v := (-100009)) kX8_83 dX8_melts_68 (q := 70) rfl ?_
        refine zz_goto S dX8_melts_70 (t := 74) (by decide) ?_
        refine zz_iret S dX8_melts_74 ?_
        first | (rw [show op_lfG (im 478) 0 c b = 0 from b1, if_pos rfl] at hQ; exact hQ) | (rw [if_neg (show ¬ op_lfG (im 478) 0 c b = 0 from b1)] at hQ; exact hQ)
    · exact absurd (by rw [h1, hx]; exact Int32.le_refl _) a1
  | succ n ih =>
    intro c x b hc hx hF
    refine zz_iload_3 S dX8_melts_28 (q := 29) rfl ?_
    refine zz_aload_0 S dX8_melts_29 (q := 30) rfl ?_
    refine zz_getR S fX8_7 rfl (Nat.le_of_ble_eq_true rfl) rfl rfl dX8_melts_30 (q := 33) rfl ?_
    refine zz_iconst S (v := 1) rfl dX8_melts_33 (q := 34) rfl ?_
    refine zz_iaN S (j := 1) (Nat.le_of_ble_eq_true rfl) rfl (Nat.le_of_ble_eq_true rfl) rfl (Nat.le_of_ble_eq_true rfl) dX8_melts_34 (q := 35) rfl ?_
    refine zz_icmp_ge S dX8_melts_35 (t := 64) (by decide) (q := 38) rfl (fun a1 => ?_) (fun a1 => ?_)
    -- then 64 else 38
    · exact absurd a1 (by rw [h1, hx]; exact nI_ge (by omega) (by omega))
    · refine zz_iload_2 S dX8_melts_38 (q := 39) rfl ?_
      refine zz_if_ne S dX8_melts_39 (t := 52) (by decide) (q := 42) rfl (fun b1 => ?_) (fun b1 => ?_)
      · refine zz_iconst S (v := 1) rfl dX8_melts_52 (q := 53) rfl ?_
        refine zz_goto S dX8_melts_53 (t := 57) (by decide) ?_
        refine zz_istore_2 S rfl dX8_melts_57 (q := 58) rfl ?_
        refine zz_iinc_3 S rfl dX8_melts_58 (q := 61) rfl ?_
        refine zz_goto S dX8_melts_61 (t := 28) (by decide) ?_
        refine ih (c + 1) _ _ (by omega) (by rw [hx]; exact nI_add c 1) ?_
        rw [hF, op_lfG]
        first | rw [if_pos b1] | rw [if_neg (fun q => q b1), if_pos b2] | rw [if_neg (fun q => q b1), if_neg (fun q => q b2)]
      · refine zz_aload_0 S dX8_melts_42 (q := 43) rfl ?_
        refine zz_getR S fX8_32 rfl (Nat.le_of_ble_eq_true rfl) rfl rfl dX8_melts_43 (q := 46) rfl ?_
        refine zz_iload_3 S dX8_melts_46 (q := 47) rfl ?_
        refine zz_iaN S (j := c) (Nat.le_of_ble_eq_true rfl) rfl (Nat.le_of_ble_eq_true rfl) hx (by omega) dX8_melts_47 (q := 48) rfl ?_
        refine zz_iconst S (v := 1) rfl dX8_melts_48 (q := 49) rfl ?_
        refine zz_icmp_ne S dX8_melts_49 (t := 56) (by decide) (q := 52) rfl (fun b2 => ?_) (fun b2 => ?_)
        · refine zz_iconst S (v := 0) rfl dX8_melts_56 (q := 57) rfl ?_
          refine zz_istore_2 S rfl dX8_melts_57 (q := 58) rfl ?_
          refine zz_iinc_3 S rfl dX8_melts_58 (q := 61) rfl ?_
          refine zz_goto S dX8_melts_61 (t := 28) (by decide) ?_
          refine ih (c + 1) _ _ (by omega) (by rw [hx]; exact nI_add c 1) ?_
          rw [hF, op_lfG]
          first | rw [if_pos b1] | rw [if_neg (fun q => q b1), if_pos b2] | rw [if_neg (fun q => q b1), if_neg (fun q => q b2)]
        · refine zz_iconst S (v := 1) rfl dX8_melts_52 (q := 53) rfl ?_
          refine zz_goto S dX8_melts_53 (t := 57) (by decide) ?_
          refine zz_istore_2 S rfl dX8_melts_57 (q := 58) rfl ?_
          refine zz_iinc_3 S rfl dX8_melts_58 (q := 61) rfl ?_
          refine zz_goto S dX8_melts_61 (t := 28) (by decide) ?_
          refine ih (c + 1) _ _ (by omega) (by rw [hx]; exact nI_add c 1) ?_
          rw [hF, op_lfG]
          first | rw [if_pos b1] | rw [if_neg (fun q => q b1), if_pos b2] | rw [if_neg (fun q => q b1), if_neg (fun q => q b2)]
theorem co_melts (im : ZI) (nw nc : Nat) (hI : sI (im 471) nw nc) : zz_OI G l 3 mX8_melts [.ref 470] zE im (fun r im' => zLk im im' r (ol_melts (im 471) nc)) := by
  have h1 : zz_u im 470 0 0 471 1 = nI nc := hI.2.2.1
  have hn := hI.2.2.2.1
  refine zz_intro (isI := false) (by decide) rfl (Nat.le_of_ble_eq_true rfl) (fun h => by cases h) (fun w S => ?_)
  refine zz_aload_0 S dX8_melts_0 (q := 1) rfl ?_
  refine zz_iconst S (v := 0) rfl dX8_melts_1 (q := 2) rfl ?_
  refine zz_putI S fX8_35 rfl rfl (Nat.le_of_ble_eq_true rfl) rfl dX8_melts_2 (q := 5) rfl ?_
  refine zz_aload_0 S dX8_melts_5 (q := 6) rfl ?_
  -- at 6: invokevirtual 175
  refine zz_virtV S yy_X8_takeStates lX8_175 (ci := 8) (by decide) rfl (co_takeStates nc (zz_u im 470 0 0) h1 hn) rfl (Nat.le_of_ble_eq_true rfl) (Nat.le_of_ble_eq_true rfl) rfl (Nat.le_of_ble_eq_true rfl) rfl dX8_melts_6 (q := 9) rfl ?_
  rintro im1 rfl
  refine zz_iconst S (v := 0) rfl dX8_melts_9 (q := 10) rfl ?_
  refine zz_istore_1 S rfl dX8_melts_10 (q := 11) rfl ?_
  -- at 11
  have hst : ∀ j, j < nc → (zz_fo (zz_u im 470 0 0) 478 0 (op_st (zz_u im 470 0 0 471)) nc) 478 j = op_st (im 471) j := fun j hj => by
    rw [zz_fo_at, if_pos (by omega)]
    rfl
  have e471 : (zz_fo (zz_u im 470 0 0) 478 0 (op_st (zz_u im 470 0 0 471)) nc) 471 = im 471 := by rw [zz_fo_off (by decide)]; rfl
  have hpre : zPre im (zz_fo (zz_u im 470 0 0) 478 0 (op_st (zz_u im 470 0 0 471)) nc) := (zPre.t im).k (fun k hk => zz_fo_off (fun e => hk (by rw [e]; decide)))
  generalize zz_fo (zz_u im 470 0 0) 478 0 (op_st (zz_u im 470 0 0 471)) nc = im1 at hst e471 hpre ⊢
  obtain ⟨q1, q2⟩ := op_mtG_eq (im 471) nc 11 0 (im1 478) (op_st (im 471)) hst
  refine lo_melts (im0 := im1) (nc := nc) (R := op_mtG (im 471) nc 11 0 (im1 478)) S (by rw [e471]; exact hI.2.2.1) hn (fun im' hk hr => ?_) 10 11 0 im1 (Nat.le_trans (op_ones_le _ _ _) hn) (by omega) zz_keep.rf (by rw [e471])
  have e471' : im' 471 = im 471 := (hk 471 (by decide)).trans e471
  refine zz_iconst S (v := 0) rfl dX8_melts_24 (q := 25) rfl ?_
  refine zz_istore_2 S rfl dX8_melts_25 (q := 26) rfl ?_
  refine zz_iconst S (v := 0) rfl dX8_melts_26 (q := 27) rfl ?_
  refine zz_istore_3 S rfl dX8_melts_27 (q := 28) rfl ?_
  -- at 28
  refine lo_left (nc := nc) S (by rw [e471']; exact hI.2.2.1) hn ⟨rfl, _, rfl, rfl, ?_, hpre.k (hk.le (by decide))⟩ nc 0 0 0 (by omega) rfl rfl
  rw [ol_melts, hr, op_lfG_eq nc nc 0 0 _ _ (by omega) q2, q1]
end ZLK3
