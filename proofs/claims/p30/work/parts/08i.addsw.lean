/-! THE LAW: addsUp, walked -/
theorem cde_ne {s : ZSt} {nw nc c : Nat} (hI : sI s nw nc) (hc : c < nc) (h1 : ¬ s (38 + 8 * c + 4) ≤ 0) (h2 : ¬ s (38 + 8 * c + 4) ≥ 4) : sp_de s c ≠ -100009 := by
  obtain ⟨c1, c2, c3, c4, c5, c6⟩ := hI.2.2.2.2.2.2.2 c hc
  rw [Int32.le_iff_toInt_le, show ((0 : Int32)).toInt = 0 from rfl] at h1
  rw [ge_iff_le, Int32.le_iff_toInt_le, show ((4 : Int32)).toInt = 4 from rfl] at h2
  have hk := c6 ⟨by omega, by omega⟩
  unfold sp_de
  split
  · decide
  · rw [if_pos]
    · intro e
      rw [e] at hk
      exact absurd hk (by unfold sB; decide)
    · rw [ge_iff_le, Int32.le_iff_toInt_le, Int32.le_iff_toInt_le, show ((1 : Int32)).toInt = 1 from rfl, show ((3 : Int32)).toInt = 3 from rfl]
      omega
section ZADD
variable {G : ZG} {l : Launch} {n0 mcT msT : Nat} {isI : Bool} {Qf : Option Value → ZE → ZI → Prop} {w : Nat → ZL → List Value → Nat → ZE → ZI → Prop} {z n nw nc : Nat} {h : Nat → ZSt} {s : ZSt}
set_option maxHeartbeats 2000000 in
theorem lo_au1 (S : zz_S G l RL cL_addsUp 7 5 n0 mcT msT isI (some .boolean) Qf w)
    (K : ∀ (im' : ZI) (x : Int32), zY im' s n h nw nc → w 26 [some (.ref 0), some (.int (nI (cs s nc 5))), some (.int 0), some (.int x), none, none, none] [] z zE im') :
    ∀ (m k : Nat) (x : Int32) (im : ZI), k + m = 5 → x = nI (k + 3) → zY im s n h nw nc → w 6 [some (.ref 0), some (.int (nI (cs s nc k))), some (.int 0), some (.int x), none, none, none] [] z zE im := by
  intro m
  induction m with
  | zero =>
    intro k x im hk hx hY
    have hk : k = 5 := by omega
    subst hk
    refine zz_iload_3 S dL_addsUp_6 (q := 7) rfl ?_
    refine zz_bipush S (v := 8) rfl dL_addsUp_7 (q := 9) rfl ?_
    refine zz_icmp_ge S dL_addsUp_9 (t := 26) (by decide) (q := 12) rfl (fun a1 => ?_) (fun a1 => ?_)
    -- then 26 else 12
    · exact K im x hY
    · exact absurd (by rw [hx]; decide) a1
  | succ m ih =>
    intro k x im hk hx hY
    refine zz_iload_3 S dL_addsUp_6 (q := 7) rfl ?_
    refine zz_bipush S (v := 8) rfl dL_addsUp_7 (q := 9) rfl ?_
    refine zz_icmp_ge S dL_addsUp_9 (t := 26) (by decide) (q := 12) rfl (fun a1 => ?_) (fun a1 => ?_)
    -- then 26 else 12
    · exact absurd ((zn_ge (a := k + 3) (b := 8) (by omega) (by omega)).mp (by rw [← hx]; exact a1)) (by omega)
    · subst hx
      refine zz_iload_1 S dL_addsUp_12 (q := 13) rfl ?_
      refine zz_aload_0 S dL_addsUp_13 (q := 14) rfl ?_
      refine zz_iload_3 S dL_addsUp_14 (q := 15) rfl ?_
      -- at 15: invokevirtual 12
      refine zz_virtI S yy_X7_count lL_12 (ci := 7) (by decide) rfl (lk_count (nI (k + 3)) hY) rfl (Nat.le_of_ble_eq_true rfl) (Nat.le_of_ble_eq_true rfl) rfl (Nat.le_of_ble_eq_true rfl) rfl dL_addsUp_15 (q := 18) rfl ?_
      rintro r1 im1 ⟨e1, hY1⟩
      rw [oc_st (by omega)] at e1
      subst e1
      refine zz_iadd S dL_addsUp_18 (q := 19) rfl ?_
      refine zz_istore_1 S rfl dL_addsUp_19 (q := 20) rfl ?_
      refine zz_iinc_3 S rfl dL_addsUp_20 (q := 23) rfl ?_
      refine zz_goto S dL_addsUp_23 (t := 6) (by decide) ?_
      -- at 6
      rw [nI_add, show cs s nc k + cn s (nI k) nc 0 = cs s nc (k + 1) from rfl]
      exact ih (k + 1) _ im1 (by omega) (nI_add (k + 3) 1) hY1
set_option maxHeartbeats 2000000 in
theorem lo_au2 (S : zz_S G l RL cL_addsUp 7 5 n0 mcT msT isI (some .boolean) Qf w) {R : Int32} {Q : Nat} (h2 : s 2 = nI Q) (hQ : Q < 1000) (hK : ∀ c, c < nc → sK s Q c)
    (K : ∀ (im' : ZI) (x : Int32), zY im' s n h nw nc → w 167 [some (.ref 0), some (.int R), some (.int (kg s nc)), some (.int x), none, none, none] [] z zE im') :
    ∀ (m c : Nat) (x : Int32) (im : ZI), c + m = nc → x = nI c → zY im s n h nw nc → w 28 [some (.ref 0), some (.int R), some (.int (kg s c)), some (.int x), none, none, none] [] z zE im := by
  intro m
  induction m with
  | zero =>
    intro c x im hk hx hY
    have hn := hY.2.1.2.2.2.1
    have hk : c = nc := by omega
    subst hk
    refine zz_iload_3 S dL_addsUp_28 (q := 29) rfl ?_
    refine zz_aload_0 S dL_addsUp_29 (q := 30) rfl ?_
    refine zz_iconst S (v := 2) rfl dL_addsUp_30 (q := 31) rfl ?_
    -- at 31: invokevirtual 12
    refine zz_virtI S yy_X7_count lL_12 (ci := 7) (by decide) rfl (lk_count 2 hY) rfl (Nat.le_of_ble_eq_true rfl) (Nat.le_of_ble_eq_true rfl) rfl (Nat.le_of_ble_eq_true rfl) rfl dL_addsUp_31 (q := 34) rfl ?_
    rintro r1 im1 ⟨e1, hY1⟩
    rw [oc_2, hY.2.1.2.2.1] at e1
    subst e1
    subst hx
    refine zz_icmp_ge S dL_addsUp_34 (t := 167) (by decide) (q := 37) rfl (fun a1 => ?_) (fun a1 => ?_)
    -- then 167 else 37
    · exact K im1 _ hY1
    · exact absurd ((zn_ge (a := c) (b := c) (by omega) (by omega)).mpr (Nat.le_refl _)) a1
  | succ m ih =>
    intro c x im hk hx hY
    have hn := hY.2.1.2.2.2.1
    have hI := hY.2.1
    have hc : c < nc := by omega
    refine zz_iload_3 S dL_addsUp_28 (q := 29) rfl ?_
    refine zz_aload_0 S dL_addsUp_29 (q := 30) rfl ?_
    refine zz_iconst S (v := 2) rfl dL_addsUp_30 (q := 31) rfl ?_
    -- at 31: invokevirtual 12
    refine zz_virtI S yy_X7_count lL_12 (ci := 7) (by decide) rfl (lk_count 2 hY) rfl (Nat.le_of_ble_eq_true rfl) (Nat.le_of_ble_eq_true rfl) rfl (Nat.le_of_ble_eq_true rfl) rfl dL_addsUp_31 (q := 34) rfl ?_
    rintro r1 im1 ⟨e1, hY1⟩
    rw [oc_2, hY.2.1.2.2.1] at e1
    subst e1
    subst hx
    refine zz_icmp_ge S dL_addsUp_34 (t := 167) (by decide) (q := 37) rfl (fun a1 => ?_) (fun a1 => ?_)
    -- then 167 else 37
    · exact absurd ((zn_ge (a := c) (b := nc) (by omega) (by omega)).mp a1) (by omega)
    · obtain ⟨k1, k2, k3⟩ := hK c hc
      refine zz_aload_0 S dL_addsUp_37 (q := 38) rfl ?_
      refine zz_iload_3 S dL_addsUp_38 (q := 39) rfl ?_
      refine zz_iconst S (v := 4) rfl dL_addsUp_39 (q := 40) rfl ?_
      -- at 40: invokevirtual 22
      refine zz_virtI S yy_X7_commission lL_22 (ci := 7) (by decide) rfl (lk_commission (nI c) 4 hY1) rfl (Nat.le_of_ble_eq_true rfl) (Nat.le_of_ble_eq_true rfl) rfl (Nat.le_of_ble_eq_true rfl) rfl dL_addsUp_40 (q := 43) rfl ?_
      rintro r2 im2 ⟨e2, hY2⟩
      rw [cc_4 hI hc] at e2
      subst e2
      -- behind the sum
      have T83 : ∀ (b : Int32) (im3 : ZI), (b = 1 ∧ cA s c ∨ b = 0 ∧ ¬ cA s c) → zY im3 s n h nw nc → w 83 [some (.ref 0), some (.int R), some (.int (kg s (c + 1))), some (.int (nI c)), some (.int (s (38 + 8 * c + 4))), some (.int b), none] [] z zE im3 := by
        intro b im3 hb hY3
        -- the end of a turn
        have T161 : ∀ im' : ZI, zY im' s n h nw nc → w 161 [some (.ref 0), some (.int R), some (.int (kg s (c + 1))), some (.int (nI c)), some (.int (s (38 + 8 * c + 4))), some (.int b), none] [] z zE im' := by
          intro im' hY'
          refine zz_iinc_3 S rfl dL_addsUp_161 (q := 164) rfl ?_
          refine zz_goto S dL_addsUp_164 (t := 28) (by decide) ?_
          -- at 28
          refine zz_msk S [true, true, true, true, false, false, false] ?_
          exact ih (c + 1) _ im' (by omega) (nI_add c 1) hY'
        have T137 : ∀ im' : ZI, zY im' s n h nw nc → w 137 [some (.ref 0), some (.int R), some (.int (kg s (c + 1))), some (.int (nI c)), some (.int (s (38 + 8 * c + 4))), some (.int b), none] [] z zE im' := by
          intro im' hY'
          refine zz_iload_4 S dL_addsUp_137 (q := 139) rfl ?_
          refine zz_if_le S dL_addsUp_139 (t := 161) (by decide) (q := 142) rfl (fun b1 => ?_) (fun b1 => ?_)
          -- then 161 else 142
          · exact T161 im' hY'
          · refine zz_iload_4 S dL_addsUp_142 (q := 144) rfl ?_
            refine zz_iconst S (v := 4) rfl dL_addsUp_144 (q := 145) rfl ?_
            refine zz_icmp_ge S dL_addsUp_145 (t := 161) (by decide) (q := 148) rfl (fun b2 => ?_) (fun b2 => ?_)
            -- then 161 else 148
            · exact T161 im' hY'
            · refine zz_aload_0 S dL_addsUp_148 (q := 149) rfl ?_
              refine zz_iload_3 S dL_addsUp_149 (q := 150) rfl ?_
              refine zz_iconst S (v := 5) rfl dL_addsUp_150 (q := 151) rfl ?_
              -- at 151: invokevirtual 22
              refine zz_virtI S yy_X7_commission lL_22 (ci := 7) (by decide) rfl (lk_commission (nI c) 5 hY') rfl (Nat.le_of_ble_eq_true rfl) (Nat.le_of_ble_eq_true rfl) rfl (Nat.le_of_ble_eq_true rfl) rfl dL_addsUp_151 (q := 154) rfl ?_
              rintro r5 im5 ⟨e5, hY5⟩
              rw [cc_5 hI hc] at e5
              subst e5
              refine zz_ldc S (v := (-100009)) kL_67 dL_addsUp_154 (q := 156) rfl ?_
              refine zz_icmp_ne S dL_addsUp_156 (t := 161) (by decide) (q := 159) rfl (fun b3 => ?_) (fun b3 => ?_)
              -- then 161 else 159
              · exact T161 im5 hY5
              · exact absurd b3 (cde_ne hI hc b1 b2)
        have T103 : ∀ im' : ZI, zY im' s n h nw nc → w 103 [some (.ref 0), some (.int R), some (.int (kg s (c + 1))), some (.int (nI c)), some (.int (s (38 + 8 * c + 4))), some (.int b), none] [] z zE im' := by
          intro im' hY'
          refine zz_aload_0 S dL_addsUp_103 (q := 104) rfl ?_
          refine zz_iload_3 S dL_addsUp_104 (q := 105) rfl ?_
          refine zz_bipush S (v := 7) rfl dL_addsUp_105 (q := 107) rfl ?_
          -- at 107: invokevirtual 22
          refine zz_virtI S yy_X7_commission lL_22 (ci := 7) (by decide) rfl (lk_commission (nI c) 7 hY') rfl (Nat.le_of_ble_eq_true rfl) (Nat.le_of_ble_eq_true rfl) rfl (Nat.le_of_ble_eq_true rfl) rfl dL_addsUp_107 (q := 110) rfl ?_
          rintro r5 im5 ⟨e5, hY5⟩
          rw [cc_7 hI hc] at e5
          subst e5
          refine zz_aload_0 S dL_addsUp_110 (q := 111) rfl ?_
          refine zz_bipush S (v := 8) rfl dL_addsUp_111 (q := 113) rfl ?_
          -- at 113: invokevirtual 12
          refine zz_virtI S yy_X7_count lL_12 (ci := 7) (by decide) rfl (lk_count 8 hY5) rfl (Nat.le_of_ble_eq_true rfl) (Nat.le_of_ble_eq_true rfl) rfl (Nat.le_of_ble_eq_true rfl) rfl dL_addsUp_113 (q := 116) rfl ?_
          rintro r6 im6 ⟨e6, hY6⟩
          rw [oc_8, h2] at e6
          subst e6
          refine zz_icmp_ge S dL_addsUp_116 (t := 135) (by decide) (q := 119) rfl (fun b1 => ?_) (fun b1 => ?_)
          -- then 135 else 119
          · exfalso
            rw [ge_iff_le, Int32.le_iff_toInt_le, nI_toInt (by omega)] at b1
            by_cases hA : cA s c
            · obtain ⟨q, q1, q2⟩ := k1 hA
              rw [q2, nI_toInt (by omega)] at b1
              omega
            · rw [k2 hA, show ((-100009 : Int32)).toInt = -100009 from rfl] at b1
              omega
          · refine zz_iload_4 S dL_addsUp_119 (q := 121) rfl ?_
            refine zz_iconst S (v := 4) rfl dL_addsUp_121 (q := 122) rfl ?_
            refine zz_icmp_ne S dL_addsUp_122 (t := 137) (by decide) (q := 125) rfl (fun b2 => ?_) (fun b2 => ?_)
            -- then 137 else 125
            · exact T137 im6 hY6
            · refine zz_aload_0 S dL_addsUp_125 (q := 126) rfl ?_
              refine zz_iload_3 S dL_addsUp_126 (q := 127) rfl ?_
              refine zz_bipush S (v := 8) rfl dL_addsUp_127 (q := 129) rfl ?_
              -- at 129: invokevirtual 22
              refine zz_virtI S yy_X7_commission lL_22 (ci := 7) (by decide) rfl (lk_commission (nI c) 8 hY6) rfl (Nat.le_of_ble_eq_true rfl) (Nat.le_of_ble_eq_true rfl) rfl (Nat.le_of_ble_eq_true rfl) rfl dL_addsUp_129 (q := 132) rfl ?_
              rintro r7 im7 ⟨e7, hY7⟩
              rw [cc_8 hI hc] at e7
              subst e7
              refine zz_if_ne S dL_addsUp_132 (t := 137) (by decide) (q := 135) rfl (fun b3 => ?_) (fun b3 => ?_)
              -- then 137 else 135
              · exact T137 im7 hY7
              · exact absurd b3 (k3 b2)
        refine zz_iload_5 S dL_addsUp_83 (q := 85) rfl ?_
        refine zz_aload_0 S dL_addsUp_85 (q := 86) rfl ?_
        refine zz_iload_3 S dL_addsUp_86 (q := 87) rfl ?_
        refine zz_bipush S (v := 7) rfl dL_addsUp_87 (q := 89) rfl ?_
        -- at 89: invokevirtual 22
        refine zz_virtI S yy_X7_commission lL_22 (ci := 7) (by decide) rfl (lk_commission (nI c) 7 hY3) rfl (Nat.le_of_ble_eq_true rfl) (Nat.le_of_ble_eq_true rfl) rfl (Nat.le_of_ble_eq_true rfl) rfl dL_addsUp_89 (q := 92) rfl ?_
        rintro r4 im4 ⟨e4, hY4⟩
        rw [cc_7 hI hc] at e4
        subst e4
        refine zz_if_lt S dL_addsUp_92 (t := 99) (by decide) (q := 95) rfl (fun b1 => ?_) (fun b1 => ?_)
        -- then 99 else 95
        · refine zz_iconst S (v := 0) rfl dL_addsUp_99 (q := 100) rfl ?_
          refine zz_icmp_ne S dL_addsUp_100 (t := 135) (by decide) (q := 103) rfl (fun b2 => ?_) (fun b2 => ?_)
          -- then 135 else 103
          · exfalso
            rcases hb with ⟨-, hA⟩ | ⟨hb, -⟩
            · obtain ⟨q, q1, q2⟩ := k1 hA
              rw [q2, Int32.lt_iff_toInt_lt, nI_toInt (by omega), show ((0 : Int32)).toInt = 0 from rfl] at b1
              omega
            · exact b2 hb
          · exact T103 im4 hY4
        · refine zz_iconst S (v := 1) rfl dL_addsUp_95 (q := 96) rfl ?_
          refine zz_goto S dL_addsUp_96 (t := 100) (by decide) ?_
          refine zz_icmp_ne S dL_addsUp_100 (t := 135) (by decide) (q := 103) rfl (fun b2 => ?_) (fun b2 => ?_)
          -- then 135 else 103
          · exfalso
            rcases hb with ⟨hb, -⟩ | ⟨-, hA⟩
            · exact b2 hb
            · exact b1 (by rw [k2 hA]; decide)
          · exact T103 im4 hY4
      have T64 : ∀ b : Int32, (b = 1 ∧ cA s c ∨ b = 0 ∧ ¬ cA s c) → w 64 [some (.ref 0), some (.int R), some (.int (kg s c)), some (.int (nI c)), some (.int (s (38 + 8 * c + 4))), some (.int b), none] [] z zE im2 := by
        intro b hb
        refine zz_iload_2 S dL_addsUp_64 (q := 65) rfl ?_
        refine zz_iload_5 S dL_addsUp_65 (q := 67) rfl ?_
        refine zz_if_eq S dL_addsUp_67 (t := 80) (by decide) (q := 70) rfl (fun b1 => ?_) (fun b1 => ?_)
        -- then 80 else 70
        · refine zz_iconst S (v := 0) rfl dL_addsUp_80 (q := 81) rfl ?_
          refine zz_iadd S dL_addsUp_81 (q := 82) rfl ?_
          refine zz_istore_2 S rfl dL_addsUp_82 (q := 83) rfl ?_
          -- at 83
          rw [show kg s c + 0 = kg s (c + 1) by
            rw [kg, if_neg]
            rcases hb with ⟨e, -⟩ | ⟨-, e⟩
            · rw [e] at b1; exact absurd b1 (by decide)
            · exact e]
          exact T83 b im2 hb hY2
        · refine zz_aload_0 S dL_addsUp_70 (q := 71) rfl ?_
          refine zz_iload_3 S dL_addsUp_71 (q := 72) rfl ?_
          refine zz_bipush S (v := 6) rfl dL_addsUp_72 (q := 74) rfl ?_
          -- at 74: invokevirtual 22
          refine zz_virtI S yy_X7_commission lL_22 (ci := 7) (by decide) rfl (lk_commission (nI c) 6 hY2) rfl (Nat.le_of_ble_eq_true rfl) (Nat.le_of_ble_eq_true rfl) rfl (Nat.le_of_ble_eq_true rfl) rfl dL_addsUp_74 (q := 77) rfl ?_
          rintro r3 im3 ⟨e3, hY3⟩
          rw [cc_6 hI hc] at e3
          subst e3
          refine zz_goto S dL_addsUp_77 (t := 81) (by decide) ?_
          refine zz_iadd S dL_addsUp_81 (q := 82) rfl ?_
          refine zz_istore_2 S rfl dL_addsUp_82 (q := 83) rfl ?_
          -- at 83
          rw [show kg s c + sp_wt s c = kg s (c + 1) by
            rw [kg, if_pos]
            rcases hb with ⟨-, e⟩ | ⟨e, -⟩
            · exact e
            · exact absurd e b1]
          exact T83 b im3 hb hY3
      refine zz_istore_4 S rfl dL_addsUp_43 (q := 45) rfl ?_
      refine zz_iload_4 S dL_addsUp_45 (q := 47) rfl ?_
      refine zz_iconst S (v := 2) rfl dL_addsUp_47 (q := 48) rfl ?_
      refine zz_icmp_eq S dL_addsUp_48 (t := 57) (by decide) (q := 51) rfl (fun b1 => ?_) (fun b1 => ?_)
      -- then 57 else 51
      · refine zz_iconst S (v := 1) rfl dL_addsUp_57 (q := 58) rfl ?_
        refine zz_goto S dL_addsUp_58 (t := 62) (by decide) ?_
        refine zz_istore_5 S rfl dL_addsUp_62 (q := 64) rfl ?_
        -- at 64
        exact T64 1 (Or.inl ⟨rfl, Or.inl b1⟩)
      · refine zz_iload_4 S dL_addsUp_51 (q := 53) rfl ?_
        refine zz_iconst S (v := 3) rfl dL_addsUp_53 (q := 54) rfl ?_
        refine zz_icmp_ne S dL_addsUp_54 (t := 61) (by decide) (q := 57) rfl (fun b2 => ?_) (fun b2 => ?_)
        -- then 61 else 57
        · refine zz_iconst S (v := 0) rfl dL_addsUp_61 (q := 62) rfl ?_
          refine zz_istore_5 S rfl dL_addsUp_62 (q := 64) rfl ?_
          -- at 64
          exact T64 0 (Or.inr ⟨rfl, fun e => e.elim b1 b2⟩)
        · refine zz_iconst S (v := 1) rfl dL_addsUp_57 (q := 58) rfl ?_
          refine zz_goto S dL_addsUp_58 (t := 62) (by decide) ?_
          refine zz_istore_5 S rfl dL_addsUp_62 (q := 64) rfl ?_
          -- at 64
          exact T64 1 (Or.inl ⟨rfl, Or.inr b2⟩)
set_option maxHeartbeats 2000000 in
theorem lo_au3 (S : zz_S G l RL cL_addsUp 7 5 n0 mcT msT isI (some .boolean) Qf w) {R1 R2 : Int32}
    (K : ∀ (im' : ZI) (x : Int32), zY im' s n h nw nc → w 259 [some (.ref 0), some (.int R1), some (.int R2), some (.int x), none, none, none] [] z zE im') :
    ∀ (m c : Nat) (x : Int32) (im : ZI), c + m = nw → x = nI c → zY im s n h nw nc → w 169 [some (.ref 0), some (.int R1), some (.int R2), some (.int x), none, none, none] [] z zE im := by
  intro m
  induction m with
  | zero =>
    intro c x im hk hx hY
    have hn := hY.2.1.2.1
    have hk : c = nw := by omega
    subst hk
    refine zz_iload_3 S dL_addsUp_169 (q := 170) rfl ?_
    refine zz_aload_0 S dL_addsUp_170 (q := 171) rfl ?_
    refine zz_iconst S (v := 0) rfl dL_addsUp_171 (q := 172) rfl ?_
    -- at 172: invokevirtual 12
    refine zz_virtI S yy_X7_count lL_12 (ci := 7) (by decide) rfl (lk_count 0 hY) rfl (Nat.le_of_ble_eq_true rfl) (Nat.le_of_ble_eq_true rfl) rfl (Nat.le_of_ble_eq_true rfl) rfl dL_addsUp_172 (q := 175) rfl ?_
    rintro r1 im1 ⟨e1, hY1⟩
    rw [oc_0, hY.2.1.1] at e1
    subst e1
    subst hx
    refine zz_icmp_ge S dL_addsUp_175 (t := 259) (by decide) (q := 178) rfl (fun a1 => ?_) (fun a1 => ?_)
    -- then 259 else 178
    · exact K im1 _ hY1
    · exact absurd ((zn_ge (a := c) (b := c) (by omega) (by omega)).mpr (Nat.le_refl _)) a1
  | succ m ih =>
    intro c x im hk hx hY
    have hn := hY.2.1.2.1
    have hI := hY.2.1
    have hc : c < nw := by omega
    refine zz_iload_3 S dL_addsUp_169 (q := 170) rfl ?_
    refine zz_aload_0 S dL_addsUp_170 (q := 171) rfl ?_
    refine zz_iconst S (v := 0) rfl dL_addsUp_171 (q := 172) rfl ?_
    -- at 172: invokevirtual 12
    refine zz_virtI S yy_X7_count lL_12 (ci := 7) (by decide) rfl (lk_count 0 hY) rfl (Nat.le_of_ble_eq_true rfl) (Nat.le_of_ble_eq_true rfl) rfl (Nat.le_of_ble_eq_true rfl) rfl dL_addsUp_172 (q := 175) rfl ?_
    rintro r1 im1 ⟨e1, hY1⟩
    rw [oc_0, hY.2.1.1] at e1
    subst e1
    subst hx
    refine zz_icmp_ge S dL_addsUp_175 (t := 259) (by decide) (q := 178) rfl (fun a1 => ?_) (fun a1 => ?_)
    -- then 259 else 178
    · exact absurd ((zn_ge (a := c) (b := nw) (by omega) (by omega)).mp a1) (by omega)
    · refine zz_aload_0 S dL_addsUp_178 (q := 179) rfl ?_
      refine zz_iload_3 S dL_addsUp_179 (q := 180) rfl ?_
      refine zz_iconst S (v := 0) rfl dL_addsUp_180 (q := 181) rfl ?_
      -- at 181: invokevirtual 18
      refine zz_virtI S yy_X7_wall lL_18 (ci := 7) (by decide) rfl (lk_wall (nI c) 0 hY1) rfl (Nat.le_of_ble_eq_true rfl) (Nat.le_of_ble_eq_true rfl) rfl (Nat.le_of_ble_eq_true rfl) rfl dL_addsUp_181 (q := 184) rfl ?_
      rintro r2 im2 ⟨e2, hY2⟩
      rw [cw_a hI hc] at e2
      subst e2
      refine zz_istore_4 S rfl dL_addsUp_184 (q := 186) rfl ?_
      refine zz_aload_0 S dL_addsUp_186 (q := 187) rfl ?_
      refine zz_iload_3 S dL_addsUp_187 (q := 188) rfl ?_
      refine zz_iconst S (v := 1) rfl dL_addsUp_188 (q := 189) rfl ?_
      -- at 189: invokevirtual 18
      refine zz_virtI S yy_X7_wall lL_18 (ci := 7) (by decide) rfl (lk_wall (nI c) 1 hY2) rfl (Nat.le_of_ble_eq_true rfl) (Nat.le_of_ble_eq_true rfl) rfl (Nat.le_of_ble_eq_true rfl) rfl dL_addsUp_189 (q := 192) rfl ?_
      rintro r3 im3 ⟨e3, hY3⟩
      rw [cw_b hI hc] at e3
      subst e3
      refine zz_istore_5 S rfl dL_addsUp_192 (q := 194) rfl ?_
      refine zz_aload_0 S dL_addsUp_194 (q := 195) rfl ?_
      refine zz_iload_3 S dL_addsUp_195 (q := 196) rfl ?_
      refine zz_iconst S (v := 2) rfl dL_addsUp_196 (q := 197) rfl ?_
      -- at 197: invokevirtual 18
      refine zz_virtI S yy_X7_wall lL_18 (ci := 7) (by decide) rfl (lk_wall (nI c) 2 hY3) rfl (Nat.le_of_ble_eq_true rfl) (Nat.le_of_ble_eq_true rfl) rfl (Nat.le_of_ble_eq_true rfl) rfl dL_addsUp_197 (q := 200) rfl ?_
      rintro r4 im4 ⟨e4, hY4⟩
      rw [cw_d hI hc] at e4
      subst e4
      refine zz_istore_6 S rfl dL_addsUp_200 (q := 202) rfl ?_
      -- at 202
      obtain ⟨f1, f2, f3⟩ := zw_wall hI hc
      refine zz_iload_6 S dL_addsUp_202 (q := 204) rfl ?_
      refine zz_ldc S (v := (-100009)) kL_67 dL_addsUp_204 (q := 206) rfl ?_
      refine zz_icmp_eq S dL_addsUp_206 (t := 237) (by decide) (q := 209) rfl (fun b1 => ?_) (fun b1 => ?_)
      · refine zz_iload_4 S dL_addsUp_237 (q := 239) rfl ?_
        refine zz_ldc S (v := (-100009)) kL_67 dL_addsUp_239 (q := 241) rfl ?_
        refine zz_icmp_ne S dL_addsUp_241 (t := 253) (by decide) (q := 244) rfl (fun b2 => ?_) (fun b2 => ?_)
        · refine zz_iinc_3 S rfl dL_addsUp_253 (q := 256) rfl ?_
          refine zz_goto S dL_addsUp_256 (t := 169) (by decide) ?_
          refine zz_msk S [true, true, true, true, false, false, false] ?_
          exact ih (c + 1) _ im4 (by omega) (nI_add c 1) hY4
        · refine zz_iload_5 S dL_addsUp_244 (q := 246) rfl ?_
          refine zz_ldc S (v := (-100009)) kL_67 dL_addsUp_246 (q := 248) rfl ?_
          refine zz_icmp_eq S dL_addsUp_248 (t := 253) (by decide) (q := 251) rfl (fun b3 => ?_) (fun b3 => ?_)
          · refine zz_iinc_3 S rfl dL_addsUp_253 (q := 256) rfl ?_
            refine zz_goto S dL_addsUp_256 (t := 169) (by decide) ?_
            refine zz_msk S [true, true, true, true, false, false, false] ?_
            exact ih (c + 1) _ im4 (by omega) (nI_add c 1) hY4
          · first | exact (f1 ‹_› ‹_› ‹_›).elim | exact (f2 ‹_› ‹_› ‹_›).elim | exact (f3 ‹_› ‹_›).elim
      · refine zz_iload_6 S dL_addsUp_209 (q := 211) rfl ?_
        refine zz_iload_4 S dL_addsUp_211 (q := 213) rfl ?_
        refine zz_icmp_ge S dL_addsUp_213 (t := 223) (by decide) (q := 216) rfl (fun b2 => ?_) (fun b2 => ?_)
        · refine zz_iload_6 S dL_addsUp_223 (q := 225) rfl ?_
          refine zz_iload_4 S dL_addsUp_225 (q := 227) rfl ?_
          refine zz_icmp_le S dL_addsUp_227 (t := 237) (by decide) (q := 230) rfl (fun b3 => ?_) (fun b3 => ?_)
          · refine zz_iload_4 S dL_addsUp_237 (q := 239) rfl ?_
            refine zz_ldc S (v := (-100009)) kL_67 dL_addsUp_239 (q := 241) rfl ?_
            refine zz_icmp_ne S dL_addsUp_241 (t := 253) (by decide) (q := 244) rfl (fun b4 => ?_) (fun b4 => ?_)
            · refine zz_iinc_3 S rfl dL_addsUp_253 (q := 256) rfl ?_
              refine zz_goto S dL_addsUp_256 (t := 169) (by decide) ?_
              refine zz_msk S [true, true, true, true, false, false, false] ?_
              exact ih (c + 1) _ im4 (by omega) (nI_add c 1) hY4
            · refine zz_iload_5 S dL_addsUp_244 (q := 246) rfl ?_
              refine zz_ldc S (v := (-100009)) kL_67 dL_addsUp_246 (q := 248) rfl ?_
              refine zz_icmp_eq S dL_addsUp_248 (t := 253) (by decide) (q := 251) rfl (fun b5 => ?_) (fun b5 => ?_)
              · refine zz_iinc_3 S rfl dL_addsUp_253 (q := 256) rfl ?_
                refine zz_goto S dL_addsUp_256 (t := 169) (by decide) ?_
                refine zz_msk S [true, true, true, true, false, false, false] ?_
                exact ih (c + 1) _ im4 (by omega) (nI_add c 1) hY4
              · first | exact (f1 ‹_› ‹_› ‹_›).elim | exact (f2 ‹_› ‹_› ‹_›).elim | exact (f3 ‹_› ‹_›).elim
          · refine zz_iload_6 S dL_addsUp_230 (q := 232) rfl ?_
            refine zz_iload_5 S dL_addsUp_232 (q := 234) rfl ?_
            refine zz_icmp_gt S dL_addsUp_234 (t := 251) (by decide) (q := 237) rfl (fun b4 => ?_) (fun b4 => ?_)
            · first | exact (f1 ‹_› ‹_› ‹_›).elim | exact (f2 ‹_› ‹_› ‹_›).elim | exact (f3 ‹_› ‹_›).elim
            · refine zz_iload_4 S dL_addsUp_237 (q := 239) rfl ?_
              refine zz_ldc S (v := (-100009)) kL_67 dL_addsUp_239 (q := 241) rfl ?_
              refine zz_icmp_ne S dL_addsUp_241 (t := 253) (by decide) (q := 244) rfl (fun b5 => ?_) (fun b5 => ?_)
              · refine zz_iinc_3 S rfl dL_addsUp_253 (q := 256) rfl ?_
                refine zz_goto S dL_addsUp_256 (t := 169) (by decide) ?_
                refine zz_msk S [true, true, true, true, false, false, false] ?_
                exact ih (c + 1) _ im4 (by omega) (nI_add c 1) hY4
              · refine zz_iload_5 S dL_addsUp_244 (q := 246) rfl ?_
                refine zz_ldc S (v := (-100009)) kL_67 dL_addsUp_246 (q := 248) rfl ?_
                refine zz_icmp_eq S dL_addsUp_248 (t := 253) (by decide) (q := 251) rfl (fun b6 => ?_) (fun b6 => ?_)
                · refine zz_iinc_3 S rfl dL_addsUp_253 (q := 256) rfl ?_
                  refine zz_goto S dL_addsUp_256 (t := 169) (by decide) ?_
                  refine zz_msk S [true, true, true, true, false, false, false] ?_
                  exact ih (c + 1) _ im4 (by omega) (nI_add c 1) hY4
                · first | exact (f1 ‹_› ‹_› ‹_›).elim | exact (f2 ‹_› ‹_› ‹_›).elim | exact (f3 ‹_› ‹_›).elim
        · refine zz_iload_6 S dL_addsUp_216 (q := 218) rfl ?_
          refine zz_iload_5 S dL_addsUp_218 (q := 220) rfl ?_
          refine zz_icmp_lt S dL_addsUp_220 (t := 251) (by decide) (q := 223) rfl (fun b3 => ?_) (fun b3 => ?_)
          · first | exact (f1 ‹_› ‹_› ‹_›).elim | exact (f2 ‹_› ‹_› ‹_›).elim | exact (f3 ‹_› ‹_›).elim
          · refine zz_iload_6 S dL_addsUp_223 (q := 225) rfl ?_
            refine zz_iload_4 S dL_addsUp_225 (q := 227) rfl ?_
            refine zz_icmp_le S dL_addsUp_227 (t := 237) (by decide) (q := 230) rfl (fun b4 => ?_) (fun b4 => ?_)
            · refine zz_iload_4 S dL_addsUp_237 (q := 239) rfl ?_
              refine zz_ldc S (v := (-100009)) kL_67 dL_addsUp_239 (q := 241) rfl ?_
              refine zz_icmp_ne S dL_addsUp_241 (t := 253) (by decide) (q := 244) rfl (fun b5 => ?_) (fun b5 => ?_)
              · refine zz_iinc_3 S rfl dL_addsUp_253 (q := 256) rfl ?_
                refine zz_goto S dL_addsUp_256 (t := 169) (by decide) ?_
                refine zz_msk S [true, true, true, true, false, false, false] ?_
                exact ih (c + 1) _ im4 (by omega) (nI_add c 1) hY4
              · refine zz_iload_5 S dL_addsUp_244 (q := 246) rfl ?_
                refine zz_ldc S (v := (-100009)) kL_67 dL_addsUp_246 (q := 248) rfl ?_
                refine zz_icmp_eq S dL_addsUp_248 (t := 253) (by decide) (q := 251) rfl (fun b6 => ?_) (fun b6 => ?_)
                · refine zz_iinc_3 S rfl dL_addsUp_253 (q := 256) rfl ?_
                  refine zz_goto S dL_addsUp_256 (t := 169) (by decide) ?_
                  refine zz_msk S [true, true, true, true, false, false, false] ?_
                  exact ih (c + 1) _ im4 (by omega) (nI_add c 1) hY4
                · first | exact (f1 ‹_› ‹_› ‹_›).elim | exact (f2 ‹_› ‹_› ‹_›).elim | exact (f3 ‹_› ‹_›).elim
            · refine zz_iload_6 S dL_addsUp_230 (q := 232) rfl ?_
              refine zz_iload_5 S dL_addsUp_232 (q := 234) rfl ?_
              refine zz_icmp_gt S dL_addsUp_234 (t := 251) (by decide) (q := 237) rfl (fun b5 => ?_) (fun b5 => ?_)
              · first | exact (f1 ‹_› ‹_› ‹_›).elim | exact (f2 ‹_› ‹_› ‹_›).elim | exact (f3 ‹_› ‹_›).elim
              · refine zz_iload_4 S dL_addsUp_237 (q := 239) rfl ?_
                refine zz_ldc S (v := (-100009)) kL_67 dL_addsUp_239 (q := 241) rfl ?_
                refine zz_icmp_ne S dL_addsUp_241 (t := 253) (by decide) (q := 244) rfl (fun b6 => ?_) (fun b6 => ?_)
                · refine zz_iinc_3 S rfl dL_addsUp_253 (q := 256) rfl ?_
                  refine zz_goto S dL_addsUp_256 (t := 169) (by decide) ?_
                  refine zz_msk S [true, true, true, true, false, false, false] ?_
                  exact ih (c + 1) _ im4 (by omega) (nI_add c 1) hY4
                · refine zz_iload_5 S dL_addsUp_244 (q := 246) rfl ?_
                  refine zz_ldc S (v := (-100009)) kL_67 dL_addsUp_246 (q := 248) rfl ?_
                  refine zz_icmp_eq S dL_addsUp_248 (t := 253) (by decide) (q := 251) rfl (fun b7 => ?_) (fun b7 => ?_)
                  · refine zz_iinc_3 S rfl dL_addsUp_253 (q := 256) rfl ?_
                    refine zz_goto S dL_addsUp_256 (t := 169) (by decide) ?_
                    refine zz_msk S [true, true, true, true, false, false, false] ?_
                    exact ih (c + 1) _ im4 (by omega) (nI_add c 1) hY4
                  · first | exact (f1 ‹_› ‹_› ‹_›).elim | exact (f2 ‹_› ‹_› ‹_›).elim | exact (f3 ‹_› ‹_›).elim
set_option maxHeartbeats 2000000 in
theorem ll_addsUp {im : ZI} {N : Nat} (hY : zY im s n h nw nc) (hJ : sJ s nc N) (hN : N < 1000) : zz_OI G l 5 mL_addsUp [.ref 0] zE im (fun r im' => r = 1 ∧ zY im' s n h nw nc) := by
  obtain ⟨Q, hQ, h2, h3, hK⟩ := hJ
  have hI := hY.2.1
  refine zz_intro (isI := false) (by decide) rfl (Nat.le_of_ble_eq_true rfl) (fun h => by cases h) (fun w S => ?_)
  refine zz_iconst S (v := 0) rfl dL_addsUp_0 (q := 1) rfl ?_
  refine zz_istore_1 S rfl dL_addsUp_1 (q := 2) rfl ?_
  refine zz_iconst S (v := 0) rfl dL_addsUp_2 (q := 3) rfl ?_
  refine zz_istore_2 S rfl dL_addsUp_3 (q := 4) rfl ?_
  refine zz_iconst S (v := 3) rfl dL_addsUp_4 (q := 5) rfl ?_
  refine zz_istore_3 S rfl dL_addsUp_5 (q := 6) rfl ?_
  -- at 6
  refine lo_au1 S (fun im1 x1 hY1 => ?_) 5 0 _ im (by omega) rfl hY
  refine zz_iconst S (v := 0) rfl dL_addsUp_26 (q := 27) rfl ?_
  refine zz_istore_3 S rfl dL_addsUp_27 (q := 28) rfl ?_
  -- at 28
  refine lo_au2 S h2 (by omega) hK (fun im2 x2 hY2 => ?_) nc 0 _ im1 (by omega) rfl hY1
  refine zz_iconst S (v := 0) rfl dL_addsUp_167 (q := 168) rfl ?_
  refine zz_istore_3 S rfl dL_addsUp_168 (q := 169) rfl ?_
  -- at 169
  refine lo_au3 S (fun im3 x3 hY3 => ?_) nw 0 _ im2 (by omega) rfl hY2
  refine zz_iload_1 S dL_addsUp_259 (q := 260) rfl ?_
  refine zz_aload_0 S dL_addsUp_260 (q := 261) rfl ?_
  refine zz_iconst S (v := 2) rfl dL_addsUp_261 (q := 262) rfl ?_
  -- at 262: invokevirtual 12
  refine zz_virtI S yy_X7_count lL_12 (ci := 7) (by decide) rfl (lk_count 2 hY3) rfl (Nat.le_of_ble_eq_true rfl) (Nat.le_of_ble_eq_true rfl) rfl (Nat.le_of_ble_eq_true rfl) rfl dL_addsUp_262 (q := 265) rfl ?_
  rintro r4 im4 ⟨e4, hY4⟩
  rw [oc_2, hI.2.2.1] at e4
  subst e4
  refine zz_icmp_ne S dL_addsUp_265 (t := 282) (by decide) (q := 268) rfl (fun a1 => ?_) (fun a1 => ?_)
  -- then 282 else 268
  · exact absurd (by rw [cs_5 hI]) a1
  · refine zz_iload_2 S dL_addsUp_268 (q := 269) rfl ?_
    refine zz_aload_0 S dL_addsUp_269 (q := 270) rfl ?_
    refine zz_bipush S (v := 9) rfl dL_addsUp_270 (q := 272) rfl ?_
    -- at 272: invokevirtual 12
    refine zz_virtI S yy_X7_count lL_12 (ci := 7) (by decide) rfl (lk_count 9 hY4) rfl (Nat.le_of_ble_eq_true rfl) (Nat.le_of_ble_eq_true rfl) rfl (Nat.le_of_ble_eq_true rfl) rfl dL_addsUp_272 (q := 275) rfl ?_
    rintro r5 im5 ⟨e5, hY5⟩
    rw [oc_9, h3] at e5
    subst e5
    refine zz_icmp_ne S dL_addsUp_275 (t := 282) (by decide) (q := 278) rfl (fun a2 => ?_) (fun a2 => ?_)
    -- then 282 else 278
    · exact absurd rfl a2
    · refine zz_iconst S (v := 1) rfl dL_addsUp_278 (q := 279) rfl ?_
      refine zz_goto S dL_addsUp_279 (t := 283) (by decide) ?_
      -- at 283: ireturn 
      refine zz_zret S rfl dL_addsUp_283 ⟨rfl, _, rfl, rfl, ?_⟩
      exact ⟨rfl, hY5⟩
end ZADD
