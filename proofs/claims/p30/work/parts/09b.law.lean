/-! THE LAW, walked: its loop -/
section ZLAWP
variable {G : ZG} {l : Launch} {w : Nat → ZL → List Value → Nat → ZE → ZI → Prop} {z : Nat}
abbrev zLS (G : ZG) (l : Launch) (w : Nat → ZL → List Value → Nat → ZE → ZI → Prop) : Prop := zz_S G l RL cL_law 10 9 0 470 3707 false (some .boolean) (fun v _ _ => v = some (.int 1)) w
theorem ie_P {r : Int32} (h : isErr r) : (if r = -100001 ∨ r = -100002 ∨ r = -100003 then (1 : Int32) else 0) = 1 := if_pos h
theorem ie_N {r : Int32} (h : ¬ isErr r) : (if r = -100001 ∨ r = -100002 ∨ r = -100003 then (1 : Int32) else 0) = 0 := if_neg h
theorem lcmp_eq (x : Int64) : lg_cmp x x = 0 := by rw [lg_cmp_eq]
set_option maxHeartbeats 2000000 in
theorem lo_law (S : zLS G l w) (hL : zz_sL G ≤ 260) {v : Int32}
    (K : ∀ (im' : ZI) (s' : ZSt) (n' : Nat) (h' : Nat → ZSt) (nw' nc' : Nat) (x : Int32), zY im' s' n' h' nw' nc' → 1 ≤ nc' → sJ s' nc' 100 → w 245 [some (.ref 1050), some (.ref 0), some (.int v), some (.int x), none, none, none, none, none, none] [] z zE im') :
    ∀ (m t : Nat) (x : Int32) (im : ZI) (s : ZSt) (n : Nat) (h : Nat → ZSt) (nw nc : Nat), t + m = 18 → x = nI t → zY im s n h nw nc → 1 ≤ nc → sJ s nc (t + 5) → w 77 [some (.ref 1050), some (.ref 0), some (.int v), some (.int x), none, none, none, none, none, none] [] z zE im := by
  intro m
  induction m with
  | zero =>
    intro t x im s n h nw nc ht hx hY h1 hJ
    refine zz_iload_3 S dL_law_77 (q := 78) rfl ?_
    refine zz_bipush S (v := 18) rfl dL_law_78 (q := 80) rfl ?_
    refine zz_icmp_ge S dL_law_80 (t := 245) (by decide) (q := 83) rfl (fun a1 => ?_) (fun a1 => ?_)
    -- then 245 else 83
    · exact K im s n h nw nc x hY h1 (sJ_le hJ (by omega))
    · exact absurd (by rw [hx, show t = 18 by omega]; decide) a1
  | succ m ih =>
    intro t x im s n h nw nc ht hx hY h1 hJ
    refine zz_iload_3 S dL_law_77 (q := 78) rfl ?_
    refine zz_bipush S (v := 18) rfl dL_law_78 (q := 80) rfl ?_
    refine zz_icmp_ge S dL_law_80 (t := 245) (by decide) (q := 83) rfl (fun a1 => ?_) (fun a1 => ?_)
    -- then 245 else 83
    · exact absurd ((zn_ge (a := t) (b := 18) (by omega) (by omega)).mp (by rw [← hx]; exact a1)) (by omega)
    · have T230 : ∀ (im' : ZI) (s' : ZSt) (n' : Nat) (h' : Nat → ZSt) (nw' nc' : Nat) (y4 y7 y8 y9 : Int32) (y5 : Int64), zY im' s' n' h' nw' nc' → 1 ≤ nc' → sJ s' nc' (t + 5 + 1) → w 230 [some (.ref 1050), some (.ref 0), some (.int v), some (.int x), some (.int y4), some (.long y5), none, some (.int y7), some (.int y8), some (.int y9)] [] z zE im' := by
        intro im0 s' n' h' nw' nc' y4 y7 y8 y9 y5 hY' h1' hJ'
        refine zz_aload_1 S dL_law_230 (q := 231) rfl ?_
        -- at 231: invokestatic 103
        refine zz_statI S yy_L_addsUp lL_103 (ll_addsUp hY' hJ' (by omega)) rfl (Nat.le_of_ble_eq_true rfl) (Nat.le_of_ble_eq_true rfl) rfl dL_law_231 (q := 234) rfl ?_
        rintro r1 im1 ⟨e1, hY1⟩
        subst e1
        refine zz_if_ne S dL_law_234 (t := 239) (by decide) (q := 237) rfl (fun b1 => ?_) (fun b1 => ?_)
        -- then 239 else 237
        · refine zz_iinc_3 S rfl dL_law_239 (q := 242) rfl ?_
          refine zz_goto S dL_law_242 (t := 77) (by decide) ?_
          -- at 77
          refine zz_msk S [true, true, true, true, false, false, false, false, false, false] ?_
          exact ih (t + 1) _ im1 s' n' h' nw' nc' (by omega) (by rw [hx]; exact nI_add t 1) hY1 h1' (sJ_le hJ' (by omega))
        · exact absurd b1 (by decide)
      have hI := hY.2.1
      refine zz_aload_0 S dL_law_83 (q := 84) rfl ?_
      refine zz_iload_3 S dL_law_84 (q := 85) rfl ?_
      -- at 85: invokestatic 81
      refine zz_statI S yy_L_cell lL_81 (ll_cell x t hx (by omega) hL) rfl (Nat.le_of_ble_eq_true rfl) (Nat.le_of_ble_eq_true rfl) rfl dL_law_85 (q := 88) rfl ?_
      rintro a im1 rfl
      refine zz_istore_4 S rfl dL_law_88 (q := 90) rfl ?_
      refine zz_aload_1 S dL_law_90 (q := 91) rfl ?_
      -- at 91: invokestatic 85
      refine zz_statL S yy_L_digest lL_85 (ll_digest hY) rfl (Nat.le_of_ble_eq_true rfl) (Nat.le_of_ble_eq_true rfl) rfl dL_law_91 (q := 94) rfl ?_
      rintro d1 im2 ⟨e1, hY2⟩
      subst e1
      refine zz_lstore_5 S rfl dL_law_94 (q := 96) rfl ?_
      refine zz_iload_4 S dL_law_96 (q := 98) rfl ?_
      refine zz_iconst S (v := 4) rfl dL_law_98 (q := 99) rfl ?_
      refine zz_ishr S dL_law_99 (q := 100) rfl ?_
      refine zz_aload_1 S dL_law_100 (q := 101) rfl ?_
      refine zz_iconst S (v := 2) rfl dL_law_101 (q := 102) rfl ?_
      -- at 102: invokevirtual 12
      refine zz_virtI S yy_X7_count lL_12 (ci := 7) (by decide) rfl (lk_count 2 hY2) rfl (Nat.le_of_ble_eq_true rfl) (Nat.le_of_ble_eq_true rfl) rfl (Nat.le_of_ble_eq_true rfl) rfl dL_law_102 (q := 105) rfl ?_
      rintro r3 im3 ⟨e3, hY3⟩
      rw [oc_2] at e3
      subst e3
      refine zz_iconst S (v := 1) rfl dL_law_105 (q := 106) rfl ?_
      refine zz_iadd S dL_law_106 (q := 107) rfl ?_
      -- at 107: invokestatic 28
      refine zz_statP S yy_L_low lL_28 (ll_low (sr a 4) (s 1 + 1) (sN_ne hI.2.2.1 hI.2.2.2.1) zE im3) rfl (Nat.le_of_ble_eq_true rfl) (Nat.le_of_ble_eq_true rfl) rfl dL_law_107 (q := 110) rfl ?_
      refine zz_istore_7 S rfl dL_law_110 (q := 112) rfl ?_
      -- at 112
      obtain ⟨r0, hP, hr9⟩ := aP_all hI hJ a
      -- with the reason
      have T132 : ∀ (rs : Int32) (im' : ZI), zY im' s n h nw nc → (a &&& 15 = 9 → rs = ol_reason s (lw (sr a 4) (s 1 + 1))) → w 132 [some (.ref 1050), some (.ref 0), some (.int v), some (.int x), some (.int a), some (.long (dg s nw nc)), none, some (.int (lw (sr a 4) (s 1 + 1))), none, none] [.int rs] z zE im' := by
        intro rs im4 hY4 hrs
        refine zz_istore_8 S rfl dL_law_132 (q := 134) rfl ?_
        refine zz_aload_1 S dL_law_134 (q := 135) rfl ?_
        refine zz_iload_4 S dL_law_135 (q := 137) rfl ?_
        -- at 137: invokestatic 92
        refine zz_statI S yy_L_act lL_92 (ll_act a hY4) rfl (Nat.le_of_ble_eq_true rfl) (Nat.le_of_ble_eq_true rfl) rfl dL_law_137 (q := 140) rfl ?_
        rintro r5 im5 hq5
        refine zz_istore_9 S rfl dL_law_140 (q := 142) rfl ?_
        refine zz_iload_9 S dL_law_142 (q := 144) rfl ?_
        -- at 144: invokestatic 96
        refine zz_statP S yy_L_isError lL_96 (ll_isError r5 zE im5) rfl (Nat.le_of_ble_eq_true rfl) (Nat.le_of_ble_eq_true rfl) rfl dL_law_144 (q := 147) rfl ?_
        rcases hP with ⟨hE, eA⟩ | ⟨hE, s', nc', eA, eF, e1', hle, hnc', hJ'⟩
        · -- an error: nothing has changed
          have hq6 : zAQ im5 r5 (r0, s, n, h) := by rw [← eA n h]; exact hq5
          obtain ⟨e5, hX5⟩ := hq6
          have e5 : r5 = r0 := e5
          subst e5
          have hY5 := zY_same hX5 hI
          rw [ie_P hE]
          have T160 : ∀ im' : ZI, zY im' s n h nw nc → w 160 [some (.ref 1050), some (.ref 0), some (.int v), some (.int x), some (.int a), some (.long (dg s nw nc)), none, some (.int (lw (sr a 4) (s 1 + 1))), some (.int rs), some (.int r5)] [] z zE im' := by
            intro im6 hY6
            have T187 : w 187 [some (.ref 1050), some (.ref 0), some (.int v), some (.int x), some (.int a), some (.long (dg s nw nc)), none, some (.int (lw (sr a 4) (s 1 + 1))), some (.int rs), some (.int r5)] [] z zE im6 := by
              refine zz_iload_9 S dL_law_187 (q := 189) rfl ?_
              -- at 189: invokestatic 96
              refine zz_statP S yy_L_isError lL_96 (ll_isError r5 zE im6) rfl (Nat.le_of_ble_eq_true rfl) (Nat.le_of_ble_eq_true rfl) rfl dL_law_189 (q := 192) rfl ?_
              rw [ie_P hE]
              refine zz_if_ne S dL_law_192 (t := 230) (by decide) (q := 195) rfl (fun b1 => ?_) (fun b1 => ?_)
              -- then 230 else 195
              · exact T230 im6 s n h nw nc _ _ _ _ _ hY6 h1 (sJ_le hJ (by omega))
              · exact absurd b1 (by decide)
            refine zz_iload_4 S dL_law_160 (q := 162) rfl ?_
            refine zz_bipush S (v := 15) rfl dL_law_162 (q := 164) rfl ?_
            refine zz_iand S dL_law_164 (q := 165) rfl ?_
            refine zz_bipush S (v := 9) rfl dL_law_165 (q := 167) rfl ?_
            refine zz_icmp_ne S dL_law_167 (t := 187) (by decide) (q := 170) rfl (fun b1 => ?_) (fun b1 => ?_)
            -- then 187 else 170
            · exact T187
            · refine zz_iload_9 S dL_law_170 (q := 172) rfl ?_
              -- at 172: invokestatic 96
              refine zz_statP S yy_L_isError lL_96 (ll_isError r5 zE im6) rfl (Nat.le_of_ble_eq_true rfl) (Nat.le_of_ble_eq_true rfl) rfl dL_law_172 (q := 175) rfl ?_
              rw [ie_P hE]
              refine zz_if_ne S dL_law_175 (t := 187) (by decide) (q := 178) rfl (fun b2 => ?_) (fun b2 => ?_)
              -- then 187 else 178
              · exact T187
              · exact absurd b2 (by decide)
          refine zz_if_eq S dL_law_147 (t := 160) (by decide) (q := 150) rfl (fun b1 => ?_) (fun b1 => ?_)
          -- then 160 else 150
          · exact T160 im5 hY5
          · refine zz_aload_1 S dL_law_150 (q := 151) rfl ?_
            -- at 151: invokestatic 85
            refine zz_statL S yy_L_digest lL_85 (ll_digest hY5) rfl (Nat.le_of_ble_eq_true rfl) (Nat.le_of_ble_eq_true rfl) rfl dL_law_151 (q := 154) rfl ?_
            rintro d2 im6 ⟨e6, hY6⟩
            subst e6
            refine zz_lload_5 S dL_law_154 (q := 156) rfl ?_
            refine zz_lcmp S dL_law_156 (q := 157) rfl ?_
            -- at 157
            rw [lcmp_eq]
            refine zz_if_ne S dL_law_157 (t := 185) (by decide) (q := 160) rfl (fun b2 => ?_) (fun b2 => ?_)
            -- then 185 else 160
            · exact absurd rfl b2
            · exact T160 im6 hY6
        · -- done
          have hq6 : zAQ im5 r5 (r0, s', sh_n n, sh_p n h s) := by rw [← eA n h]; exact hq5
          obtain ⟨e5, hX5⟩ := hq6
          have e5 : r5 = r0 := e5
          subst e5
          obtain ⟨nw2, nc2, hY5⟩ := zY_of hX5
          have en : nc2 = nc' := nI_same (hY5.2.1.2.2.1.symm.trans e1') (by have := hY5.2.1.2.2.2.1; omega) (by omega)
          subst en
          rw [ie_N hE]
          have T187 : w 187 [some (.ref 1050), some (.ref 0), some (.int v), some (.int x), some (.int a), some (.long (dg s nw nc)), none, some (.int (lw (sr a 4) (s 1 + 1))), some (.int rs), some (.int r5)] [] z zE im5 := by
            have T : ∀ (im' : ZI) (n' : Nat) (h' : Nat → ZSt) (nw' nc' : Nat), zY im' s' n' h' nw' nc' → w 230 [some (.ref 1050), some (.ref 0), some (.int v), some (.int x), some (.int a), some (.long (dg s nw nc)), none, some (.int (lw (sr a 4) (s 1 + 1))), some (.int rs), some (.int r5)] [] z zE im' := by
              intro im' n' h' nw' nc3 hY'
              obtain ⟨e7, e8⟩ := sI_nc hY5.2.1 hY'.2.1
              subst e7
              subst e8
              exact T230 im' s' n' h' _ _ _ _ _ _ _ hY' (by omega) hJ'
            refine zz_iload_9 S dL_law_187 (q := 189) rfl ?_
            -- at 189: invokestatic 96
            refine zz_statP S yy_L_isError lL_96 (ll_isError r5 zE im5) rfl (Nat.le_of_ble_eq_true rfl) (Nat.le_of_ble_eq_true rfl) rfl dL_law_189 (q := 192) rfl ?_
            rw [ie_N hE]
            refine zz_if_ne S dL_law_192 (t := 230) (by decide) (q := 195) rfl (fun b1 => ?_) (fun b1 => ?_)
            -- then 230 else 195
            · exact T im5 _ _ _ _ hY5
            · refine zz_iload_3 S dL_law_195 (q := 196) rfl ?_
              refine zz_iconst S (v := 3) rfl dL_law_196 (q := 197) rfl ?_
              refine zz_iand S dL_law_197 (q := 198) rfl ?_
              refine zz_iconst S (v := 1) rfl dL_law_198 (q := 199) rfl ?_
              refine zz_icmp_ne S dL_law_199 (t := 230) (by decide) (q := 202) rfl (fun b2 => ?_) (fun b2 => ?_)
              -- then 230 else 202
              · exact T im5 _ _ _ _ hY5
              · refine zz_aload_1 S dL_law_202 (q := 203) rfl ?_
                -- at 203: invokevirtual 100
                refine zz_virtI S yy_X7_undo lL_100 (ci := 7) (by decide) rfl (la_undo hY5) rfl (Nat.le_of_ble_eq_true rfl) (Nat.le_of_ble_eq_true rfl) rfl (Nat.le_of_ble_eq_true rfl) rfl dL_law_203 (q := 206) rfl ?_
                rintro r6 im6 hq6
                rw [undo_back eF] at hq6
                have hY6 := zY_same hq6.2 hI
                refine zz_pop S rfl dL_law_206 (q := 207) rfl ?_
                refine zz_aload_1 S dL_law_207 (q := 208) rfl ?_
                -- at 208: invokestatic 85
                refine zz_statL S yy_L_digest lL_85 (ll_digest hY6) rfl (Nat.le_of_ble_eq_true rfl) (Nat.le_of_ble_eq_true rfl) rfl dL_law_208 (q := 211) rfl ?_
                rintro d7 im7 ⟨e7, hY7⟩
                subst e7
                refine zz_lload_5 S dL_law_211 (q := 213) rfl ?_
                refine zz_lcmp S dL_law_213 (q := 214) rfl ?_
                -- at 214
                rw [lcmp_eq]
                refine zz_if_ne S dL_law_214 (t := 228) (by decide) (q := 217) rfl (fun b3 => ?_) (fun b3 => ?_)
                -- then 228 else 217
                · exact absurd rfl b3
                · refine zz_aload_1 S dL_law_217 (q := 218) rfl ?_
                  refine zz_iload_4 S dL_law_218 (q := 220) rfl ?_
                  -- at 220: invokestatic 92
                  refine zz_statI S yy_L_act lL_92 (ll_act a hY7) rfl (Nat.le_of_ble_eq_true rfl) (Nat.le_of_ble_eq_true rfl) rfl dL_law_220 (q := 223) rfl ?_
                  rintro r8 im8 hq8
                  have hq9 : zAQ im8 r8 (r5, s', sh_n (sh_n n - 1), sh_p (sh_n n - 1) (sh_p n h s) s) := by rw [← eA (sh_n n - 1) (sh_p n h s)]; exact hq8
                  obtain ⟨e8, hX8⟩ := hq9
                  have e8 : r8 = r5 := e8
                  subst e8
                  obtain ⟨nw9, nc9, hY9⟩ := zY_of hX8
                  refine zz_iload_9 S dL_law_223 (q := 225) rfl ?_
                  refine zz_icmp_eq S dL_law_225 (t := 230) (by decide) (q := 228) rfl (fun b4 => ?_) (fun b4 => ?_)
                  -- then 230 else 228
                  · exact T im8 _ _ _ _ hY9
                  · exact absurd rfl b4
          refine zz_if_eq S dL_law_147 (t := 160) (by decide) (q := 150) rfl (fun b1 => ?_) (fun b1 => ?_)
          -- then 160 else 150
          · refine zz_iload_4 S dL_law_160 (q := 162) rfl ?_
            refine zz_bipush S (v := 15) rfl dL_law_162 (q := 164) rfl ?_
            refine zz_iand S dL_law_164 (q := 165) rfl ?_
            refine zz_bipush S (v := 9) rfl dL_law_165 (q := 167) rfl ?_
            refine zz_icmp_ne S dL_law_167 (t := 187) (by decide) (q := 170) rfl (fun b2 => ?_) (fun b2 => ?_)
            -- then 187 else 170
            · exact T187
            · refine zz_iload_9 S dL_law_170 (q := 172) rfl ?_
              -- at 172: invokestatic 96
              refine zz_statP S yy_L_isError lL_96 (ll_isError r5 zE im5) rfl (Nat.le_of_ble_eq_true rfl) (Nat.le_of_ble_eq_true rfl) rfl dL_law_172 (q := 175) rfl ?_
              rw [ie_N hE]
              refine zz_if_ne S dL_law_175 (t := 187) (by decide) (q := 178) rfl (fun b3 => ?_) (fun b3 => ?_)
              -- then 187 else 178
              · exact absurd rfl b3
              · refine zz_iload_9 S dL_law_178 (q := 180) rfl ?_
                refine zz_iload_8 S dL_law_180 (q := 182) rfl ?_
                refine zz_icmp_eq S dL_law_182 (t := 187) (by decide) (q := 185) rfl (fun b4 => ?_) (fun b4 => ?_)
                -- then 187 else 185
                · exact T187
                · exact absurd ((hr9 b2 hE).trans (hrs b2).symm) b4
          · exact absurd rfl b1
      refine zz_iload_4 S dL_law_112 (q := 114) rfl ?_
      refine zz_bipush S (v := 15) rfl dL_law_114 (q := 116) rfl ?_
      refine zz_iand S dL_law_116 (q := 117) rfl ?_
      refine zz_bipush S (v := 9) rfl dL_law_117 (q := 119) rfl ?_
      refine zz_icmp_ne S dL_law_119 (t := 131) (by decide) (q := 122) rfl (fun b1 => ?_) (fun b1 => ?_)
      -- then 131 else 122
      · refine zz_iconst S (v := 0) rfl dL_law_131 (q := 132) rfl ?_
        -- at 132
        exact T132 0 im3 hY3 (fun e => absurd e b1)
      · refine zz_aload_1 S dL_law_122 (q := 123) rfl ?_
        refine zz_iload_7 S dL_law_123 (q := 125) rfl ?_
        -- at 125: invokevirtual 89
        refine zz_virtI S yy_X7_reason lL_89 (ci := 7) (by decide) rfl (lk_reason (lw (sr a 4) (s 1 + 1)) hY3) rfl (Nat.le_of_ble_eq_true rfl) (Nat.le_of_ble_eq_true rfl) rfl (Nat.le_of_ble_eq_true rfl) rfl dL_law_125 (q := 128) rfl ?_
        rintro r4 im4 ⟨e4, hY4⟩
        refine zz_goto S dL_law_128 (t := 132) (by decide) ?_
        -- at 132
        exact T132 r4 im4 hY4 (fun _ => e4)
end ZLAWP
