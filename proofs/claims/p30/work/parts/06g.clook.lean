/-! THE CLASS: dials of commissions, counts -/
section ZLUP
variable {G : ZG} {l : Launch} {own : String} {cc : ByteArray} {nL d n0 mcT msT : Nat} {isI : Bool} {rt : Option FieldType} {Qf : Option Value → ZE → ZI → Prop} {w : Nat → ZL → List Value → Nat → ZE → ZI → Prop}
variable {pc q t : Nat} {L L' : ZL} {st rest as : List Value} {z : Nat} {E : ZE} {im : ZI}
theorem zz_look (S : zz_S G l own cc nL d n0 mcT msT isI rt Qf w) {dflt : Int} {ps : Array (Int × Int)} {len : Nat} {x : Int32} {off : Int} (hd : decode cc pc = .ok (.lookupswitch dflt ps, len)) (hp : (ps.toList.zip (ps.toList.drop 1)).all (fun (a, next) => a.1 < next.1) = true) (ho : Op.lookupswitch.offset ps.toList dflt x.toInt = off) (ht : (pc : Int) + off = (t : Int)) (k : w t L st z E im) : w pc L (.int x :: st) z E im :=
  zz_pure S (fun _ _ _ _ _ _ _ _ _ _ _ _ _ _ _ hx hb _ _ hl kk => lv_lookup hx hb hd hp ho ht (kk _ hl)) k
end ZLUP
theorem rS.keep {im im' : ZI} {b nw nc : Nat} {s : ZSt} (h : rS im b s nw nc) (hw : nw ≤ 6) (hn : nc ≤ 10) (hk : ∀ k, b ≤ k → k < b + 21 → im' k = im k) : rS im' b s nw nc := by
  obtain ⟨h1, h2, h3, h4, h5⟩ := h
  refine ⟨?_, fun j hj => ?_, fun m hm => ?_, fun w hw2 => ?_, fun c hc f hf e => ?_⟩
  · rw [hk b (by omega) (by omega)]
    exact h1
  · rw [hk _ (by omega) (by omega)]
    exact h2 j hj
  · rw [hk _ (by omega) (by omega)]
    exact h3 m hm
  · rw [hk _ (by omega) (by omega)]
    exact h4 w hw2
  · rw [hk _ (by omega) (by omega)]
    exact h5 c hc f hf e
theorem sp_wd_k {s : ZSt} {w : Nat} (hw : sW (s (20 + 3 * w)) (s (20 + 3 * w + 1)) (s (20 + 3 * w + 2))) (h : ¬ (s (20 + 3 * w) < 2 ∨ zs_size (s (20 + 3 * w + 1) - s (20 + 3 * w + 2)) > s 4)) : sB (-60) 60 (sp_wd s w) := by
  unfold sp_wd
  rw [if_neg h]
  rcases hw with ⟨h2, -⟩ | ⟨h2, -⟩ | ⟨-, ha, hb⟩
  · exact absurd (Or.inl (by rw [h2]; decide)) h
  · exact absurd (Or.inl (by rw [h2]; decide)) h
  · obtain ⟨a1, a2⟩ := ha
    obtain ⟨b1, b2⟩ := hb
    have e1 : (s (20 + 3 * w + 1) + s (20 + 3 * w + 2)).toInt64.toInt = (s (20 + 3 * w + 1)).toInt + (s (20 + 3 * w + 2)).toInt := by
      rw [Int32.toInt_toInt64, Int32.toInt_add, Int.bmod_eq_of_le (by omega) (by omega)]
    have h2 : (2 : Int64).toInt = 2 := rfl
    have hr := zs_rd_i (a := (s (20 + 3 * w + 1) + s (20 + 3 * w + 2)).toInt64) (b := 2) (by omega) (by omega) (by omega) (by omega)
    rw [e1, h2] at hr
    unfold sB
    rw [Int64.toInt_toInt32, hr, Int.bmod_eq_of_le (by omega) (by omega)]
    omega
section ZCLK
variable {G : ZG} {l : Launch}
theorem zx_in {x : Int32} {c n : Nat} (hx : x = nI c) (hc : c < n) (hn : n ≤ 1000) : x ≥ 0 ∧ x ≤ nI n - 1 := ⟨by rw [hx]; exact nI_pos' (by omega), zs_ltp hn |>.mp (by rw [hx]; exact nI_lt hc (by omega))⟩
set_option maxHeartbeats 1000000 in
theorem cx_layDial (x : Int32) (c nw nc : Nat) (s : ZSt) (im : ZI) (hx : x = nI c) (hc : c < nc) (hI : sI s nw nc) (hr : rS im 2 s nw nc) : zz_OI G l 4 mX7_layDial [.ref 0, .int x] zE im (fun r im' => r = (if sp_de s c = -100009 then 0 else 1) ∧ (sp_de s c ≠ -100009 → zx_dial im' (sp_dial s c)) ∧ zz_keep [469] im im') := by
  have hn := hI.2.2.2.1
  have hC := hI.2.2.2.2.2.2.2 c hc
  have e1 : im (13 + c) 1 = s (38 + 8 * c + 1) := hr.com hc (by omega) (by omega)
  have e0 : im (13 + c) 0 = s (38 + 8 * c + 0) := hr.com hc (by omega) (by omega)
  have hck : 13 + c < 470 := by omega
  refine zz_intro (isI := false) (by decide) rfl (Nat.le_of_ble_eq_true rfl) (fun h => by cases h) (fun w S => ?_)
  refine zz_aload_0 S dX7_layDial_0 (q := 1) rfl ?_
  refine zz_getR S fX7_41 rfl (Nat.le_of_ble_eq_true rfl) rfl rfl dX7_layDial_1 (q := 4) rfl ?_
  refine zz_iload_1 S dX7_layDial_4 (q := 5) rfl ?_
  -- at 5: invokevirtual 204
  refine zz_virtP S yy_X4_declinationOfDial lX7_204 (ci := 4) (by decide) rfl (cx_declD x c nw nc s im hx hc hI hr) rfl (Nat.le_of_ble_eq_true rfl) (Nat.le_of_ble_eq_true rfl) rfl (Nat.le_of_ble_eq_true rfl) rfl dX7_layDial_5 (q := 8) rfl ?_
  refine zz_istore_2 S rfl dX7_layDial_8 (q := 9) rfl ?_
  refine zz_iload_2 S dX7_layDial_9 (q := 10) rfl ?_
  refine zz_ldc S (v := (-100009)) kX7_247 dX7_layDial_10 (q := 12) rfl ?_
  refine zz_icmp_ne S dX7_layDial_12 (t := 17) (by decide) (q := 15) rfl (fun b1 => ?_) (fun b1 => ?_)
  -- then 17 else 15
  · have hin := sp_de_in hI hc b1
    refine zz_aload_0 S dX7_layDial_17 (q := 18) rfl ?_
    refine zz_getR S fX7_41 rfl (Nat.le_of_ble_eq_true rfl) rfl rfl dX7_layDial_18 (q := 21) rfl ?_
    refine zz_getR S fX7_184 rfl (Nat.le_of_ble_eq_true rfl) rfl rfl dX7_layDial_21 (q := 24) rfl ?_
    refine zz_iload_1 S dX7_layDial_24 (q := 25) rfl ?_
    refine zz_aaN S (j := c) (Nat.le_of_ble_eq_true rfl) rfl ⟨Nat.le_of_ble_eq_true rfl, Nat.le_of_ble_eq_true rfl⟩ (Nat.le_of_ble_eq_true rfl) hx (by omega) (zc_ref c (by omega)) dX7_layDial_25 (q := 26) rfl ?_
    refine zz_astore_3 S rfl dX7_layDial_26 (q := 27) rfl ?_
    refine zz_aload_0 S dX7_layDial_27 (q := 28) rfl ?_
    refine zz_getR S fX7_33 rfl (Nat.le_of_ble_eq_true rfl) rfl rfl dX7_layDial_28 (q := 31) rfl ?_
    refine zz_aload_3 S dX7_layDial_31 (q := 32) rfl ?_
    refine zz_getI S fX7_193 rfl hck (zc_k c (by omega)) dX7_layDial_32 (q := 35) rfl ?_
    refine zz_iconst S (v := (-1)) rfl dX7_layDial_35 (q := 36) rfl ?_
    refine zz_icmp_eq S dX7_layDial_36 (t := 43) (by decide) (q := 39) rfl (fun b2 => ?_) (fun b2 => ?_)
    -- then 43 else 39
    · rw [e1] at b2
      refine zz_iconst S (v := 0) rfl dX7_layDial_43 (q := 44) rfl ?_
      refine zz_aload_3 S dX7_layDial_44 (q := 45) rfl ?_
      refine zz_getI S fX7_188 rfl hck (zc_k c (by omega)) dX7_layDial_45 (q := 48) rfl ?_
      refine zz_iload_2 S dX7_layDial_48 (q := 49) rfl ?_
      -- at 49: invokevirtual 257
      rw [e0]
      refine zz_virtV S yy_X1_lay lX7_257 (ci := 1) (by decide) rfl (cx_lay 0 (s (38 + 8 * c + 0)) (sp_de s c) im hC.1 (Or.inl rfl)) rfl (Nat.le_of_ble_eq_true rfl) (Nat.le_of_ble_eq_true rfl) rfl (Nat.le_of_ble_eq_true rfl) rfl dX7_layDial_49 (q := 52) rfl ?_
      rintro im1 ⟨h1, h2⟩
      refine zz_iconst S (v := 1) rfl dX7_layDial_52 (q := 53) rfl ?_
      -- at 53: ireturn 
      refine zz_zret S rfl dX7_layDial_53 ⟨rfl, _, rfl, rfl, ?_⟩
      refine ⟨by rw [if_neg b1], fun _ i hi => ?_, h2⟩
      rw [h1 i hi, sp_dial, if_pos b2]
    · rw [e1] at b2
      refine zz_iconst S (v := 1) rfl dX7_layDial_39 (q := 40) rfl ?_
      refine zz_goto S dX7_layDial_40 (t := 44) (by decide) ?_
      refine zz_aload_3 S dX7_layDial_44 (q := 45) rfl ?_
      refine zz_getI S fX7_188 rfl hck (zc_k c (by omega)) dX7_layDial_45 (q := 48) rfl ?_
      refine zz_iload_2 S dX7_layDial_48 (q := 49) rfl ?_
      -- at 49: invokevirtual 257
      rw [e0]
      refine zz_virtV S yy_X1_lay lX7_257 (ci := 1) (by decide) rfl (cx_lay 1 (s (38 + 8 * c + 0)) (sp_de s c) im hC.1 (Or.inr hin)) rfl (Nat.le_of_ble_eq_true rfl) (Nat.le_of_ble_eq_true rfl) rfl (Nat.le_of_ble_eq_true rfl) rfl dX7_layDial_49 (q := 52) rfl ?_
      rintro im1 ⟨h1, h2⟩
      refine zz_iconst S (v := 1) rfl dX7_layDial_52 (q := 53) rfl ?_
      -- at 53: ireturn 
      refine zz_zret S rfl dX7_layDial_53 ⟨rfl, _, rfl, rfl, ?_⟩
      refine ⟨by rw [if_neg b1], fun _ i hi => ?_, h2⟩
      rw [h1 i hi, sp_dial, if_neg b2]
  · refine zz_iconst S (v := 0) rfl dX7_layDial_15 (q := 16) rfl ?_
    -- at 16: ireturn 
    refine zz_zret S rfl dX7_layDial_16 ⟨rfl, _, rfl, rfl, ?_⟩
    exact ⟨by rw [if_pos b1], fun e => absurd b1 e, zz_keep.rf⟩
theorem sp_dial_fine (s : ZSt) (c : Nat) : zs_fine (sp_dial s c) := zs_dial_fine _ _ _
set_option maxHeartbeats 1000000 in
theorem cx_judge (x : Int32) (nw nc : Nat) (s : ZSt) (im : ZI) (hI : sI s nw nc) (hr : rS im 2 s nw nc) : zz_OI G l 5 mX7_judge [.ref 0, .int x] zE im (fun r im' => r = ol_reason s x ∧ zz_keep [468, 469] im im') := by
  have h1 : im 2 5 = nI nc := hr.n.2.1.trans hI.2.2.1
  have hn := hI.2.2.2.1
  have hw := hI.2.1
  have e1 : s 1 = nI nc := hI.2.2.1
  unfold ol_reason
  rw [e1]
  refine zz_intro (isI := false) (by decide) rfl (Nat.le_of_ble_eq_true rfl) (fun h => by cases h) (fun w S => ?_)
  refine zz_aload_0 S dX7_judge_0 (q := 1) rfl ?_
  refine zz_getR S fX7_41 rfl (Nat.le_of_ble_eq_true rfl) rfl rfl dX7_judge_1 (q := 4) rfl ?_
  refine zz_iload_1 S dX7_judge_4 (q := 5) rfl ?_
  -- at 5: invokevirtual 181
  refine zz_virtP S yy_X4_hasCommission lX7_181 (ci := 4) (by decide) rfl (cx_hasCom x nc im h1 hn) rfl (Nat.le_of_ble_eq_true rfl) (Nat.le_of_ble_eq_true rfl) rfl (Nat.le_of_ble_eq_true rfl) rfl dX7_judge_5 (q := 8) rfl ?_
  refine zz_if_ne S dX7_judge_8 (t := 14) (by decide) (q := 11) rfl (fun b1 => ?_) (fun b1 => ?_)
  -- then 14 else 11
  · have b1' := zs_ne0 b1
    obtain ⟨c, hc, hx⟩ := zs_within (n := nc) (by omega) b1'
    have hcl : x.toNatClampNeg = c := zs_cl hx (by omega)
    have hck : 13 + c < 470 := by omega
    refine zz_aload_0 S dX7_judge_14 (q := 15) rfl ?_
    refine zz_iload_1 S dX7_judge_15 (q := 16) rfl ?_
    -- at 16: invokevirtual 226
    refine zz_virtI S yy_X7_layDial lX7_226 (ci := 7) (by decide) rfl (cx_layDial x c nw nc s im hx hc hI hr) rfl (Nat.le_of_ble_eq_true rfl) (Nat.le_of_ble_eq_true rfl) rfl (Nat.le_of_ble_eq_true rfl) rfl dX7_judge_16 (q := 19) rfl ?_
    rintro r1 im1 ⟨rfl, hd, hk1⟩
    have hr1 : rS im1 2 s nw nc := hr.keep hw hn (fun k a b => hk1 k (by simp; omega))
    refine zz_if_ne S dX7_judge_19 (t := 24) (by decide) (q := 22) rfl (fun b2 => ?_) (fun b2 => ?_)
    -- then 24 else 22
    · have b2' : ¬ sp_de s c = -100009 := fun e => b2 (by rw [if_pos e])
      have hd' := hd b2'
      refine zz_aload_0 S dX7_judge_24 (q := 25) rfl ?_
      refine zz_getR S fX7_33 rfl (Nat.le_of_ble_eq_true rfl) rfl rfl dX7_judge_25 (q := 28) rfl ?_
      -- at 28: invokevirtual 232
      refine zz_virtP S yy_X1_countLines lX7_232 (ci := 1) (by decide) rfl (cx_countLines (sp_dial s c) im1 hd') rfl (Nat.le_of_ble_eq_true rfl) (Nat.le_of_ble_eq_true rfl) rfl (Nat.le_of_ble_eq_true rfl) rfl dX7_judge_28 (q := 31) rfl ?_
      refine zz_aload_0 S dX7_judge_31 (q := 32) rfl ?_
      refine zz_getR S fX7_41 rfl (Nat.le_of_ble_eq_true rfl) rfl rfl dX7_judge_32 (q := 35) rfl ?_
      refine zz_getR S fX7_155 rfl (Nat.le_of_ble_eq_true rfl) rfl rfl dX7_judge_35 (q := 38) rfl ?_
      refine zz_iconst S (v := 1) rfl dX7_judge_38 (q := 39) rfl ?_
      refine zz_iaN S (j := 1) (Nat.le_of_ble_eq_true rfl) rfl (Nat.le_of_ble_eq_true rfl) rfl (Nat.le_of_ble_eq_true rfl) dX7_judge_39 (q := 40) rfl ?_
      refine zz_icmp_ge S dX7_judge_40 (t := 45) (by decide) (q := 43) rfl (fun b3 => ?_) (fun b3 => ?_)
      -- then 45 else 43
      · rw [hr1.set (by omega)] at b3
        refine zz_aload_0 S dX7_judge_45 (q := 46) rfl ?_
        refine zz_getR S fX7_33 rfl (Nat.le_of_ble_eq_true rfl) rfl rfl dX7_judge_46 (q := 49) rfl ?_
        -- at 49: invokevirtual 248
        refine zz_virtV S yy_X1_compareReadings lX7_248 (ci := 1) (by decide) rfl (cx_compare (sp_dial s c) im1 hd' (sp_dial_fine s c)) rfl (Nat.le_of_ble_eq_true rfl) (Nat.le_of_ble_eq_true rfl) rfl (Nat.le_of_ble_eq_true rfl) rfl dX7_judge_49 (q := 52) rfl ?_
        rintro im2 ⟨g1, -, hk2⟩
        have hr2 : rS im2 2 s nw nc := hr1.keep hw hn (fun k a b => hk2 k (by simp; omega))
        have hk : zz_keep [468, 469] im im2 := (hk1.le (by decide)).tr hk2 (by decide)
        refine zz_aload_0 S dX7_judge_52 (q := 53) rfl ?_
        refine zz_getR S fX7_33 rfl (Nat.le_of_ble_eq_true rfl) rfl rfl dX7_judge_53 (q := 56) rfl ?_
        refine zz_getI S fX7_251 rfl (Nat.le_of_ble_eq_true rfl) rfl dX7_judge_56 (q := 59) rfl ?_
        refine zz_aload_0 S dX7_judge_59 (q := 60) rfl ?_
        refine zz_getR S fX7_41 rfl (Nat.le_of_ble_eq_true rfl) rfl rfl dX7_judge_60 (q := 63) rfl ?_
        refine zz_getR S fX7_155 rfl (Nat.le_of_ble_eq_true rfl) rfl rfl dX7_judge_63 (q := 66) rfl ?_
        refine zz_iconst S (v := 2) rfl dX7_judge_66 (q := 67) rfl ?_
        refine zz_iaN S (j := 2) (Nat.le_of_ble_eq_true rfl) rfl (Nat.le_of_ble_eq_true rfl) rfl (Nat.le_of_ble_eq_true rfl) dX7_judge_67 (q := 68) rfl ?_
        refine zz_icmp_le S dX7_judge_68 (t := 73) (by decide) (q := 71) rfl (fun b4 => ?_) (fun b4 => ?_)
        -- then 73 else 71
        · rw [g1, hr2.set (by omega)] at b4
          refine zz_aload_0 S dX7_judge_73 (q := 74) rfl ?_
          refine zz_getR S fX7_41 rfl (Nat.le_of_ble_eq_true rfl) rfl rfl dX7_judge_74 (q := 77) rfl ?_
          refine zz_getR S fX7_184 rfl (Nat.le_of_ble_eq_true rfl) rfl rfl dX7_judge_77 (q := 80) rfl ?_
          refine zz_iload_1 S dX7_judge_80 (q := 81) rfl ?_
          refine zz_aaN S (j := c) (Nat.le_of_ble_eq_true rfl) rfl ⟨Nat.le_of_ble_eq_true rfl, Nat.le_of_ble_eq_true rfl⟩ (Nat.le_of_ble_eq_true rfl) hx (by omega) (zc_ref c (by omega)) dX7_judge_81 (q := 82) rfl ?_
          -- at 82: invokevirtual 207
          refine zz_virtP S yy_X0_weight lX7_207 (ci := 0) (by decide) rfl (cx_weight (13 + c) im2 hck (zc_k c (by omega))) rfl (Nat.le_of_ble_eq_true rfl) hck (zc_k c (by omega)) (Nat.le_of_ble_eq_true rfl) rfl dX7_judge_82 (q := 85) rfl ?_
          rw [hr2.com hc (by omega) (by omega)]
          refine zz_aload_0 S dX7_judge_85 (q := 86) rfl ?_
          refine zz_getR S fX7_41 rfl (Nat.le_of_ble_eq_true rfl) rfl rfl dX7_judge_86 (q := 89) rfl ?_
          refine zz_getR S fX7_155 rfl (Nat.le_of_ble_eq_true rfl) rfl rfl dX7_judge_89 (q := 92) rfl ?_
          refine zz_iconst S (v := 3) rfl dX7_judge_92 (q := 93) rfl ?_
          refine zz_iaN S (j := 3) (Nat.le_of_ble_eq_true rfl) rfl (Nat.le_of_ble_eq_true rfl) rfl (Nat.le_of_ble_eq_true rfl) dX7_judge_93 (q := 94) rfl ?_
          refine zz_icmp_le S dX7_judge_94 (t := 99) (by decide) (q := 97) rfl (fun b5 => ?_) (fun b5 => ?_)
          -- then 99 else 97
          · rw [hr2.set (by omega)] at b5
            refine zz_iconst S (v := 0) rfl dX7_judge_99 (q := 100) rfl ?_
            -- at 100: ireturn 
            refine zz_iret S dX7_judge_100 ⟨rfl, _, rfl, rfl, ?_⟩
            refine ⟨?_, hk⟩
            rw [if_pos b1', hcl, sp_re, if_neg b2', if_neg (Int32.not_lt.mpr b3), if_neg (Int32.not_lt.mpr b4), if_neg (show ¬ sp_wt s c > s 7 from Int32.not_lt.mpr b5)]
          · rw [hr2.set (by omega)] at b5
            refine zz_iconst S (v := 4) rfl dX7_judge_97 (q := 98) rfl ?_
            -- at 98: ireturn 
            refine zz_iret S dX7_judge_98 ⟨rfl, _, rfl, rfl, ?_⟩
            refine ⟨?_, hk⟩
            rw [if_pos b1', hcl, sp_re, if_neg b2', if_neg (Int32.not_lt.mpr b3), if_neg (Int32.not_lt.mpr b4), if_pos (show sp_wt s c > s 7 from Int32.not_le.mp b5)]
        · rw [g1, hr2.set (by omega)] at b4
          refine zz_iconst S (v := 3) rfl dX7_judge_71 (q := 72) rfl ?_
          -- at 72: ireturn 
          refine zz_iret S dX7_judge_72 ⟨rfl, _, rfl, rfl, ?_⟩
          refine ⟨?_, hk⟩
          rw [if_pos b1', hcl, sp_re, if_neg b2', if_neg (Int32.not_lt.mpr b3), if_pos (show (zs_ap (sp_dial s c)).1 > s 6 from Int32.not_le.mp b4)]
      · rw [hr1.set (by omega)] at b3
        refine zz_iconst S (v := 2) rfl dX7_judge_43 (q := 44) rfl ?_
        -- at 44: ireturn 
        refine zz_iret S dX7_judge_44 ⟨rfl, _, rfl, rfl, ?_⟩
        refine ⟨?_, hk1.le (by decide)⟩
        rw [if_pos b1', hcl, sp_re, if_neg b2', if_pos (show zs_hl (sp_dial s c) < s 5 from Int32.not_le.mp b3)]
    · have b2' : sp_de s c = -100009 := Classical.byContradiction (fun e => absurd b2 (by rw [if_neg e]; decide))
      refine zz_iconst S (v := 1) rfl dX7_judge_22 (q := 23) rfl ?_
      -- at 23: ireturn 
      refine zz_iret S dX7_judge_23 ⟨rfl, _, rfl, rfl, ?_⟩
      refine ⟨?_, hk1.le (by decide)⟩
      rw [if_pos b1', hcl, sp_re, if_pos b2']
  · refine zz_ldc S (v := (-100001)) kX7_159 dX7_judge_11 (q := 13) rfl ?_
    -- at 13: ireturn 
    refine zz_iret S dX7_judge_13 ⟨rfl, _, rfl, rfl, ?_⟩
    exact ⟨by rw [if_neg (zs_b1.mp b1)], zz_keep.rf⟩
set_option maxHeartbeats 4000000 in
theorem lx_inState {n0 mcT msT : Nat} {isI : Bool} {Qf : Option Value → ZE → ZI → Prop} {w : Nat → ZL → List Value → Nat → ZE → ZI → Prop} {z : Nat} {im : ZI} {st : Int32} {nc : Nat} {s : ZSt} (S : zz_S G l RX4 cX4_commissionsInState 4 0 n0 mcT msT isI (some .int) Qf w)
    (h1 : im 2 5 = nI nc) (hn : nc ≤ 10) (hs : ∀ c, c < nc → im (13 + c) 4 = s (38 + 8 * c + 4)) (hQ : Qf (some (.int (op_in s nc st))) zE im) :
    ∀ (n c : Nat) (x m : Int32), c + n = nc → x = nI c → op_in s nc st = op_inG s st n c m → w 4 [some (.ref 2), some (.int st), some (.int m), some (.int x)] [] z zE im := by
  intro n
  induction n with
  | zero =>
    intro c x m hc hx hF
    have hc : c = nc := by omega
    subst hc
    refine zz_iload_3 S dX4_commissionsInState_4 (q := 5) rfl ?_
    refine zz_aload_0 S dX4_commissionsInState_5 (q := 6) rfl ?_
    refine zz_getI S fX4_52 rfl (Nat.le_of_ble_eq_true rfl) rfl dX4_commissionsInState_6 (q := 9) rfl ?_
    refine zz_icmp_ge S dX4_commissionsInState_9 (t := 34) (by decide) (q := 12) rfl (fun a1 => ?_) (fun a1 => ?_)
    -- then 34 else 12
    · refine zz_iload_2 S dX4_commissionsInState_34 (q := 35) rfl ?_
      -- at 35: ireturn 
      exact zz_iret S dX4_commissionsInState_35 (by rw [hF] at hQ; exact hQ)
    · exact absurd (by rw [h1, hx]; exact Int32.le_refl _) a1
  | succ n ih =>
    intro c x m hc hx hF
    refine zz_iload_3 S dX4_commissionsInState_4 (q := 5) rfl ?_
    refine zz_aload_0 S dX4_commissionsInState_5 (q := 6) rfl ?_
    refine zz_getI S fX4_52 rfl (Nat.le_of_ble_eq_true rfl) rfl dX4_commissionsInState_6 (q := 9) rfl ?_
    refine zz_icmp_ge S dX4_commissionsInState_9 (t := 34) (by decide) (q := 12) rfl (fun a1 => ?_) (fun a1 => ?_)
    -- then 34 else 12
    · exact absurd a1 (by rw [h1, hx]; exact nI_ge (by omega) (by omega))
    · refine zz_aload_0 S dX4_commissionsInState_12 (q := 13) rfl ?_
      refine zz_getR S fX4_26 rfl (Nat.le_of_ble_eq_true rfl) rfl rfl dX4_commissionsInState_13 (q := 16) rfl ?_
      refine zz_iload_3 S dX4_commissionsInState_16 (q := 17) rfl ?_
      refine zz_aaN S (j := c) (Nat.le_of_ble_eq_true rfl) rfl ⟨Nat.le_of_ble_eq_true rfl, Nat.le_of_ble_eq_true rfl⟩ (Nat.le_of_ble_eq_true rfl) hx (by omega) (zc_ref c (by omega)) dX4_commissionsInState_17 (q := 18) rfl ?_
      refine zz_getI S fX4_99 rfl (show 13 + c < 470 by omega) (zc_k c (by omega)) dX4_commissionsInState_18 (q := 21) rfl ?_
      refine zz_iload_1 S dX4_commissionsInState_21 (q := 22) rfl ?_
      refine zz_icmp_ne S dX4_commissionsInState_22 (t := 28) (by decide) (q := 25) rfl (fun b1 => ?_) (fun b1 => ?_)
      · refine zz_iinc_3 S rfl dX4_commissionsInState_28 (q := 31) rfl ?_
        refine zz_goto S dX4_commissionsInState_31 (t := 4) (by decide) ?_
        rw [hs c (by omega)] at b1
        refine ih (c + 1) _ _ (by omega) (by rw [hx]; exact nI_add c 1) ?_
        rw [hF, op_inG]
        first | (rw [if_neg b1, Int32.add_zero]) | (rw [if_pos b1]; rfl)
      · refine zz_iinc_2 S rfl dX4_commissionsInState_25 (q := 28) rfl ?_
        refine zz_iinc_3 S rfl dX4_commissionsInState_28 (q := 31) rfl ?_
        refine zz_goto S dX4_commissionsInState_31 (t := 4) (by decide) ?_
        rw [hs c (by omega)] at b1
        refine ih (c + 1) _ _ (by omega) (by rw [hx]; exact nI_add c 1) ?_
        rw [hF, op_inG]
        first | (rw [if_neg b1, Int32.add_zero]) | (rw [if_pos b1]; rfl)
theorem cx_inState (st : Int32) (nc : Nat) (s : ZSt) (im : ZI) (h1 : im 2 5 = nI nc) (hn : nc ≤ 10) (hs : ∀ c, c < nc → im (13 + c) 4 = s (38 + 8 * c + 4)) : zz_OP G l 0 mX4_commissionsInState [.ref 2, .int st] zE im (op_in s nc st) := by
  refine zz_intro (isI := false) (by decide) rfl (Nat.le_of_ble_eq_true rfl) (fun h => by cases h) (fun w S => ?_)
  refine zz_iconst S (v := 0) rfl dX4_commissionsInState_0 (q := 1) rfl ?_
  refine zz_istore_2 S rfl dX4_commissionsInState_1 (q := 2) rfl ?_
  refine zz_iconst S (v := 0) rfl dX4_commissionsInState_2 (q := 3) rfl ?_
  refine zz_istore_3 S rfl dX4_commissionsInState_3 (q := 4) rfl ?_
  -- at 4
  exact lx_inState S h1 hn hs ⟨rfl, _, rfl, rfl, rfl, rfl⟩ nc 0 _ _ (by omega) rfl rfl
set_option maxHeartbeats 4000000 in
theorem lx_forWall {n0 mcT msT : Nat} {isI : Bool} {Qf : Option Value → ZE → ZI → Prop} {w : Nat → ZL → List Value → Nat → ZE → ZI → Prop} {z : Nat} {im : ZI} {st : Int32} {nc : Nat} {s : ZSt} (S : zz_S G l RX4 cX4_commissionsForWall 4 0 n0 mcT msT isI (some .int) Qf w)
    (h1 : im 2 5 = nI nc) (hn : nc ≤ 10) (hs : ∀ c, c < nc → im (13 + c) 1 = s (38 + 8 * c + 1)) (hQ : Qf (some (.int (op_foG s st nc 0 0))) zE im) :
    ∀ (n c : Nat) (x m : Int32), c + n = nc → x = nI c → op_foG s st nc 0 0 = op_foG s st n c m → w 4 [some (.ref 2), some (.int st), some (.int m), some (.int x)] [] z zE im := by
  intro n
  induction n with
  | zero =>
    intro c x m hc hx hF
    have hc : c = nc := by omega
    subst hc
    refine zz_iload_3 S dX4_commissionsForWall_4 (q := 5) rfl ?_
    refine zz_aload_0 S dX4_commissionsForWall_5 (q := 6) rfl ?_
    refine zz_getI S fX4_52 rfl (Nat.le_of_ble_eq_true rfl) rfl dX4_commissionsForWall_6 (q := 9) rfl ?_
    refine zz_icmp_ge S dX4_commissionsForWall_9 (t := 34) (by decide) (q := 12) rfl (fun a1 => ?_) (fun a1 => ?_)
    -- then 34 else 12
    · refine zz_iload_2 S dX4_commissionsForWall_34 (q := 35) rfl ?_
      -- at 35: ireturn 
      exact zz_iret S dX4_commissionsForWall_35 (by rw [hF] at hQ; exact hQ)
    · exact absurd (by rw [h1, hx]; exact Int32.le_refl _) a1
  | succ n ih =>
    intro c x m hc hx hF
    refine zz_iload_3 S dX4_commissionsForWall_4 (q := 5) rfl ?_
    refine zz_aload_0 S dX4_commissionsForWall_5 (q := 6) rfl ?_
    refine zz_getI S fX4_52 rfl (Nat.le_of_ble_eq_true rfl) rfl dX4_commissionsForWall_6 (q := 9) rfl ?_
    refine zz_icmp_ge S dX4_commissionsForWall_9 (t := 34) (by decide) (q := 12) rfl (fun a1 => ?_) (fun a1 => ?_)
    -- then 34 else 12
    · exact absurd a1 (by rw [h1, hx]; exact nI_ge (by omega) (by omega))
    · refine zz_aload_0 S dX4_commissionsForWall_12 (q := 13) rfl ?_
      refine zz_getR S fX4_26 rfl (Nat.le_of_ble_eq_true rfl) rfl rfl dX4_commissionsForWall_13 (q := 16) rfl ?_
      refine zz_iload_3 S dX4_commissionsForWall_16 (q := 17) rfl ?_
      refine zz_aaN S (j := c) (Nat.le_of_ble_eq_true rfl) rfl ⟨Nat.le_of_ble_eq_true rfl, Nat.le_of_ble_eq_true rfl⟩ (Nat.le_of_ble_eq_true rfl) hx (by omega) (zc_ref c (by omega)) dX4_commissionsForWall_17 (q := 18) rfl ?_
      refine zz_getI S fX4_90 rfl (show 13 + c < 470 by omega) (zc_k c (by omega)) dX4_commissionsForWall_18 (q := 21) rfl ?_
      refine zz_iload_1 S dX4_commissionsForWall_21 (q := 22) rfl ?_
      refine zz_icmp_ne S dX4_commissionsForWall_22 (t := 28) (by decide) (q := 25) rfl (fun b1 => ?_) (fun b1 => ?_)
      · refine zz_iinc_3 S rfl dX4_commissionsForWall_28 (q := 31) rfl ?_
        refine zz_goto S dX4_commissionsForWall_31 (t := 4) (by decide) ?_
        rw [hs c (by omega)] at b1
        refine ih (c + 1) _ _ (by omega) (by rw [hx]; exact nI_add c 1) ?_
        rw [hF, op_foG]
        first | (rw [if_neg b1, Int32.add_zero]) | (rw [if_pos b1]; rfl)
      · refine zz_iinc_2 S rfl dX4_commissionsForWall_25 (q := 28) rfl ?_
        refine zz_iinc_3 S rfl dX4_commissionsForWall_28 (q := 31) rfl ?_
        refine zz_goto S dX4_commissionsForWall_31 (t := 4) (by decide) ?_
        rw [hs c (by omega)] at b1
        refine ih (c + 1) _ _ (by omega) (by rw [hx]; exact nI_add c 1) ?_
        rw [hF, op_foG]
        first | (rw [if_neg b1, Int32.add_zero]) | (rw [if_pos b1]; rfl)
theorem cx_forWall (st : Int32) (nc : Nat) (s : ZSt) (im : ZI) (h1 : im 2 5 = nI nc) (hn : nc ≤ 10) (hs : ∀ c, c < nc → im (13 + c) 1 = s (38 + 8 * c + 1)) : zz_OP G l 0 mX4_commissionsForWall [.ref 2, .int st] zE im (op_foG s st nc 0 0) := by
  refine zz_intro (isI := false) (by decide) rfl (Nat.le_of_ble_eq_true rfl) (fun h => by cases h) (fun w S => ?_)
  refine zz_iconst S (v := 0) rfl dX4_commissionsForWall_0 (q := 1) rfl ?_
  refine zz_istore_2 S rfl dX4_commissionsForWall_1 (q := 2) rfl ?_
  refine zz_iconst S (v := 0) rfl dX4_commissionsForWall_2 (q := 3) rfl ?_
  refine zz_istore_3 S rfl dX4_commissionsForWall_3 (q := 4) rfl ?_
  -- at 4
  exact lx_forWall S h1 hn hs ⟨rfl, _, rfl, rfl, rfl, rfl⟩ nc 0 _ _ (by omega) rfl rfl
set_option maxHeartbeats 4000000 in
theorem lx_knownWalls {n0 mcT msT : Nat} {isI : Bool} {Qf : Option Value → ZE → ZI → Prop} {w : Nat → ZL → List Value → Nat → ZE → ZI → Prop} {z : Nat} {im : ZI} {nw nc : Nat} {s : ZSt} (S : zz_S G l RX4 cX4_knownWalls 3 2 n0 mcT msT isI (some .int) Qf w)
    (hI : sI s nw nc) (hr : rS im 2 s nw nc) (hQ : Qf (some (.int (op_knG s nw 0 0))) zE im) :
    ∀ (n k : Nat) (x m : Int32), k + n = nw → x = nI k → op_knG s nw 0 0 = op_knG s n k m → w 4 [some (.ref 2), some (.int m), some (.int x)] [] z zE im := by
  have h0 : im 2 4 = nI nw := hr.n.1.trans hI.1
  have hw := hI.2.1
  have e4 : im 5 0 = s 4 := hr.set (by omega)
  intro n
  induction n with
  | zero =>
    intro k x m hk hx hF
    have hk : k = nw := by omega
    subst hk
    refine zz_iload_2 S dX4_knownWalls_4 (q := 5) rfl ?_
    refine zz_aload_0 S dX4_knownWalls_5 (q := 6) rfl ?_
    refine zz_getI S fX4_48 rfl (Nat.le_of_ble_eq_true rfl) rfl dX4_knownWalls_6 (q := 9) rfl ?_
    refine zz_icmp_ge S dX4_knownWalls_9 (t := 39) (by decide) (q := 12) rfl (fun a1 => ?_) (fun a1 => ?_)
    -- then 39 else 12
    · refine zz_iload_1 S dX4_knownWalls_39 (q := 40) rfl ?_
      -- at 40: ireturn 
      exact zz_iret S dX4_knownWalls_40 (by rw [hF] at hQ; exact hQ)
    · exact absurd (by rw [h0, hx]; exact Int32.le_refl _) a1
  | succ n ih =>
    intro k x m hk hx hF
    have hx2 := hr.wal (w := k) (by omega)
    have hs := hI.2.2.2.2.2.2.1 k (by omega)
    have key := zs_known (t := s 4) hs
    rw [← hx2.1, ← hx2.2] at key
    have ekn : sp_wd s k = -100009 ↔ ¬ (im (7 + k) 0 ≠ -100009 ∧ im (7 + k) 1 ≠ -100009 ∧ zs_size (im (7 + k) 0 - im (7 + k) 1) ≤ s 4) := by
      rw [key, hx2.1, hx2.2]
      constructor
      · intro e q
        exact sB_N (sp_wd_k hs q) e
      · intro q
        unfold sp_wd
        rw [if_pos (Classical.not_not.mp q)]
    refine zz_iload_2 S dX4_knownWalls_4 (q := 5) rfl ?_
    refine zz_aload_0 S dX4_knownWalls_5 (q := 6) rfl ?_
    refine zz_getI S fX4_48 rfl (Nat.le_of_ble_eq_true rfl) rfl dX4_knownWalls_6 (q := 9) rfl ?_
    refine zz_icmp_ge S dX4_knownWalls_9 (t := 39) (by decide) (q := 12) rfl (fun a1 => ?_) (fun a1 => ?_)
    -- then 39 else 12
    · exact absurd a1 (by rw [h0, hx]; exact nI_ge (by omega) (by omega))
    · refine zz_aload_0 S dX4_knownWalls_12 (q := 13) rfl ?_
      refine zz_getR S fX4_11 rfl (Nat.le_of_ble_eq_true rfl) rfl rfl dX4_knownWalls_13 (q := 16) rfl ?_
      refine zz_iload_2 S dX4_knownWalls_16 (q := 17) rfl ?_
      refine zz_aaN S (j := k) (Nat.le_of_ble_eq_true rfl) rfl ⟨Nat.le_of_ble_eq_true rfl, Nat.le_of_ble_eq_true rfl⟩ (Nat.le_of_ble_eq_true rfl) hx (by omega) (zw_ref k (by omega)) dX4_knownWalls_17 (q := 18) rfl ?_
      refine zz_aload_0 S dX4_knownWalls_18 (q := 19) rfl ?_
      refine zz_getR S fX4_21 rfl (Nat.le_of_ble_eq_true rfl) rfl rfl dX4_knownWalls_19 (q := 22) rfl ?_
      refine zz_iconst S (v := 0) rfl dX4_knownWalls_22 (q := 23) rfl ?_
      refine zz_iaN S (j := 0) (Nat.le_of_ble_eq_true rfl) rfl (Nat.le_of_ble_eq_true rfl) rfl (Nat.le_of_ble_eq_true rfl) dX4_knownWalls_23 (q := 24) rfl ?_
      -- at 24: invokevirtual 84
      rw [e4]
      refine zz_virtP S yy_X6_isKnown lX4_84 (ci := 6) (by decide) rfl (cx_isKnown (7 + k) (s 4) im (by omega) (zw_k k (by omega))) rfl (Nat.le_of_ble_eq_true rfl) (show 7 + k < 470 by omega) (zw_k k (by omega)) (Nat.le_of_ble_eq_true rfl) rfl dX4_knownWalls_24 (q := 27) rfl ?_
      refine zz_if_eq S dX4_knownWalls_27 (t := 33) (by decide) (q := 30) rfl (fun b1 => ?_) (fun b1 => ?_)
      -- then 33 else 30
      · refine zz_iinc_2 S rfl dX4_knownWalls_33 (q := 36) rfl ?_
        refine zz_goto S dX4_knownWalls_36 (t := 4) (by decide) ?_
        -- at 4
        refine ih (k + 1) _ _ (by omega) (by rw [hx]; exact nI_add k 1) ?_
        rw [hF, op_knG, if_pos (ekn.mpr (zs_b1.mp b1)), Int32.add_zero]
      · refine zz_iinc_1 S rfl dX4_knownWalls_30 (q := 33) rfl ?_
        refine zz_iinc_2 S rfl dX4_knownWalls_33 (q := 36) rfl ?_
        refine zz_goto S dX4_knownWalls_36 (t := 4) (by decide) ?_
        -- at 4
        refine ih (k + 1) _ _ (by omega) (by rw [hx]; exact nI_add k 1) ?_
        rw [hF, op_knG, if_neg (fun e => ekn.mp e (zs_ne0 b1))]
        rfl
theorem cx_knownWalls (nw nc : Nat) (s : ZSt) (im : ZI) (hI : sI s nw nc) (hr : rS im 2 s nw nc) : zz_OP G l 2 mX4_knownWalls [.ref 2] zE im (op_knG s nw 0 0) := by
  refine zz_intro (isI := false) (by decide) rfl (Nat.le_of_ble_eq_true rfl) (fun h => by cases h) (fun w S => ?_)
  refine zz_iconst S (v := 0) rfl dX4_knownWalls_0 (q := 1) rfl ?_
  refine zz_istore_1 S rfl dX4_knownWalls_1 (q := 2) rfl ?_
  refine zz_iconst S (v := 0) rfl dX4_knownWalls_2 (q := 3) rfl ?_
  refine zz_istore_2 S rfl dX4_knownWalls_3 (q := 4) rfl ?_
  -- at 4
  exact lx_knownWalls S hI hr ⟨rfl, _, rfl, rfl, rfl, rfl⟩ nw 0 _ _ (by omega) rfl rfl
end ZCLK
