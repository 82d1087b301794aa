/-! THE CLASS: run -/
/-- the class on its way through a program: the shop s, what was marked s0 -/
def zV (im : ZI) (s s0 : ZSt) (f n : Nat) (h : Nat → ZSt) (len : Nat) (tx : Nat → Int32) : Prop := rT im 1 s ∧ zRg im f n h ∧ zPg im len tx ∧ rT im (69 + 66 * f) s0
theorem zV.p {im im' : ZI} {s s0 : ZSt} {f n len : Nat} {h : Nat → ZSt} {tx : Nat → Int32} (hV : zV im s s0 f n h len tx) (hA : zAp im im') : zV im' s s0 f n h len tx := by
  obtain ⟨hT, ⟨hf, h1, hn, h2, h3⟩, hP, hM⟩ := hV
  have o : ∀ k, k < 465 → im' k = im k := fun k hk => hA.1 k (by simp; omega)
  refine ⟨hT.keep (fun k a b => o k (by omega)), ⟨hf, by rw [o 67 (by omega)]; exact h1, hn, by rw [o 67 (by omega)]; exact h2, fun i hi => ?_⟩, hA.pg hP, hM.keep (fun k a b => o k (by omega))⟩
  have := zr_ne hf hn hi
  exact (h3 i hi).keep (fun k a b => o k (by omega))
theorem zAp.hi {im im' : ZI} (h : zAp im im') : zHi im im' := fun k hk => h.1 k (by simp; omega)
theorem zHi.tr {im0 im1 im2 : ZI} (h : zHi im0 im1) (h2 : zHi im1 im2) : zHi im0 im2 := fun k hk => (h2 k hk).trans (h k hk)
theorem zFd.hi {im im' : ZI} (h : zFd im im') : zHi im im' := fun k hk => h k (by omega) (by omega) (by omega)
theorem zV.d {im im' : ZI} {s s' s0 : ZSt} {f n len nw' nc' : Nat} {h : Nat → ZSt} {tx : Nat → Int32} (hV : zV im s s0 f n h len tx) (hF : zFd im im') (hI : sI s' nw' nc') (hr : rS im' 2 s' nw' nc') (hs : ∀ j, 118 ≤ j → s' j = s j) : zV im' s' s0 f n h len tx := by
  obtain ⟨hT, hR, hP, hM⟩ := hV
  obtain ⟨hR2, hP2, hM2⟩ := hF.r hR hP hM
  refine ⟨⟨⟨nw', nc', hI, hr⟩, fun b hb => ?_⟩, hR2, hP2, hM2⟩
  obtain ⟨e1, e2⟩ := hT.2 b hb
  have esl : sl s' b = sl s b := by
    funext j
    unfold sl
    exact hs _ (by omega)
  rw [hs _ (by omega), hF (1 + 23) (by omega) (by omega) (by omega), esl]
  refine ⟨e1, ?_⟩
  rcases e2 with e2 | ⟨e2, nw2, nc2, hI2, hr2⟩
  · exact Or.inl e2
  · exact Or.inr ⟨e2, nw2, nc2, hI2, hr2.keep hI2.2.1 hI2.2.2.2.1 (fun k a b => hF k (by omega) (by omega) (by omega))⟩
theorem zCpS.x {im im' : ZI} {s s0 : ZSt} {f n len : Nat} {h : Nat → ZSt} {tx : Nat → Int32} (hc : zCpS im im' 1 (69 + 66 * f)) (hV : zV im s s0 f n h len tx) : zX im' s0 n h len tx ∧ zHi im im' := by
  obtain ⟨hT, ⟨hf, h1, hn, h2, h3⟩, hP, hM⟩ := hV
  have o : ∀ k, 67 ≤ k → im' k = im k := fun k hk => hc.2 k (by omega)
  refine ⟨⟨hM.cp hc.1, ⟨f, hf, by rw [o 67 (by omega)]; exact h1, hn, by rw [o 67 (by omega)]; exact h2, fun i hi => ?_⟩, ?_⟩, fun k hk => o k (by omega)⟩
  · exact (h3 i hi).keep (fun k a b => o k (by omega))
  · obtain ⟨p1, p2, p3, p4⟩ := hP
    exact ⟨by rw [o 465 (by omega)]; exact p1, p2, fun j hj => by rw [o 466 (by omega)]; exact p3 j hj, p4⟩
theorem rk_cmd_par {tx : Nat → Int32} {len : Nat} {s : ZSt} {T : ZTok} : rk_cmd tx len s T = rk_end tx len s (rk_word tx T) T.1 (rk_par tx len T) := by
  unfold rk_cmd rk_par
  by_cases h : rk_word tx T = 7
  · rw [if_pos h, if_pos h]
    rfl
  · rw [if_neg h, if_neg h]
theorem rk_par_7 {tx : Nat → Int32} {len : Nat} {T : ZTok} {q : ZTok × (Nat → Int32)} (h : rk_par tx len T = .inr q) : rk_word tx T ≠ 7 ∧ (T.2.1 ≤ len → zTk tx len T.2.1 q.1) := by
  unfold rk_par at h
  by_cases h7 : rk_word tx T = 7
  · rw [if_pos h7] at h
    cases h
  · rw [if_neg h7] at h
    refine ⟨h7, fun hl => ?_⟩
    have key := rk_nG_t (tx := tx) (len := len) (v := rk_word tx T) (rk_cnt (rk_word tx T)) 0 T.2.1 (tk tx len T.2.1) (fun _ => 0) (zTk.t (Nat.le_refl _) hl)
    rw [h] at key
    exact key
section ZCRN
variable {G : ZG} {l : Launch}
set_option maxHeartbeats 8000000 in
theorem lx_run {n0 mcT msT : Nat} {isI : Bool} {Qf : Option Value → ZE → ZI → Prop} {w : Nat → ZL → List Value → Nat → ZE → ZI → Prop} {z f n len : Nat} {h : Nat → ZSt} {tx : Nat → Int32} {s0 : ZSt} {im0 : ZI} {R : Nat ⊕ (ZSt × Nat)} (S : zz_S G l RX7 cX7_run 4 7 n0 mcT msT isI (some .int) Qf w)
    (hB : ∀ im' p r, r = -1000 - nI p → zX im' s0 n h len tx → zHi im0 im' → R = .inl p → Qf (some (.int r)) zE im')
    (hQ : ∀ im' s k u v, k ≤ 140 → zV im' s s0 f n h len tx → zHi im0 im' → R = .inr (s, k) → w 93 [some (.ref 0), some (.int (nI k)), u, v] [] z zE im') :
    ∀ (n1 k p : Nat) (s : ZSt) (u v : Option Value) (im : ZI), k + n1 = 140 → p ≤ len → im 465 4 = nI p → zV im s s0 f n h len tx → zHi im0 im → R = rk_runG tx len n1 s (tk tx len p) k → w 20 [some (.ref 0), some (.int (nI k)), u, v] [] z zE im := by
  intro n1
  induction n1 with
  | zero =>
    intro k p s u v im hk hp h4 hV hH hR
    refine zz_iload_1 S dX7_run_20 (q := 21) rfl ?_
    refine zz_sipush S (v := 140) rfl dX7_run_21 (q := 24) rfl ?_
    refine zz_icmp_ge S dX7_run_24 (t := 93) (by decide) (q := 27) rfl (fun a1 => ?_) (fun a1 => ?_)
    -- then 93 else 27
    · exact hQ im s k u v (by omega) hV hH hR
    · exact absurd (nI_le (a := 140) (by omega) (by omega)) a1
  | succ n1 ih =>
    intro k p s u v im hk hp h4 hV hH hR
    rw [rk_runG] at hR
    refine zz_iload_1 S dX7_run_20 (q := 21) rfl ?_
    refine zz_sipush S (v := 140) rfl dX7_run_21 (q := 24) rfl ?_
    refine zz_icmp_ge S dX7_run_24 (t := 93) (by decide) (q := 27) rfl (fun a1 => ?_) (fun a1 => ?_)
    -- then 93 else 27
    · exact absurd a1 (nI_ge (b := 140) (by omega) (by omega))
    · refine zz_aload_0 S dX7_run_27 (q := 28) rfl ?_
      refine zz_getR S fX7_26 rfl (Nat.le_of_ble_eq_true rfl) rfl rfl dX7_run_28 (q := 31) rfl ?_
      -- at 31: invokevirtual 108
      refine zz_virtI S yy_X3_advance lX7_108 (ci := 3) (by decide) rfl (cx_advance p len tx im h4 hp hV.2.2.1) rfl (Nat.le_of_ble_eq_true rfl) (Nat.le_of_ble_eq_true rfl) rfl (Nat.le_of_ble_eq_true rfl) rfl dX7_run_31 (q := 34) rfl ?_
      rintro r1 im1 ⟨rfl, hk1, hA1⟩
      have hV1 := hV.p hA1.p
      have hH1 := hH.tr hA1.p.hi
      have hti := tk_in tx hp
      by_cases hz : (tk tx len p).2.2 = 0
      · rw [if_pos hz] at hR ⊢
        refine zz_if_eq S dX7_run_34 (t := 93) (by decide) (q := 37) rfl (fun a2 => ?_) (fun a2 => ?_)
        -- then 93 else 37
        · exact hQ im1 s k u v (by omega) hV1 hH1 hR
        · exact absurd rfl a2
      · rw [if_neg hz] at hR ⊢
        refine zz_if_eq S dX7_run_34 (t := 93) (by decide) (q := 37) rfl (fun a2 => ?_) (fun a2 => ?_)
        -- then 93 else 37
        · exact absurd a2 (by decide)
        · have fail : ∀ (q : Nat) (x : Int32) (im2 : ZI) (s2 : ZSt), x = nI q → R = .inl q → zV im2 s2 s0 f n h len tx → zHi im0 im2 → ∀ r im3, r = -1000 - x → zCpS im2 im3 1 (69 + 66 * f) → Qf (some (.int r)) zE im3 := fun q x im2 s2 hx hRq hV2 hH2 r im3 hr hc => by
            obtain ⟨g1, g2⟩ := hc.x hV2
            exact hB im3 q r (by rw [hr, hx]) g1 (hH2.tr g2) hRq
          refine zz_aload_0 S dX7_run_37 (q := 38) rfl ?_
          refine zz_getR S fX7_26 rfl (Nat.le_of_ble_eq_true rfl) rfl rfl dX7_run_38 (q := 41) rfl ?_
          refine zz_getI S fX7_112 rfl (Nat.le_of_ble_eq_true rfl) rfl dX7_run_41 (q := 44) rfl ?_
          refine zz_istore_2 S rfl dX7_run_44 (q := 45) rfl ?_
          refine zz_aload_0 S dX7_run_45 (q := 46) rfl ?_
          refine zz_getR S fX7_26 rfl (Nat.le_of_ble_eq_true rfl) rfl rfl dX7_run_46 (q := 49) rfl ?_
          -- at 49: invokevirtual 115
          refine zz_virtI S yy_X3_parseCommand lX7_115 (ci := 3) (by decide) rfl (cx_parse p len tx im1 hp hV1.2.2.1 hk1) rfl (Nat.le_of_ble_eq_true rfl) (Nat.le_of_ble_eq_true rfl) rfl (Nat.le_of_ble_eq_true rfl) rfl dX7_run_49 (q := 52) rfl ?_
          rintro r2 im2 ⟨hA2, hr2⟩
          have hV2 := hV1.p hA2
          have hH2 := hH1.tr hA2.hi
          have hf := hV2.2.1.1
          rw [rk_cmd_par] at hR
          have h7 := fun (q : ZTok × (Nat → Int32)) => rk_par_7 (tx := tx) (len := len) (T := tk tx len p) (q := q)
          have hw7 := rk_word_in tx (tk tx len p)
          have e13 : im1 465 3 = nI (tk tx len p).1 := hk1.1
          generalize rk_word tx (tk tx len p) = vw at hR hr2 h7 hw7
          generalize rk_par tx len (tk tx len p) = RP at hR hr2 h7
          have bad : ∀ q, r2 = -1 → im2 465 3 = nI q → R = .inl q → w 53 [some (.ref 0), some (.int (nI k)), some (.int (im1 465 3)), some (.int r2)] [] z zE im2 := fun q e1 e2 e3 => by
            subst e1
            refine zz_iload_3 S dX7_run_53 (q := 54) rfl ?_
            refine zz_iconst S (v := (-1)) rfl dX7_run_54 (q := 55) rfl ?_
            refine zz_icmp_ne S dX7_run_55 (t := 70) (by decide) (q := 58) rfl (fun b1 => ?_) (fun b1 => ?_)
            -- then 70 else 58
            · exact absurd rfl b1
            · refine zz_aload_0 S dX7_run_58 (q := 59) rfl ?_
              refine zz_aload_0 S dX7_run_59 (q := 60) rfl ?_
              refine zz_getR S fX7_26 rfl (Nat.le_of_ble_eq_true rfl) rfl rfl dX7_run_60 (q := 63) rfl ?_
              refine zz_getI S fX7_112 rfl (Nat.le_of_ble_eq_true rfl) rfl dX7_run_63 (q := 66) rfl ?_
              -- at 66: invokevirtual 118
              refine zz_virtI S yy_X7_failedAt lX7_118 (ci := 7) (by decide) rfl (cx_failedAt (im2 465 3) f im2 hf hV2.2.1.2.1 hV2.2.2.2.f01) rfl (Nat.le_of_ble_eq_true rfl) (Nat.le_of_ble_eq_true rfl) rfl (Nat.le_of_ble_eq_true rfl) rfl dX7_run_66 (q := 69) rfl ?_
              rintro r3 im3 ⟨hr3, hc3⟩
              exact zz_iret S dX7_run_69 (fail q _ im2 s e2 e3 hV2 hH2 r3 im3 hr3 hc3)
          refine zz_istore_3 S rfl dX7_run_52 (q := 53) rfl ?_
          -- at 53
          cases RP with
          | inl q => exact bad q hr2.1 hr2.2 hR
          | inr q =>
            obtain ⟨h71, h72⟩ := h7 q rfl
            have hv : vw < 7 := by omega
            rw [zPr] at hr2
            rw [rk_end] at hR
            by_cases hc : q.1.2.2 = 3 ∧ ta tx len q.1.1 = 59
            · rw [if_pos hc] at hr2 hR
              obtain ⟨rfl, hk2, hrow⟩ := hr2
              have hnn : nI vw ≠ -1 := fun e => by
                have h1 := nI_pos' (n := vw) (by omega)
                rw [e] at h1
                exact absurd h1 (by decide)
              obtain ⟨⟨nw, nc, hI, hr⟩, -⟩ := hV2.1
              refine zz_iload_3 S dX7_run_53 (q := 54) rfl ?_
              refine zz_iconst S (v := (-1)) rfl dX7_run_54 (q := 55) rfl ?_
              refine zz_icmp_ne S dX7_run_55 (t := 70) (by decide) (q := 58) rfl (fun b1 => ?_) (fun b1 => ?_)
              -- then 70 else 58
              · refine zz_aload_0 S dX7_run_70 (q := 71) rfl ?_
                refine zz_iload_3 S dX7_run_71 (q := 72) rfl ?_
                -- at 72: invokevirtual 121
                refine zz_virtI S yy_X7_perform lX7_121 (ci := 7) (by decide) rfl (cx_perform (nI vw) vw nw nc s im2 rfl hv hI hr) rfl (Nat.le_of_ble_eq_true rfl) (Nat.le_of_ble_eq_true rfl) rfl (Nat.le_of_ble_eq_true rfl) rfl dX7_run_72 (q := 75) rfl ?_
                rintro r3 im3 ⟨hF3, hok, hno⟩
                rw [rk_code_eq hv hrow, rk_do_eq hv hrow] at hok
                rw [rk_code_eq hv hrow] at hno
                refine zz_statP S yy_X7_isError lX7_124 (cx_isError r3 zE im3) rfl (Nat.le_of_ble_eq_true rfl) (Nat.le_of_ble_eq_true rfl) rfl dX7_run_75 (q := 78) rfl ?_
                by_cases hcd : rk_code s vw q.2 ≥ 0
                · rw [if_pos hcd] at hR
                  obtain ⟨hne, nw', nc', hI', hr'⟩ := hok hcd
                  rw [if_neg (show ¬ (r3 = -100001 ∨ r3 = -100002 ∨ r3 = -100003) from hne)]
                  refine zz_if_eq S dX7_run_78 (t := 87) (by decide) (q := 81) rfl (fun b2 => ?_) (fun b2 => ?_)
                  -- then 87 else 81
                  · refine zz_iinc_1 S rfl dX7_run_87 (q := 90) rfl ?_
                    refine zz_goto S dX7_run_90 (t := 20) (by decide) ?_
                    -- at 20
                    rw [show nI k + Int32.ofInt 1 = nI (k + 1) from nI_1 k]
                    have hq := zTk.i (h72 hti.2.2.1)
                    refine ih (k + 1) q.1.2.1 _ _ _ im3 (by omega) hq.2.2.1 ?_ (hV2.d hF3 hI' hr' (fun j hj => rk_do_far hv hI hcd hj)) (hH2.tr hF3.hi) hR
                    rw [hF3 465 (by omega) (by omega) (by omega)]
                    exact hk2.2
                  · exact absurd rfl b2
                · rw [if_neg hcd] at hR
                  rw [if_pos (show r3 = -100001 ∨ r3 = -100002 ∨ r3 = -100003 from hno hcd)]
                  obtain ⟨hR3, hP3, hM3⟩ := hF3.r hV2.2.1 hV2.2.2.1 hV2.2.2.2
                  refine zz_if_eq S dX7_run_78 (t := 87) (by decide) (q := 81) rfl (fun b2 => ?_) (fun b2 => ?_)
                  -- then 87 else 81
                  · exact absurd b2 (by decide)
                  · refine zz_aload_0 S dX7_run_81 (q := 82) rfl ?_
                    refine zz_iload_2 S dX7_run_82 (q := 83) rfl ?_
                    -- at 83: invokevirtual 118
                    refine zz_virtI S yy_X7_failedAt lX7_118 (ci := 7) (by decide) rfl (cx_failedAt (im1 465 3) f im3 hf hR3.2.1 hM3.f01) rfl (Nat.le_of_ble_eq_true rfl) (Nat.le_of_ble_eq_true rfl) rfl (Nat.le_of_ble_eq_true rfl) rfl dX7_run_83 (q := 86) rfl ?_
                    rintro r4 im4 ⟨hr4, hc4⟩
                    refine zz_iret S dX7_run_86 (hB im4 _ r4 (by rw [hr4, e13]) ?_ ?_ hR)
                    · obtain ⟨hf3, h31, hn3, h32, h33⟩ := hR3
                      have o : ∀ k, 67 ≤ k → im4 k = im3 k := fun k hk => hc4.2 k (by omega)
                      refine ⟨hM3.cp hc4.1, ⟨f, hf3, by rw [o 67 (by omega)]; exact h31, hn3, by rw [o 67 (by omega)]; exact h32, fun i hi => ?_⟩, ?_⟩
                      · exact (h33 i hi).keep (fun k a b => o k (by omega))
                      · obtain ⟨p1, p2, p3, p4⟩ := hP3
                        exact ⟨by rw [o 465 (by omega)]; exact p1, p2, fun j hj => by rw [o 466 (by omega)]; exact p3 j hj, p4⟩
                    · exact (hH2.tr hF3.hi).tr (fun k hk => hc4.2 k (by omega))
              · exact absurd b1 hnn
            · rw [if_neg hc] at hr2 hR
              exact bad _ hr2.1 hr2.2 hR
set_option maxHeartbeats 4000000 in
theorem cx_prun (f n len : Nat) (h : Nat → ZSt) (s : ZSt) (tx : Nat → Int32) (im : ZI) (hT : rT im 1 s) (hR : zRg im f n h) (hP : zPg im len tx) : zz_OI G l 7 mX7_run [.ref 0] zE im (fun r im' => zXT im im' r (ot_run tx s n h len).1 (ot_run tx s n h len).2.1 (ot_run tx s n h len).2.2.1 (ot_run tx s n h len).2.2.2.1 (ot_run tx s n h len).2.2.2.2 tx) := by
  have hf := hR.1
  have hn := hR.2.2.1
  unfold ot_run
  generalize hRR : rk_runG tx len 140 s (tk tx len 0) 0 = R
  refine zz_intro (isI := false) (by decide) rfl (Nat.le_of_ble_eq_true rfl) (fun h => by cases h) (fun w S => ?_)
  refine zz_aload_0 S dX7_run_0 (q := 1) rfl ?_
  refine zz_getR S fX7_19 rfl (Nat.le_of_ble_eq_true rfl) rfl rfl dX7_run_1 (q := 4) rfl ?_
  refine zz_aload_0 S dX7_run_4 (q := 5) rfl ?_
  refine zz_getR S fX7_10 rfl (Nat.le_of_ble_eq_true rfl) rfl rfl dX7_run_5 (q := 8) rfl ?_
  -- at 8: invokevirtual 42
  refine zz_virtV S yy_X2_mark lX7_42 (ci := 2) (by decide) rfl (cx_mark f im hf hR.2.1 hT.f01) rfl (Nat.le_of_ble_eq_true rfl) (Nat.le_of_ble_eq_true rfl) rfl (Nat.le_of_ble_eq_true rfl) rfl dX7_run_8 (q := 11) rfl ?_
  intro im1 hc
  obtain ⟨hT1, hR1, hP1, hM1⟩ := zX_mark hT hR hP hc
  have hH1 : zHi im im1 := fun k hk => hc.2 k (by omega)
  refine zz_aload_0 S dX7_run_11 (q := 12) rfl ?_
  refine zz_getR S fX7_26 rfl (Nat.le_of_ble_eq_true rfl) rfl rfl dX7_run_12 (q := 15) rfl ?_
  -- at 15: invokevirtual 105
  refine zz_virtV S yy_X3_rewind lX7_105 (ci := 3) (by decide) rfl (cx_rewind im1) rfl (Nat.le_of_ble_eq_true rfl) (Nat.le_of_ble_eq_true rfl) rfl (Nat.le_of_ble_eq_true rfl) rfl dX7_run_15 (q := 18) rfl ?_
  rintro im2 ⟨h24, hA2⟩
  have hV2 : zV im2 s s f n h len tx := zV.p ⟨hT1, hR1, hP1, hM1⟩ hA2.p
  refine zz_iconst S (v := 0) rfl dX7_run_18 (q := 19) rfl ?_
  refine zz_istore_1 S rfl dX7_run_19 (q := 20) rfl ?_
  -- at 20
  refine lx_run (f := f) (n := n) (len := len) (h := h) (tx := tx) (s0 := s) (im0 := im) (R := R) S (fun im' p r hr hX hH hRp => ?_) (fun im' s' k u v hk hV hH hRq => ?_) 140 0 0 s _ _ im2 (by omega) (by omega) h24 hV2 (hH1.tr hA2.p.hi) hRR.symm
  · refine ⟨rfl, _, rfl, rfl, ?_⟩
    rw [hRp]
    exact ⟨hr, hX, hH⟩
  · obtain ⟨hT3, hR3, hP3, hM3⟩ := hV
    refine zz_aload_0 S dX7_run_93 (q := 94) rfl ?_
    refine zz_getR S fX7_19 rfl (Nat.le_of_ble_eq_true rfl) rfl rfl dX7_run_94 (q := 97) rfl ?_
    -- at 97: invokevirtual 128
    refine zz_virtV S yy_X2_keepMarked lX7_128 (ci := 2) (by decide) rfl (cx_keep f n im' hf hn hR3.2.1 hR3.2.2.2.1) rfl (Nat.le_of_ble_eq_true rfl) (Nat.le_of_ble_eq_true rfl) rfl (Nat.le_of_ble_eq_true rfl) rfl dX7_run_97 (q := 100) rfl ?_
    rintro im3 ⟨k1, k2, k3⟩
    have hP4 : zPg im3 len tx := by
      obtain ⟨p1, p2, p3, p4⟩ := hP3
      exact ⟨by rw [k3 465 (by omega)]; exact p1, p2, fun j hj => by rw [k3 466 (by omega)]; exact p3 j hj, p4⟩
    refine zz_aload_0 S dX7_run_100 (q := 101) rfl ?_
    refine zz_getR S fX7_26 rfl (Nat.le_of_ble_eq_true rfl) rfl rfl dX7_run_101 (q := 104) rfl ?_
    -- at 104: invokevirtual 102
    refine zz_virtI S yy_X3_empty lX7_102 (ci := 3) (by decide) rfl (cx_empty len tx im3 hP4) rfl (Nat.le_of_ble_eq_true rfl) (Nat.le_of_ble_eq_true rfl) rfl (Nat.le_of_ble_eq_true rfl) rfl dX7_run_104 (q := 107) rfl ?_
    rintro r4 im4 ⟨-, hP5, hk5⟩
    refine zz_pop S rfl dX7_run_107 (q := 108) rfl ?_
    refine zz_iload_1 S dX7_run_108 (q := 109) rfl ?_
    -- at 109: ireturn 
    refine zz_iret S dX7_run_109 ⟨rfl, _, rfl, rfl, ?_⟩
    rw [hRq]
    refine ⟨rfl, zX_text (hT3.keep (fun k a b => k3 k (by omega))) ⟨_, zX_keep hR3 hM3 k1 k2 k3⟩ (fun k hk => hk5 k (by simp; omega)) hP5, fun k hk => ?_⟩
    rw [hk5 k (by simp; omega), k3 k (by omega)]
    exact hH k hk
end ZCRN
