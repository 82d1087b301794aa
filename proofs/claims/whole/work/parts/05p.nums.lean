/-! THE REFERENCE: numbers in the text, commands -/
abbrev rk_neg (tx : Nat → Int32) (len v i : Nat) (T : ZTok) : Prop := v = 1 ∧ i = 1 ∧ T.2.2 = 3 ∧ ta tx len T.1 = 45
def rk_n1 (tx : Nat → Int32) (len v i : Nat) (T : ZTok) : ZTok := if rk_neg tx len v i T then tk tx len T.2.1 else T
abbrev rk_bad (tx : Nat → Int32) (len : Nat) (T : ZTok) : Prop := ¬ T.2.2 = 2 ∨ 4 < T.2.1 - T.1 ∨ (1 < T.2.1 - T.1 ∧ ta tx len T.1 = 48)
def rk_vG (tx : Nat → Int32) (len : Nat) : Nat → Nat → Int32 → Int32
  | 0, _, a => a
  | n + 1, p, a => rk_vG tx len n (p + 1) (10 * a + ta tx len p - 48)
def rk_sg (tx : Nat → Int32) (len v i : Nat) (T : ZTok) : Int32 := if rk_neg tx len v i T then -1 else 1
def rk_v (tx : Nat → Int32) (len : Nat) (T : ZTok) : Int32 := rk_vG tx len (T.2.1 - T.1) T.1 0
def zM (im im' : ZI) : Prop := zz_keep [470, 475] im im' ∧ ∀ j, j ≠ 11 → j ≠ 12 → j ≠ 13 → j ≠ 14 → im' 470 j = im 470 j
theorem zM.rf {im : ZI} : zM im im := ⟨zz_keep.rf, fun _ _ _ _ _ => rfl⟩
theorem zM.n {im0 im1 im2 : ZI} (h : zM im0 im1) (h2 : zN im1 im2) : zM im0 im2 := ⟨h.1.tr (h2.1.le (by decide)) (fun _ q => q), fun j a b c d => (h2.2 j a b c).trans (h.2 j a b c d)⟩
theorem zM.tr {im0 im1 im2 : ZI} (h : zM im0 im1) (h2 : zM im1 im2) : zM im0 im2 := ⟨h.1.tr h2.1 (fun _ q => q), fun j a b c d => (h2.2 j a b c d).trans (h.2 j a b c d)⟩
theorem zM.u14 {im0 im1 : ZI} (h : zM im0 im1) {v : Int32} : zM im0 (zz_u im1 470 14 v) := ⟨h.1.u (by decide), fun j a b c d => by rw [zz_u_n _ _ (Or.inr d)]; exact h.2 j a b c d⟩
theorem zM.u475 {im0 im1 : ZI} (h : zM im0 im1) {j : Nat} {v : Int32} : zM im0 (zz_u im1 475 j v) := ⟨h.1.u (by decide), fun k a b c d => by rw [zz_u_n _ _ (Or.inl (by decide))]; exact h.2 k a b c d⟩
theorem zTx_tk {im im' : ZI} {T : ZTok} {len p : Nat} (h : zTx im T len) (hk : zM im im') (hp : p ≤ len) (hT : zT im' (tk (im 474) len p)) : zTx im' (tk (im 474) len p) len := by
  have h1 := tk_in (im 474) hp
  exact ⟨hT, by rw [hk.2 6 (by decide) (by decide) (by decide) (by decide)]; exact h.2.1, h.2.2.1, ⟨h1.2.1, h1.2.2.1, h1.2.2.2.1⟩, by rw [hk.1 474 (by decide)]; exact h.2.2.2.2⟩
section ZNUM
variable {G : ZG} {l : Launch}
set_option maxHeartbeats 4000000 in
theorem lo_readNumber {n0 mcT msT : Nat} {isI : Bool} {Qf : Option Value → ZE → ZI → Prop} {w : Nat → ZL → List Value → Nat → ZE → ZI → Prop} {z len : Nat} {T : ZTok} {im : ZI} {x y g Z : Int32} (S : zz_S G l RX8 cX8_readNumber 6 2 n0 mcT msT isI none Qf w)
    (hT : zTx im T len) (hQ : ∀ u, w 136 [some (.ref 470), some (.int x), some (.int y), some (.int g), some (.int Z), u] [] z zE im) :
    ∀ (n p : Nat) (q a : Int32), p + n = T.2.1 → q = nI p → Z = rk_vG (im 474) len n p a → w 104 [some (.ref 470), some (.int x), some (.int y), some (.int g), some (.int a), some (.int q)] [] z zE im := by
  obtain ⟨⟨h12, h13, h11⟩, hl, hln, ⟨hT1, hT2, -⟩, hc⟩ := hT
  intro n
  induction n with
  | zero =>
    intro p q a hp hq hF
    have hp : p = T.2.1 := by omega
    subst hp
    refine zz_iload_5 S dX8_readNumber_104 (q := 106) rfl ?_
    refine zz_aload_0 S dX8_readNumber_106 (q := 107) rfl ?_
    refine zz_getI S fX8_202 rfl (Nat.le_of_ble_eq_true rfl) rfl dX8_readNumber_107 (q := 110) rfl ?_
    refine zz_icmp_ge S dX8_readNumber_110 (t := 136) (by decide) (q := 113) rfl (fun a1 => ?_) (fun a1 => ?_)
    -- then 136 else 113
    · rw [hF] at hQ
      exact hQ _
    · exact absurd (by rw [h13, hq]; exact Int32.le_refl _) a1
  | succ n ih =>
    intro p q a hp hq hF
    refine zz_iload_5 S dX8_readNumber_104 (q := 106) rfl ?_
    refine zz_aload_0 S dX8_readNumber_106 (q := 107) rfl ?_
    refine zz_getI S fX8_202 rfl (Nat.le_of_ble_eq_true rfl) rfl dX8_readNumber_107 (q := 110) rfl ?_
    refine zz_icmp_ge S dX8_readNumber_110 (t := 136) (by decide) (q := 113) rfl (fun a1 => ?_) (fun a1 => ?_)
    -- then 136 else 113
    · exact absurd a1 (by rw [h13, hq]; exact nI_ge (by omega) (by omega))
    · refine zz_bipush S (v := 10) rfl dX8_readNumber_113 (q := 115) rfl ?_
      refine zz_iload_4 S dX8_readNumber_115 (q := 117) rfl ?_
      refine zz_imul S dX8_readNumber_117 (q := 118) rfl ?_
      refine zz_aload_0 S dX8_readNumber_118 (q := 119) rfl ?_
      refine zz_iload_5 S dX8_readNumber_119 (q := 121) rfl ?_
      -- at 121: invokevirtual 208
      refine zz_virtP S yy_X8_at lX8_208 (ci := 8) (by decide) rfl (co_at q p len im hq (by omega) hl hln) rfl (Nat.le_of_ble_eq_true rfl) (Nat.le_of_ble_eq_true rfl) rfl (Nat.le_of_ble_eq_true rfl) rfl dX8_readNumber_121 (q := 124) rfl ?_
      refine zz_iadd S dX8_readNumber_124 (q := 125) rfl ?_
      refine zz_bipush S (v := 48) rfl dX8_readNumber_125 (q := 127) rfl ?_
      refine zz_isub S dX8_readNumber_127 (q := 128) rfl ?_
      refine zz_istore_4 S rfl dX8_readNumber_128 (q := 130) rfl ?_
      refine zz_iinc_5 S rfl dX8_readNumber_130 (q := 133) rfl ?_
      refine zz_goto S dX8_readNumber_133 (t := 104) (by decide) ?_
      -- at 104
      exact ih (p + 1) _ _ (by omega) (by rw [hq]; exact nI_1 p) hF
/-- what reading a number comes to -/
def zRn (im im' : ZI) (len v i : Nat) (T : ZTok) : Prop := zM im im' ∧ (if rk_bad (im 474) len (rk_n1 (im 474) len v i T) then im' 470 14 = nI (rk_n1 (im 474) len v i T).1 ∧ im' 475 = im 475
  else zT im' (tk (im 474) len (rk_n1 (im 474) len v i T).2.1) ∧ im' 470 14 = im 470 14 ∧ im' 475 = upd (im 475) i (rk_sg (im 474) len v i T * rk_v (im 474) len (rk_n1 (im 474) len v i T)))
set_option maxHeartbeats 4000000 in
theorem co_readNumber (x y : Int32) (v i len : Nat) (T : ZTok) (im : ZI) (hx : x = nI v) (hv : v < 7) (hy : y = nI i) (hi : i < 3) (hT : zTx im T len) (hf : im 470 14 = -1) : zz_OV G l 2 mX8_readNumber [.ref 470, .int x, .int y] zE im (fun im' => zRn im im' len v i T) := by
  -- behind the sign
  have fin : ∀ (w : Nat → ZL → List Value → Nat → ZE → ZI → Prop), zz_S G l RX8 cX8_readNumber 6 2 zE.1 0 0 false none (fun v' E' im' => E'.1 = zE.1 + 0 ∧ v' = none ∧ E' = zE ∧ zRn im im' len v i T) w →
      ∀ (T1 : ZTok) (im1 : ZI) (g : Int32), T1 = rk_n1 (im 474) len v i T → g = rk_sg (im 474) len v i T → zTx im1 T1 len → zM im im1 → im1 470 14 = -1 → im1 475 = im 475 → w 39 [some (.ref 470), some (.int x), some (.int y), some (.int g), none, none] [] 0 zE im1 := by
    intro w S T1 im1 g e1 eg hT1 hM h14 h475
    have h1 := hT1
    obtain ⟨⟨h12, h13, h11⟩, hl, hln, ⟨hTa, hTb, hTc⟩, hc⟩ := h1
    have e474 : im1 474 = im 474 := hM.1 474 (by decide)
    have hd : im1 470 13 - im1 470 12 = nI (T1.2.1 - T1.1) := by rw [h12, h13]; exact pk_sub hTa
    have hx2 := nI_toInt (n := T1.2.1 - T1.1) (by omega)
    have k2 : im1 470 11 = 2 ↔ T1.2.2 = 2 := by rw [h11]; exact nI_eq (a := T1.2.2) (b := 2) (by omega) (by omega)
    have k4 : im1 470 13 - im1 470 12 > 4 ↔ 4 < T1.2.1 - T1.1 := by
      rw [hd, gt_iff_lt, Int32.lt_iff_toInt_lt, hx2]
      show (4 : Int) < _ ↔ _
      omega
    have k1 : im1 470 13 - im1 470 12 ≤ 1 ↔ ¬ 1 < T1.2.1 - T1.1 := by
      rw [hd, Int32.le_iff_toInt_le, hx2]
      show _ ≤ (1 : Int) ↔ _
      omega
    have bad : rk_bad (im 474) len T1 → w 86 [some (.ref 470), some (.int x), some (.int y), some (.int g), none, none] [] 0 zE im1 := fun hb => by
      refine zz_aload_0 S dX8_readNumber_86 (q := 87) rfl ?_
      refine zz_aload_0 S dX8_readNumber_87 (q := 88) rfl ?_
      refine zz_getI S fX8_205 rfl (Nat.le_of_ble_eq_true rfl) rfl dX8_readNumber_88 (q := 91) rfl ?_
      -- at 91: invokevirtual 230
      refine zz_virtV S yy_X8_fail lX8_230 (ci := 8) (by decide) rfl (co_fail (im1 470 12) im1) rfl (Nat.le_of_ble_eq_true rfl) (Nat.le_of_ble_eq_true rfl) rfl (Nat.le_of_ble_eq_true rfl) rfl dX8_readNumber_91 (q := 94) rfl ?_
      rintro im2 rfl
      rw [if_pos (by rw [h14]; decide)]
      refine zz_vret S dX8_readNumber_94 ⟨rfl, rfl, rfl, ?_⟩
      refine ⟨hM.u14, ?_⟩
      rw [← e1, if_pos hb]
      exact ⟨by rw [zz_u_e]; exact h12, by rw [zz_u_off _ _ _ _ (by decide)]; exact h475⟩
    have good : ¬ rk_bad (im 474) len T1 → w 95 [some (.ref 470), some (.int x), some (.int y), some (.int g), none, none] [] 0 zE im1 := fun hb => by
      refine zz_iconst S (v := 0) rfl dX8_readNumber_95 (q := 96) rfl ?_
      refine zz_istore_4 S rfl dX8_readNumber_96 (q := 98) rfl ?_
      refine zz_aload_0 S dX8_readNumber_98 (q := 99) rfl ?_
      refine zz_getI S fX8_205 rfl (Nat.le_of_ble_eq_true rfl) rfl dX8_readNumber_99 (q := 102) rfl ?_
      refine zz_istore_5 S rfl dX8_readNumber_102 (q := 104) rfl ?_
      -- at 104
      refine lo_readNumber (T := T1) (len := len) (Z := rk_v (im 474) len T1) S hT1 (fun u => ?_) (T1.2.1 - T1.1) T1.1 _ 0 (by omega) h12 (by rw [e474]; rfl)
      refine zz_aload_0 S dX8_readNumber_136 (q := 137) rfl ?_
      refine zz_getR S fX8_22 rfl (Nat.le_of_ble_eq_true rfl) rfl rfl dX8_readNumber_137 (q := 140) rfl ?_
      refine zz_iload_2 S dX8_readNumber_140 (q := 141) rfl ?_
      refine zz_iload_3 S dX8_readNumber_141 (q := 142) rfl ?_
      refine zz_iload_4 S dX8_readNumber_142 (q := 144) rfl ?_
      refine zz_imul S dX8_readNumber_144 (q := 145) rfl ?_
      refine zz_iaS S (j := i) (Nat.le_of_ble_eq_true rfl) rfl (Nat.le_of_ble_eq_true rfl) hy hi dX8_readNumber_145 (q := 146) rfl ?_
      refine zz_aload_0 S dX8_readNumber_146 (q := 147) rfl ?_
      -- at 147: invokevirtual 227
      generalize him : zz_u im1 475 i (g * rk_v (im 474) len T1) = im2
      have u13 : im2 470 13 = nI T1.2.1 := by rw [← him, zz_u_n _ _ (Or.inl (by decide))]; exact h13
      have u6 : im2 470 6 = nI len := by rw [← him, zz_u_n _ _ (Or.inl (by decide))]; exact hl
      have u474 : im2 474 = im 474 := by rw [← him, zz_u_off _ _ _ _ (by decide)]; exact e474
      have u14 : im2 470 14 = -1 := by rw [← him, zz_u_n _ _ (Or.inl (by decide))]; exact h14
      have u475 : im2 475 = upd (im 475) i (g * rk_v (im 474) len T1) := by rw [← him, zz_u_row, h475]
      have uM : zM im im2 := by rw [← him]; exact hM.u475
      refine zz_virtV S yy_X8_next lX8_227 (ci := 8) (by decide) rfl (co_next T1.2.1 len im2 u13 hTb u6 hln) rfl (Nat.le_of_ble_eq_true rfl) (Nat.le_of_ble_eq_true rfl) rfl (Nat.le_of_ble_eq_true rfl) rfl dX8_readNumber_147 (q := 150) rfl ?_
      rintro im3 ⟨n1, n2⟩
      refine zz_vret S dX8_readNumber_150 ⟨rfl, rfl, rfl, ?_⟩
      refine ⟨uM.n n2, ?_⟩
      rw [← e1, if_neg hb, ← eg]
      exact ⟨by rw [← u474]; exact n1, by rw [n2.2 14 (by decide) (by decide) (by decide), u14, hf], by rw [n2.1 475 (by decide)]; exact u475⟩
    refine zz_aload_0 S dX8_readNumber_39 (q := 40) rfl ?_
    refine zz_getI S fX8_211 rfl (Nat.le_of_ble_eq_true rfl) rfl dX8_readNumber_40 (q := 43) rfl ?_
    refine zz_iconst S (v := 2) rfl dX8_readNumber_43 (q := 44) rfl ?_
    refine zz_icmp_ne S dX8_readNumber_44 (t := 86) (by decide) (q := 47) rfl (fun b1 => ?_) (fun b1 => ?_)
    · first | exact bad (Or.inl (fun e => b1 (k2.mpr e))) | exact bad (Or.inr (Or.inl (k4.mp b2))) | exact bad (Or.inr (Or.inr ⟨Classical.not_not.mp (fun e => b3 (k1.mpr e)), b4⟩))
    · refine zz_aload_0 S dX8_readNumber_47 (q := 48) rfl ?_
      refine zz_getI S fX8_202 rfl (Nat.le_of_ble_eq_true rfl) rfl dX8_readNumber_48 (q := 51) rfl ?_
      refine zz_aload_0 S dX8_readNumber_51 (q := 52) rfl ?_
      refine zz_getI S fX8_205 rfl (Nat.le_of_ble_eq_true rfl) rfl dX8_readNumber_52 (q := 55) rfl ?_
      refine zz_isub S dX8_readNumber_55 (q := 56) rfl ?_
      refine zz_iconst S (v := 4) rfl dX8_readNumber_56 (q := 57) rfl ?_
      refine zz_icmp_gt S dX8_readNumber_57 (t := 86) (by decide) (q := 60) rfl (fun b2 => ?_) (fun b2 => ?_)
      · first | exact bad (Or.inl (fun e => b1 (k2.mpr e))) | exact bad (Or.inr (Or.inl (k4.mp b2))) | exact bad (Or.inr (Or.inr ⟨Classical.not_not.mp (fun e => b3 (k1.mpr e)), b4⟩))
      · refine zz_aload_0 S dX8_readNumber_60 (q := 61) rfl ?_
        refine zz_getI S fX8_202 rfl (Nat.le_of_ble_eq_true rfl) rfl dX8_readNumber_61 (q := 64) rfl ?_
        refine zz_aload_0 S dX8_readNumber_64 (q := 65) rfl ?_
        refine zz_getI S fX8_205 rfl (Nat.le_of_ble_eq_true rfl) rfl dX8_readNumber_65 (q := 68) rfl ?_
        refine zz_isub S dX8_readNumber_68 (q := 69) rfl ?_
        refine zz_iconst S (v := 1) rfl dX8_readNumber_69 (q := 70) rfl ?_
        refine zz_icmp_le S dX8_readNumber_70 (t := 95) (by decide) (q := 73) rfl (fun b3 => ?_) (fun b3 => ?_)
        · refine good ?_
          rintro (e | e | e)
          · exact e (k2.mp b1)
          · exact b2 (k4.mpr e)
          · first | exact absurd e.1 (k1.mp b3) | exact b4 e.2
        · refine zz_aload_0 S dX8_readNumber_73 (q := 74) rfl ?_
          refine zz_aload_0 S dX8_readNumber_74 (q := 75) rfl ?_
          refine zz_getI S fX8_205 rfl (Nat.le_of_ble_eq_true rfl) rfl dX8_readNumber_75 (q := 78) rfl ?_
          refine zz_virtP S yy_X8_at lX8_208 (ci := 8) (by decide) rfl (co_at _ T1.1 len im1 h12 (by omega) hl hln) rfl (Nat.le_of_ble_eq_true rfl) (Nat.le_of_ble_eq_true rfl) rfl (Nat.le_of_ble_eq_true rfl) rfl dX8_readNumber_78 (q := 81) rfl ?_
          rw [e474]
          refine zz_bipush S (v := 48) rfl dX8_readNumber_81 (q := 83) rfl ?_
          refine zz_icmp_ne S dX8_readNumber_83 (t := 95) (by decide) (q := 86) rfl (fun b4 => ?_) (fun b4 => ?_)
          · refine good ?_
            rintro (e | e | e)
            · exact e (k2.mp b1)
            · exact b2 (k4.mpr e)
            · first | exact absurd e.1 (k1.mp b3) | exact b4 e.2
          · first | exact bad (Or.inl (fun e => b1 (k2.mpr e))) | exact bad (Or.inr (Or.inl (k4.mp b2))) | exact bad (Or.inr (Or.inr ⟨Classical.not_not.mp (fun e => b3 (k1.mpr e)), b4⟩))
  have hT0 := hT
  obtain ⟨⟨h12, h13, h11⟩, hl, hln, ⟨hTa, hTb, hTc⟩, hc⟩ := hT0
  have x1 : x = 1 ↔ v = 1 := by rw [hx]; exact nI_eq (a := v) (b := 1) (by omega) (by omega)
  have y1 : y = 1 ↔ i = 1 := by rw [hy]; exact nI_eq (a := i) (b := 1) (by omega) (by omega)
  have k3 : im 470 11 = 3 ↔ T.2.2 = 3 := by rw [h11]; exact nI_eq (a := T.2.2) (b := 3) (by omega) (by omega)
  have no : ∀ (w : Nat → ZL → List Value → Nat → ZE → ZI → Prop), zz_S G l RX8 cX8_readNumber 6 2 zE.1 0 0 false none (fun v' E' im' => E'.1 = zE.1 + 0 ∧ v' = none ∧ E' = zE ∧ zRn im im' len v i T) w → ¬ rk_neg (im 474) len v i T → w 39 [some (.ref 470), some (.int x), some (.int y), some (.int 1), none, none] [] 0 zE im := fun w S h =>
    fin w S T im 1 (by rw [rk_n1, if_neg h]) (by rw [rk_sg, if_neg h]) hT zM.rf hf rfl
  refine zz_intro (isI := false) (by decide) rfl (Nat.le_of_ble_eq_true rfl) (fun h => by cases h) (fun w S => ?_)
  refine zz_iconst S (v := 1) rfl dX8_readNumber_0 (q := 1) rfl ?_
  refine zz_istore_3 S rfl dX8_readNumber_1 (q := 2) rfl ?_
  refine zz_iload_1 S dX8_readNumber_2 (q := 3) rfl ?_
  refine zz_iconst S (v := 1) rfl dX8_readNumber_3 (q := 4) rfl ?_
  refine zz_icmp_ne S dX8_readNumber_4 (t := 39) (by decide) (q := 7) rfl (fun h1 => ?_) (fun h1 => ?_)
  · first | exact no w S (fun e => h1 (x1.mpr e.1)) | exact no w S (fun e => h2 (y1.mpr e.2.1)) | exact no w S (fun e => h3 (k3.mpr e.2.2.1)) | exact no w S (fun e => h4 e.2.2.2) | (have hn : rk_neg (im 474) len v i T := ⟨x1.mp h1, y1.mp h2, k3.mp h3, h4⟩; exact fin w S (tk (im 474) len T.2.1) i36 (-1) (by rw [rk_n1, if_pos hn]) (by rw [rk_sg, if_pos hn]) (zTx_tk hT (zM.rf.n q36.2) hTb q36.1) (zM.rf.n q36.2) (by rw [q36.2.2 14 (by decide) (by decide) (by decide)]; exact hf) (q36.2.1 475 (by decide)))
  · refine zz_iload_2 S dX8_readNumber_7 (q := 8) rfl ?_
    refine zz_iconst S (v := 1) rfl dX8_readNumber_8 (q := 9) rfl ?_
    refine zz_icmp_ne S dX8_readNumber_9 (t := 39) (by decide) (q := 12) rfl (fun h2 => ?_) (fun h2 => ?_)
    · first | exact no w S (fun e => h1 (x1.mpr e.1)) | exact no w S (fun e => h2 (y1.mpr e.2.1)) | exact no w S (fun e => h3 (k3.mpr e.2.2.1)) | exact no w S (fun e => h4 e.2.2.2) | (have hn : rk_neg (im 474) len v i T := ⟨x1.mp h1, y1.mp h2, k3.mp h3, h4⟩; exact fin w S (tk (im 474) len T.2.1) i36 (-1) (by rw [rk_n1, if_pos hn]) (by rw [rk_sg, if_pos hn]) (zTx_tk hT (zM.rf.n q36.2) hTb q36.1) (zM.rf.n q36.2) (by rw [q36.2.2 14 (by decide) (by decide) (by decide)]; exact hf) (q36.2.1 475 (by decide)))
    · refine zz_aload_0 S dX8_readNumber_12 (q := 13) rfl ?_
      refine zz_getI S fX8_211 rfl (Nat.le_of_ble_eq_true rfl) rfl dX8_readNumber_13 (q := 16) rfl ?_
      refine zz_iconst S (v := 3) rfl dX8_readNumber_16 (q := 17) rfl ?_
      refine zz_icmp_ne S dX8_readNumber_17 (t := 39) (by decide) (q := 20) rfl (fun h3 => ?_) (fun h3 => ?_)
      · first | exact no w S (fun e => h1 (x1.mpr e.1)) | exact no w S (fun e => h2 (y1.mpr e.2.1)) | exact no w S (fun e => h3 (k3.mpr e.2.2.1)) | exact no w S (fun e => h4 e.2.2.2) | (have hn : rk_neg (im 474) len v i T := ⟨x1.mp h1, y1.mp h2, k3.mp h3, h4⟩; exact fin w S (tk (im 474) len T.2.1) i36 (-1) (by rw [rk_n1, if_pos hn]) (by rw [rk_sg, if_pos hn]) (zTx_tk hT (zM.rf.n q36.2) hTb q36.1) (zM.rf.n q36.2) (by rw [q36.2.2 14 (by decide) (by decide) (by decide)]; exact hf) (q36.2.1 475 (by decide)))
      · refine zz_aload_0 S dX8_readNumber_20 (q := 21) rfl ?_
        refine zz_aload_0 S dX8_readNumber_21 (q := 22) rfl ?_
        refine zz_getI S fX8_205 rfl (Nat.le_of_ble_eq_true rfl) rfl dX8_readNumber_22 (q := 25) rfl ?_
        refine zz_virtP S yy_X8_at lX8_208 (ci := 8) (by decide) rfl (co_at _ T.1 len im h12 (by omega) hl hln) rfl (Nat.le_of_ble_eq_true rfl) (Nat.le_of_ble_eq_true rfl) rfl (Nat.le_of_ble_eq_true rfl) rfl dX8_readNumber_25 (q := 28) rfl ?_
        refine zz_bipush S (v := 45) rfl dX8_readNumber_28 (q := 30) rfl ?_
        refine zz_icmp_ne S dX8_readNumber_30 (t := 39) (by decide) (q := 33) rfl (fun h4 => ?_) (fun h4 => ?_)
        · first | exact no w S (fun e => h1 (x1.mpr e.1)) | exact no w S (fun e => h2 (y1.mpr e.2.1)) | exact no w S (fun e => h3 (k3.mpr e.2.2.1)) | exact no w S (fun e => h4 e.2.2.2) | (have hn : rk_neg (im 474) len v i T := ⟨x1.mp h1, y1.mp h2, k3.mp h3, h4⟩; exact fin w S (tk (im 474) len T.2.1) i36 (-1) (by rw [rk_n1, if_pos hn]) (by rw [rk_sg, if_pos hn]) (zTx_tk hT (zM.rf.n q36.2) hTb q36.1) (zM.rf.n q36.2) (by rw [q36.2.2 14 (by decide) (by decide) (by decide)]; exact hf) (q36.2.1 475 (by decide)))
        · refine zz_iconst S (v := (-1)) rfl dX8_readNumber_33 (q := 34) rfl ?_
          refine zz_istore_3 S rfl dX8_readNumber_34 (q := 35) rfl ?_
          refine zz_aload_0 S dX8_readNumber_35 (q := 36) rfl ?_
          refine zz_virtV S yy_X8_next lX8_227 (ci := 8) (by decide) rfl (co_next T.2.1 len im h13 hTb hl hln) rfl (Nat.le_of_ble_eq_true rfl) (Nat.le_of_ble_eq_true rfl) rfl (Nat.le_of_ble_eq_true rfl) rfl dX8_readNumber_36 (q := 39) rfl (fun i36 q36 => ?_)
          first | exact no w S (fun e => h1 (x1.mpr e.1)) | exact no w S (fun e => h2 (y1.mpr e.2.1)) | exact no w S (fun e => h3 (k3.mpr e.2.2.1)) | exact no w S (fun e => h4 e.2.2.2) | (have hn : rk_neg (im 474) len v i T := ⟨x1.mp h1, y1.mp h2, k3.mp h3, h4⟩; exact fin w S (tk (im 474) len T.2.1) i36 (-1) (by rw [rk_n1, if_pos hn]) (by rw [rk_sg, if_pos hn]) (zTx_tk hT (zM.rf.n q36.2) hTb q36.1) (zM.rf.n q36.2) (by rw [q36.2.2 14 (by decide) (by decide) (by decide)]; exact hf) (q36.2.1 475 (by decide)))
end ZNUM
