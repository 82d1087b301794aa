/-! THE LAW: class and reference side by side -/
/-- the class and the reference stand at one state -/
def zLW (im : ZI) (s : ZSt) (n : Nat) (h : Nat → ZSt) (len : Nat) (tx : Nat → Int32) : Prop := zX im s n h len tx ∧ im 471 = s ∧ zm_h im n h ∧ im 470 6 = nI len ∧ im 474 = tx
theorem zX.lo {im im' : ZI} {s : ZSt} {n len : Nat} {h : Nat → ZSt} {tx : Nat → Int32} (hX : zX im s n h len tx) (hk : ∀ k, k < 470 → k ≠ 468 → k ≠ 469 → im' k = im k) : zX im' s n h len tx := by
  obtain ⟨hT, ⟨f, hf, h1, hn, h2, h3⟩, p1, p2, p3, p4⟩ := hX
  refine ⟨hT.keep (fun k a b => hk k (by omega) (by omega) (by omega)), ⟨f, hf, by rw [hk 67 (by omega) (by omega) (by omega)]; exact h1, hn, by rw [hk 67 (by omega) (by omega) (by omega)]; exact h2, fun i hi => ?_⟩, by rw [hk 465 (by omega) (by omega) (by omega)]; exact p1, p2, fun j hj => by rw [hk 466 (by omega) (by omega) (by omega)]; exact p3 j hj, p4⟩
  have := zr_ne hf hn hi
  exact (h3 i hi).keep (fun k a b => hk k (by omega) (by omega) (by omega))
theorem zm_h.hi {im im' : ZI} {n : Nat} {h : Nat → ZSt} (hh : zm_h im n h) (h4 : im' 470 4 = im 470 4) (h473 : im' 473 = im 473) : zm_h im' n h := ⟨hh.1, by rw [h4]; exact hh.2.1, fun i k hi hk => by rw [h473]; exact hh.2.2 i k hi hk⟩
theorem zLW.look {im im1 im2 : ZI} {s : ZSt} {n len : Nat} {h : Nat → ZSt} {tx : Nat → Int32} (hW : zLW im s n h len tx) (h1 : zz_keep [468, 469] im im1) (h2 : zPre im1 im2) : zLW im2 s n h len tx := by
  obtain ⟨hX, e1, e2, e3, e4⟩ := hW
  obtain ⟨k2, k3⟩ := h2
  refine ⟨hX.lo (fun k a b c => ?_), ?_, e2.hi ?_ ?_, ?_, ?_⟩
  · rw [k2 k (by simp; omega), h1 k (by simp; omega)]
  · rw [k2 471 (by decide), h1 471 (by decide)]
    exact e1
  · rw [k3 4 (by decide), h1 470 (by decide)]
  · rw [k2 473 (by decide), h1 473 (by decide)]
  · rw [k3 6 (by decide), h1 470 (by decide)]
    exact e3
  · rw [k2 474 (by decide), h1 474 (by decide)]
    exact e4
abbrev zL_w : Type := Nat → ZL → List Value → Nat → ZE → ZI → Prop
/-- the law on its way, with the script -/
def zz_SX (G : ZG) (l : Launch) (L : Nat) (xs : Nat → Int32) (w : zL_w) : Prop :=
  zz_S G l RL cL_law 4 12 0 479 7809 false (some .boolean) (fun v _ _ => v = some (.int 1)) w ∧
  (∀ (pc q : Nat) (Lc : ZL) (st : List Value) (z : Nat) (E : ZE) (im : ZI) (i : Int32), vp_in i L → decode cL_law pc = .ok (.iaload, 1) → pc + 1 = q → w q Lc (.int (xs i.toNatClampNeg) :: st) z E im → w pc Lc (.int i :: .ref 1050 :: st) z E im) ∧
  ∀ (pc q : Nat) (Lc : ZL) (st : List Value) (z : Nat) (E : ZE) (im : ZI), decode cL_law pc = .ok (.arraylength, 1) → pc + 1 = q → w q Lc (.int (nI L) :: st) z E im → w pc Lc (.ref 1050 :: st) z E im
section ZLAW
variable {G : ZG} {l : Launch} {L : Nat} {xs : Nat → Int32} {w : zL_w} {pc q : Nat} {Lc : ZL} {st : List Value} {z : Nat} {E : ZE} {im : ZI}
theorem zz_sld {i : Int32} {j : Nat} (SX : zz_SX G l L xs w) (hij : i = nI j) (hj : j < L) (hL : L ≤ 2560) (hd : decode cL_law pc = .ok (.iaload, 1)) (hq : pc + 1 = q) (kk : w q Lc (.int (xs j) :: st) z E im) : w pc Lc (.int i :: .ref 1050 :: st) z E im := by
  obtain ⟨h1, h2⟩ := zz_vpn hij hj (by omega)
  exact SX.2.1 pc q Lc st z E im i h1 hd hq (by rw [h2]; exact kk)
theorem zz_slen (SX : zz_SX G l L xs w) (hd : decode cL_law pc = .ok (.arraylength, 1)) (hq : pc + 1 = q) (kk : w q Lc (.int (nI L) :: st) z E im) : w pc Lc (.ref 1050 :: st) z E im := SX.2.2 pc q Lc st z E im hd hq kk
set_option maxHeartbeats 4000000 in
theorem lz_setCorrection {t n len : Nat} {h : Nat → ZSt} {s : ZSt} {tx : Nat → Int32} (SX : zz_SX G l L xs w) (hL : L ≤ 2560) (ht : t + 5 ≤ L) (hW : zLW im s n h len tx) (hN : ∀ (im' : ZI) (s' : ZSt) (n' : Nat) (h' : Nat → ZSt) (len' : Nat) (tx' : Nat → Int32), zLW im' s' n' h' len' tx' → w 857 [some (.ref 1050), some (.ref 0), some (.ref 470), some (.int (nI t))] [] z zE im') : w 156 [some (.ref 1050), some (.ref 0), some (.ref 470), some (.int (nI t))] [] z zE im := by
  have S := SX.1
  have hW0 := hW
  obtain ⟨⟨hT, ⟨f, hR⟩, hP⟩, h471, hh, h6, h474⟩ := hW
  obtain ⟨⟨nw, nc, hI, hr⟩, -⟩ := id hT
  refine zz_aload_1 S dL_law_156 (q := 157) rfl ?_
  refine zz_aload_0 S dL_law_157 (q := 158) rfl ?_
  refine zz_iload_3 S dL_law_158 (q := 159) rfl ?_
  refine zz_iconst S (v := 1) rfl dL_law_159 (q := 160) rfl ?_
  refine zz_iadd S dL_law_160 (q := 161) rfl ?_
  refine zz_sld SX (j := t + 1) (nI_add t 1) (by omega) hL dL_law_161 (q := 162) rfl ?_
  refine zz_aload_0 S dL_law_162 (q := 163) rfl ?_
  refine zz_iload_3 S dL_law_163 (q := 164) rfl ?_
  refine zz_iconst S (v := 2) rfl dL_law_164 (q := 165) rfl ?_
  refine zz_iadd S dL_law_165 (q := 166) rfl ?_
  refine zz_sld SX (j := t + 2) (nI_add t 2) (by omega) hL dL_law_166 (q := 167) rfl ?_
  -- at 167: invokevirtual 13
  refine zz_virtI S yy_X7_setCorrection lL_13 (ci := 7) (by decide) rfl (cx_psetCorrection (xs (t + 1)) (xs (t + 2)) f n len nw nc h s tx im hT hR hP hI hr) rfl (Nat.le_of_ble_eq_true rfl) (Nat.le_of_ble_eq_true rfl) rfl (Nat.le_of_ble_eq_true rfl) rfl dL_law_167 (q := 170) rfl ?_
  rintro r1 im1 ⟨e1, hX1, hH1⟩
  have e471 : im1 471 = s := (hH1 471 (by decide)).trans h471
  have hh1 : zm_h im1 n h := hh.hi (by rw [hH1 470 (by decide)]) (hH1 473 (by decide))
  have hl1 : im1 470 6 = nI len := by rw [hH1 470 (by decide)]; exact h6
  have ht1 : im1 474 = tx := (hH1 474 (by decide)).trans h474
  refine zz_aload_2 S dL_law_170 (q := 171) rfl ?_
  refine zz_aload_0 S dL_law_171 (q := 172) rfl ?_
  refine zz_iload_3 S dL_law_172 (q := 173) rfl ?_
  refine zz_iconst S (v := 1) rfl dL_law_173 (q := 174) rfl ?_
  refine zz_iadd S dL_law_174 (q := 175) rfl ?_
  refine zz_sld SX (j := t + 1) (nI_add t 1) (by omega) hL dL_law_175 (q := 176) rfl ?_
  refine zz_aload_0 S dL_law_176 (q := 177) rfl ?_
  refine zz_iload_3 S dL_law_177 (q := 178) rfl ?_
  refine zz_iconst S (v := 2) rfl dL_law_178 (q := 179) rfl ?_
  refine zz_iadd S dL_law_179 (q := 180) rfl ?_
  refine zz_sld SX (j := t + 2) (nI_add t 2) (by omega) hL dL_law_180 (q := 181) rfl ?_
  -- at 181: invokevirtual 17
  refine zz_virtI S yy_X8_setCorrection lL_17 (ci := 8) (by decide) rfl (co_setCorrection (xs (t + 1)) (xs (t + 2)) im1 n h hh1) rfl (Nat.le_of_ble_eq_true rfl) (Nat.le_of_ble_eq_true rfl) rfl (Nat.le_of_ble_eq_true rfl) rfl dL_law_181 (q := 184) rfl ?_
  rintro r2 im2 ⟨e2, p1, p2, p3, p4, p5⟩
  rw [e471] at e2 p1 p2
  refine zz_icmp_eq S dL_law_184 (t := 857) (by decide) (q := 187) rfl (fun a1 => ?_) (fun a1 => ?_)
  -- then 857 else 187
  · exact hN im2 _ _ _ len tx ⟨hX1.lo (fun k a _ _ => p5 k a), p1, p2, p3.trans hl1, p4.trans ht1⟩
  · exact absurd (e1.trans e2.symm) a1
set_option maxHeartbeats 4000000 in
theorem lz_set {t n len : Nat} {h : Nat → ZSt} {s : ZSt} {tx : Nat → Int32} (SX : zz_SX G l L xs w) (hL : L ≤ 2560) (ht : t + 5 ≤ L) (hW : zLW im s n h len tx) (hN : ∀ (im' : ZI) (s' : ZSt) (n' : Nat) (h' : Nat → ZSt) (len' : Nat) (tx' : Nat → Int32), zLW im' s' n' h' len' tx' → w 857 [some (.ref 1050), some (.ref 0), some (.ref 470), some (.int (nI t))] [] z zE im') : w 189 [some (.ref 1050), some (.ref 0), some (.ref 470), some (.int (nI t))] [] z zE im := by
  have S := SX.1
  have hW0 := hW
  obtain ⟨⟨hT, ⟨f, hR⟩, hP⟩, h471, hh, h6, h474⟩ := hW
  obtain ⟨⟨nw, nc, hI, hr⟩, -⟩ := id hT
  refine zz_aload_1 S dL_law_189 (q := 190) rfl ?_
  refine zz_aload_0 S dL_law_190 (q := 191) rfl ?_
  refine zz_iload_3 S dL_law_191 (q := 192) rfl ?_
  refine zz_iconst S (v := 1) rfl dL_law_192 (q := 193) rfl ?_
  refine zz_iadd S dL_law_193 (q := 194) rfl ?_
  refine zz_sld SX (j := t + 1) (nI_add t 1) (by omega) hL dL_law_194 (q := 195) rfl ?_
  refine zz_aload_0 S dL_law_195 (q := 196) rfl ?_
  refine zz_iload_3 S dL_law_196 (q := 197) rfl ?_
  refine zz_iconst S (v := 2) rfl dL_law_197 (q := 198) rfl ?_
  refine zz_iadd S dL_law_198 (q := 199) rfl ?_
  refine zz_sld SX (j := t + 2) (nI_add t 2) (by omega) hL dL_law_199 (q := 200) rfl ?_
  -- at 200: invokevirtual 18
  refine zz_virtI S yy_X7_set lL_18 (ci := 7) (by decide) rfl (cx_pset (xs (t + 1)) (xs (t + 2)) f n len nw nc h s tx im hT hR hP hI hr) rfl (Nat.le_of_ble_eq_true rfl) (Nat.le_of_ble_eq_true rfl) rfl (Nat.le_of_ble_eq_true rfl) rfl dL_law_200 (q := 203) rfl ?_
  rintro r1 im1 ⟨e1, hX1, hH1⟩
  have e471 : im1 471 = s := (hH1 471 (by decide)).trans h471
  have hh1 : zm_h im1 n h := hh.hi (by rw [hH1 470 (by decide)]) (hH1 473 (by decide))
  have hl1 : im1 470 6 = nI len := by rw [hH1 470 (by decide)]; exact h6
  have ht1 : im1 474 = tx := (hH1 474 (by decide)).trans h474
  refine zz_aload_2 S dL_law_203 (q := 204) rfl ?_
  refine zz_aload_0 S dL_law_204 (q := 205) rfl ?_
  refine zz_iload_3 S dL_law_205 (q := 206) rfl ?_
  refine zz_iconst S (v := 1) rfl dL_law_206 (q := 207) rfl ?_
  refine zz_iadd S dL_law_207 (q := 208) rfl ?_
  refine zz_sld SX (j := t + 1) (nI_add t 1) (by omega) hL dL_law_208 (q := 209) rfl ?_
  refine zz_aload_0 S dL_law_209 (q := 210) rfl ?_
  refine zz_iload_3 S dL_law_210 (q := 211) rfl ?_
  refine zz_iconst S (v := 2) rfl dL_law_211 (q := 212) rfl ?_
  refine zz_iadd S dL_law_212 (q := 213) rfl ?_
  refine zz_sld SX (j := t + 2) (nI_add t 2) (by omega) hL dL_law_213 (q := 214) rfl ?_
  -- at 214: invokevirtual 21
  refine zz_virtI S yy_X8_set lL_21 (ci := 8) (by decide) rfl (co_set (xs (t + 1)) (xs (t + 2)) im1 n h hh1) rfl (Nat.le_of_ble_eq_true rfl) (Nat.le_of_ble_eq_true rfl) rfl (Nat.le_of_ble_eq_true rfl) rfl dL_law_214 (q := 217) rfl ?_
  rintro r2 im2 ⟨e2, p1, p2, p3, p4, p5⟩
  rw [e471] at e2 p1 p2
  refine zz_icmp_eq S dL_law_217 (t := 857) (by decide) (q := 220) rfl (fun a1 => ?_) (fun a1 => ?_)
  -- then 857 else 220
  · exact hN im2 _ _ _ len tx ⟨hX1.lo (fun k a _ _ => p5 k a), p1, p2, p3.trans hl1, p4.trans ht1⟩
  · exact absurd (e1.trans e2.symm) a1
set_option maxHeartbeats 4000000 in
theorem lz_addWall {t n len : Nat} {h : Nat → ZSt} {s : ZSt} {tx : Nat → Int32} (SX : zz_SX G l L xs w) (hL : L ≤ 2560) (ht : t + 5 ≤ L) (hW : zLW im s n h len tx) (hN : ∀ (im' : ZI) (s' : ZSt) (n' : Nat) (h' : Nat → ZSt) (len' : Nat) (tx' : Nat → Int32), zLW im' s' n' h' len' tx' → w 857 [some (.ref 1050), some (.ref 0), some (.ref 470), some (.int (nI t))] [] z zE im') : w 222 [some (.ref 1050), some (.ref 0), some (.ref 470), some (.int (nI t))] [] z zE im := by
  have S := SX.1
  have hW0 := hW
  obtain ⟨⟨hT, ⟨f, hR⟩, hP⟩, h471, hh, h6, h474⟩ := hW
  obtain ⟨⟨nw, nc, hI, hr⟩, -⟩ := id hT
  refine zz_aload_1 S dL_law_222 (q := 223) rfl ?_
  -- at 223: invokevirtual 22
  refine zz_virtI S yy_X7_addWall lL_22 (ci := 7) (by decide) rfl (cx_paddWall  f n len nw nc h s tx im hT hR hP hI hr) rfl (Nat.le_of_ble_eq_true rfl) (Nat.le_of_ble_eq_true rfl) rfl (Nat.le_of_ble_eq_true rfl) rfl dL_law_223 (q := 226) rfl ?_
  rintro r1 im1 ⟨e1, hX1, hH1⟩
  have e471 : im1 471 = s := (hH1 471 (by decide)).trans h471
  have hh1 : zm_h im1 n h := hh.hi (by rw [hH1 470 (by decide)]) (hH1 473 (by decide))
  have hl1 : im1 470 6 = nI len := by rw [hH1 470 (by decide)]; exact h6
  have ht1 : im1 474 = tx := (hH1 474 (by decide)).trans h474
  refine zz_aload_2 S dL_law_226 (q := 227) rfl ?_
  -- at 227: invokevirtual 26
  refine zz_virtI S yy_X8_addWall lL_26 (ci := 8) (by decide) rfl (co_addWall  im1 n nw nc h hh1 (by rw [e471]; exact hI)) rfl (Nat.le_of_ble_eq_true rfl) (Nat.le_of_ble_eq_true rfl) rfl (Nat.le_of_ble_eq_true rfl) rfl dL_law_227 (q := 230) rfl ?_
  rintro r2 im2 ⟨e2, p1, p2, p3, p4, p5⟩
  rw [e471] at e2 p1 p2
  refine zz_icmp_eq S dL_law_230 (t := 857) (by decide) (q := 233) rfl (fun a1 => ?_) (fun a1 => ?_)
  -- then 857 else 233
  · exact hN im2 _ _ _ len tx ⟨hX1.lo (fun k a _ _ => p5 k a), p1, p2, p3.trans hl1, p4.trans ht1⟩
  · exact absurd (e1.trans e2.symm) a1
set_option maxHeartbeats 4000000 in
theorem lz_measure {t n len : Nat} {h : Nat → ZSt} {s : ZSt} {tx : Nat → Int32} (SX : zz_SX G l L xs w) (hL : L ≤ 2560) (ht : t + 5 ≤ L) (hW : zLW im s n h len tx) (hN : ∀ (im' : ZI) (s' : ZSt) (n' : Nat) (h' : Nat → ZSt) (len' : Nat) (tx' : Nat → Int32), zLW im' s' n' h' len' tx' → w 857 [some (.ref 1050), some (.ref 0), some (.ref 470), some (.int (nI t))] [] z zE im') : w 235 [some (.ref 1050), some (.ref 0), some (.ref 470), some (.int (nI t))] [] z zE im := by
  have S := SX.1
  have hW0 := hW
  obtain ⟨⟨hT, ⟨f, hR⟩, hP⟩, h471, hh, h6, h474⟩ := hW
  obtain ⟨⟨nw, nc, hI, hr⟩, -⟩ := id hT
  refine zz_aload_1 S dL_law_235 (q := 236) rfl ?_
  refine zz_aload_0 S dL_law_236 (q := 237) rfl ?_
  refine zz_iload_3 S dL_law_237 (q := 238) rfl ?_
  refine zz_iconst S (v := 1) rfl dL_law_238 (q := 239) rfl ?_
  refine zz_iadd S dL_law_239 (q := 240) rfl ?_
  refine zz_sld SX (j := t + 1) (nI_add t 1) (by omega) hL dL_law_240 (q := 241) rfl ?_
  refine zz_aload_0 S dL_law_241 (q := 242) rfl ?_
  refine zz_iload_3 S dL_law_242 (q := 243) rfl ?_
  refine zz_iconst S (v := 2) rfl dL_law_243 (q := 244) rfl ?_
  refine zz_iadd S dL_law_244 (q := 245) rfl ?_
  refine zz_sld SX (j := t + 2) (nI_add t 2) (by omega) hL dL_law_245 (q := 246) rfl ?_
  -- at 246: invokevirtual 27
  refine zz_virtI S yy_X7_measure lL_27 (ci := 7) (by decide) rfl (cx_pmeasure (xs (t + 1)) (xs (t + 2)) f n len nw nc h s tx im hT hR hP hI hr) rfl (Nat.le_of_ble_eq_true rfl) (Nat.le_of_ble_eq_true rfl) rfl (Nat.le_of_ble_eq_true rfl) rfl dL_law_246 (q := 249) rfl ?_
  rintro r1 im1 ⟨e1, hX1, hH1⟩
  have e471 : im1 471 = s := (hH1 471 (by decide)).trans h471
  have hh1 : zm_h im1 n h := hh.hi (by rw [hH1 470 (by decide)]) (hH1 473 (by decide))
  have hl1 : im1 470 6 = nI len := by rw [hH1 470 (by decide)]; exact h6
  have ht1 : im1 474 = tx := (hH1 474 (by decide)).trans h474
  refine zz_aload_2 S dL_law_249 (q := 250) rfl ?_
  refine zz_aload_0 S dL_law_250 (q := 251) rfl ?_
  refine zz_iload_3 S dL_law_251 (q := 252) rfl ?_
  refine zz_iconst S (v := 1) rfl dL_law_252 (q := 253) rfl ?_
  refine zz_iadd S dL_law_253 (q := 254) rfl ?_
  refine zz_sld SX (j := t + 1) (nI_add t 1) (by omega) hL dL_law_254 (q := 255) rfl ?_
  refine zz_aload_0 S dL_law_255 (q := 256) rfl ?_
  refine zz_iload_3 S dL_law_256 (q := 257) rfl ?_
  refine zz_iconst S (v := 2) rfl dL_law_257 (q := 258) rfl ?_
  refine zz_iadd S dL_law_258 (q := 259) rfl ?_
  refine zz_sld SX (j := t + 2) (nI_add t 2) (by omega) hL dL_law_259 (q := 260) rfl ?_
  -- at 260: invokevirtual 30
  refine zz_virtI S yy_X8_measure lL_30 (ci := 8) (by decide) rfl (co_measure (xs (t + 1)) (xs (t + 2)) im1 n nw nc h hh1 (by rw [e471]; exact hI)) rfl (Nat.le_of_ble_eq_true rfl) (Nat.le_of_ble_eq_true rfl) rfl (Nat.le_of_ble_eq_true rfl) rfl dL_law_260 (q := 263) rfl ?_
  rintro r2 im2 ⟨e2, p1, p2, p3, p4, p5⟩
  rw [e471] at e2 p1 p2
  refine zz_icmp_eq S dL_law_263 (t := 857) (by decide) (q := 266) rfl (fun a1 => ?_) (fun a1 => ?_)
  -- then 857 else 266
  · exact hN im2 _ _ _ len tx ⟨hX1.lo (fun k a _ _ => p5 k a), p1, p2, p3.trans hl1, p4.trans ht1⟩
  · exact absurd (e1.trans e2.symm) a1
set_option maxHeartbeats 4000000 in
theorem lz_ask {t n len : Nat} {h : Nat → ZSt} {s : ZSt} {tx : Nat → Int32} (SX : zz_SX G l L xs w) (hL : L ≤ 2560) (ht : t + 5 ≤ L) (hW : zLW im s n h len tx) (hN : ∀ (im' : ZI) (s' : ZSt) (n' : Nat) (h' : Nat → ZSt) (len' : Nat) (tx' : Nat → Int32), zLW im' s' n' h' len' tx' → w 857 [some (.ref 1050), some (.ref 0), some (.ref 470), some (.int (nI t))] [] z zE im') : w 268 [some (.ref 1050), some (.ref 0), some (.ref 470), some (.int (nI t))] [] z zE im := by
  have S := SX.1
  have hW0 := hW
  obtain ⟨⟨hT, ⟨f, hR⟩, hP⟩, h471, hh, h6, h474⟩ := hW
  obtain ⟨⟨nw, nc, hI, hr⟩, -⟩ := id hT
  refine zz_aload_1 S dL_law_268 (q := 269) rfl ?_
  refine zz_aload_0 S dL_law_269 (q := 270) rfl ?_
  refine zz_iload_3 S dL_law_270 (q := 271) rfl ?_
  refine zz_iconst S (v := 1) rfl dL_law_271 (q := 272) rfl ?_
  refine zz_iadd S dL_law_272 (q := 273) rfl ?_
  refine zz_sld SX (j := t + 1) (nI_add t 1) (by omega) hL dL_law_273 (q := 274) rfl ?_
  refine zz_aload_0 S dL_law_274 (q := 275) rfl ?_
  refine zz_iload_3 S dL_law_275 (q := 276) rfl ?_
  refine zz_iconst S (v := 2) rfl dL_law_276 (q := 277) rfl ?_
  refine zz_iadd S dL_law_277 (q := 278) rfl ?_
  refine zz_sld SX (j := t + 2) (nI_add t 2) (by omega) hL dL_law_278 (q := 279) rfl ?_
  refine zz_aload_0 S dL_law_279 (q := 280) rfl ?_
  refine zz_iload_3 S dL_law_280 (q := 281) rfl ?_
  refine zz_iconst S (v := 3) rfl dL_law_281 (q := 282) rfl ?_
  refine zz_iadd S dL_law_282 (q := 283) rfl ?_
  refine zz_sld SX (j := t + 3) (nI_add t 3) (by omega) hL dL_law_283 (q := 284) rfl ?_
  refine zz_aload_0 S dL_law_284 (q := 285) rfl ?_
  refine zz_iload_3 S dL_law_285 (q := 286) rfl ?_
  refine zz_iconst S (v := 4) rfl dL_law_286 (q := 287) rfl ?_
  refine zz_iadd S dL_law_287 (q := 288) rfl ?_
  refine zz_sld SX (j := t + 4) (nI_add t 4) (by omega) hL dL_law_288 (q := 289) rfl ?_
  -- at 289: invokevirtual 31
  refine zz_virtI S yy_X7_ask lL_31 (ci := 7) (by decide) rfl (cx_pask (xs (t + 1)) (xs (t + 2)) (xs (t + 3)) (xs (t + 4)) f n len nw nc h s tx im hT hR hP hI hr) rfl (Nat.le_of_ble_eq_true rfl) (Nat.le_of_ble_eq_true rfl) rfl (Nat.le_of_ble_eq_true rfl) rfl dL_law_289 (q := 292) rfl ?_
  rintro r1 im1 ⟨e1, hX1, hH1⟩
  have e471 : im1 471 = s := (hH1 471 (by decide)).trans h471
  have hh1 : zm_h im1 n h := hh.hi (by rw [hH1 470 (by decide)]) (hH1 473 (by decide))
  have hl1 : im1 470 6 = nI len := by rw [hH1 470 (by decide)]; exact h6
  have ht1 : im1 474 = tx := (hH1 474 (by decide)).trans h474
  refine zz_aload_2 S dL_law_292 (q := 293) rfl ?_
  refine zz_aload_0 S dL_law_293 (q := 294) rfl ?_
  refine zz_iload_3 S dL_law_294 (q := 295) rfl ?_
  refine zz_iconst S (v := 1) rfl dL_law_295 (q := 296) rfl ?_
  refine zz_iadd S dL_law_296 (q := 297) rfl ?_
  refine zz_sld SX (j := t + 1) (nI_add t 1) (by omega) hL dL_law_297 (q := 298) rfl ?_
  refine zz_aload_0 S dL_law_298 (q := 299) rfl ?_
  refine zz_iload_3 S dL_law_299 (q := 300) rfl ?_
  refine zz_iconst S (v := 2) rfl dL_law_300 (q := 301) rfl ?_
  refine zz_iadd S dL_law_301 (q := 302) rfl ?_
  refine zz_sld SX (j := t + 2) (nI_add t 2) (by omega) hL dL_law_302 (q := 303) rfl ?_
  refine zz_aload_0 S dL_law_303 (q := 304) rfl ?_
  refine zz_iload_3 S dL_law_304 (q := 305) rfl ?_
  refine zz_iconst S (v := 3) rfl dL_law_305 (q := 306) rfl ?_
  refine zz_iadd S dL_law_306 (q := 307) rfl ?_
  refine zz_sld SX (j := t + 3) (nI_add t 3) (by omega) hL dL_law_307 (q := 308) rfl ?_
  refine zz_aload_0 S dL_law_308 (q := 309) rfl ?_
  refine zz_iload_3 S dL_law_309 (q := 310) rfl ?_
  refine zz_iconst S (v := 4) rfl dL_law_310 (q := 311) rfl ?_
  refine zz_iadd S dL_law_311 (q := 312) rfl ?_
  refine zz_sld SX (j := t + 4) (nI_add t 4) (by omega) hL dL_law_312 (q := 313) rfl ?_
  -- at 313: invokevirtual 35
  refine zz_virtI S yy_X8_ask lL_35 (ci := 8) (by decide) rfl (co_ask (xs (t + 1)) (xs (t + 2)) (xs (t + 3)) (xs (t + 4)) im1 n nw nc h hh1 (by rw [e471]; exact hI)) rfl (Nat.le_of_ble_eq_true rfl) (Nat.le_of_ble_eq_true rfl) rfl (Nat.le_of_ble_eq_true rfl) rfl dL_law_313 (q := 316) rfl ?_
  rintro r2 im2 ⟨e2, p1, p2, p3, p4, p5⟩
  rw [e471] at e2 p1 p2
  refine zz_icmp_eq S dL_law_316 (t := 857) (by decide) (q := 319) rfl (fun a1 => ?_) (fun a1 => ?_)
  -- then 857 else 319
  · exact hN im2 _ _ _ len tx ⟨hX1.lo (fun k a _ _ => p5 k a), p1, p2, p3.trans hl1, p4.trans ht1⟩
  · exact absurd (e1.trans e2.symm) a1
set_option maxHeartbeats 4000000 in
theorem lz_decide {t n len : Nat} {h : Nat → ZSt} {s : ZSt} {tx : Nat → Int32} (SX : zz_SX G l L xs w) (hL : L ≤ 2560) (ht : t + 5 ≤ L) (hW : zLW im s n h len tx) (hN : ∀ (im' : ZI) (s' : ZSt) (n' : Nat) (h' : Nat → ZSt) (len' : Nat) (tx' : Nat → Int32), zLW im' s' n' h' len' tx' → w 857 [some (.ref 1050), some (.ref 0), some (.ref 470), some (.int (nI t))] [] z zE im') : w 321 [some (.ref 1050), some (.ref 0), some (.ref 470), some (.int (nI t))] [] z zE im := by
  have S := SX.1
  have hW0 := hW
  obtain ⟨⟨hT, ⟨f, hR⟩, hP⟩, h471, hh, h6, h474⟩ := hW
  obtain ⟨⟨nw, nc, hI, hr⟩, -⟩ := id hT
  refine zz_aload_1 S dL_law_321 (q := 322) rfl ?_
  refine zz_aload_0 S dL_law_322 (q := 323) rfl ?_
  refine zz_iload_3 S dL_law_323 (q := 324) rfl ?_
  refine zz_iconst S (v := 1) rfl dL_law_324 (q := 325) rfl ?_
  refine zz_iadd S dL_law_325 (q := 326) rfl ?_
  refine zz_sld SX (j := t + 1) (nI_add t 1) (by omega) hL dL_law_326 (q := 327) rfl ?_
  -- at 327: invokevirtual 36
  refine zz_virtI S yy_X7_decide lL_36 (ci := 7) (by decide) rfl (cx_pdecide (xs (t + 1)) f n len nw nc h s tx im hT hR hP hI hr) rfl (Nat.le_of_ble_eq_true rfl) (Nat.le_of_ble_eq_true rfl) rfl (Nat.le_of_ble_eq_true rfl) rfl dL_law_327 (q := 330) rfl ?_
  rintro r1 im1 ⟨e1, hX1, hH1⟩
  have e471 : im1 471 = s := (hH1 471 (by decide)).trans h471
  have hh1 : zm_h im1 n h := hh.hi (by rw [hH1 470 (by decide)]) (hH1 473 (by decide))
  have hl1 : im1 470 6 = nI len := by rw [hH1 470 (by decide)]; exact h6
  have ht1 : im1 474 = tx := (hH1 474 (by decide)).trans h474
  refine zz_aload_2 S dL_law_330 (q := 331) rfl ?_
  refine zz_aload_0 S dL_law_331 (q := 332) rfl ?_
  refine zz_iload_3 S dL_law_332 (q := 333) rfl ?_
  refine zz_iconst S (v := 1) rfl dL_law_333 (q := 334) rfl ?_
  refine zz_iadd S dL_law_334 (q := 335) rfl ?_
  refine zz_sld SX (j := t + 1) (nI_add t 1) (by omega) hL dL_law_335 (q := 336) rfl ?_
  -- at 336: invokevirtual 40
  refine zz_virtI S yy_X8_decide lL_40 (ci := 8) (by decide) rfl (co_decide (xs (t + 1)) im1 n nw nc h hh1 (by rw [e471]; exact hI)) rfl (Nat.le_of_ble_eq_true rfl) (Nat.le_of_ble_eq_true rfl) rfl (Nat.le_of_ble_eq_true rfl) rfl dL_law_336 (q := 339) rfl ?_
  rintro r2 im2 ⟨e2, p1, p2, p3, p4, p5⟩
  rw [e471] at e2 p1 p2
  refine zz_icmp_eq S dL_law_339 (t := 857) (by decide) (q := 342) rfl (fun a1 => ?_) (fun a1 => ?_)
  -- then 857 else 342
  · exact hN im2 _ _ _ len tx ⟨hX1.lo (fun k a _ _ => p5 k a), p1, p2, p3.trans hl1, p4.trans ht1⟩
  · exact absurd (e1.trans e2.symm) a1
set_option maxHeartbeats 4000000 in
theorem lz_askAgain {t n len : Nat} {h : Nat → ZSt} {s : ZSt} {tx : Nat → Int32} (SX : zz_SX G l L xs w) (hL : L ≤ 2560) (ht : t + 5 ≤ L) (hW : zLW im s n h len tx) (hN : ∀ (im' : ZI) (s' : ZSt) (n' : Nat) (h' : Nat → ZSt) (len' : Nat) (tx' : Nat → Int32), zLW im' s' n' h' len' tx' → w 857 [some (.ref 1050), some (.ref 0), some (.ref 470), some (.int (nI t))] [] z zE im') : w 344 [some (.ref 1050), some (.ref 0), some (.ref 470), some (.int (nI t))] [] z zE im := by
  have S := SX.1
  have hW0 := hW
  obtain ⟨⟨hT, ⟨f, hR⟩, hP⟩, h471, hh, h6, h474⟩ := hW
  obtain ⟨⟨nw, nc, hI, hr⟩, -⟩ := id hT
  refine zz_aload_1 S dL_law_344 (q := 345) rfl ?_
  refine zz_aload_0 S dL_law_345 (q := 346) rfl ?_
  refine zz_iload_3 S dL_law_346 (q := 347) rfl ?_
  refine zz_iconst S (v := 1) rfl dL_law_347 (q := 348) rfl ?_
  refine zz_iadd S dL_law_348 (q := 349) rfl ?_
  refine zz_sld SX (j := t + 1) (nI_add t 1) (by omega) hL dL_law_349 (q := 350) rfl ?_
  -- at 350: invokevirtual 41
  refine zz_virtI S yy_X7_askAgain lL_41 (ci := 7) (by decide) rfl (cx_paskAgain (xs (t + 1)) f n len nw nc h s tx im hT hR hP hI hr) rfl (Nat.le_of_ble_eq_true rfl) (Nat.le_of_ble_eq_true rfl) rfl (Nat.le_of_ble_eq_true rfl) rfl dL_law_350 (q := 353) rfl ?_
  rintro r1 im1 ⟨e1, hX1, hH1⟩
  have e471 : im1 471 = s := (hH1 471 (by decide)).trans h471
  have hh1 : zm_h im1 n h := hh.hi (by rw [hH1 470 (by decide)]) (hH1 473 (by decide))
  have hl1 : im1 470 6 = nI len := by rw [hH1 470 (by decide)]; exact h6
  have ht1 : im1 474 = tx := (hH1 474 (by decide)).trans h474
  refine zz_aload_2 S dL_law_353 (q := 354) rfl ?_
  refine zz_aload_0 S dL_law_354 (q := 355) rfl ?_
  refine zz_iload_3 S dL_law_355 (q := 356) rfl ?_
  refine zz_iconst S (v := 1) rfl dL_law_356 (q := 357) rfl ?_
  refine zz_iadd S dL_law_357 (q := 358) rfl ?_
  refine zz_sld SX (j := t + 1) (nI_add t 1) (by omega) hL dL_law_358 (q := 359) rfl ?_
  -- at 359: invokevirtual 44
  refine zz_virtI S yy_X8_askAgain lL_44 (ci := 8) (by decide) rfl (co_askAgain (xs (t + 1)) im1 n nw nc h hh1 (by rw [e471]; exact hI)) rfl (Nat.le_of_ble_eq_true rfl) (Nat.le_of_ble_eq_true rfl) rfl (Nat.le_of_ble_eq_true rfl) rfl dL_law_359 (q := 362) rfl ?_
  rintro r2 im2 ⟨e2, p1, p2, p3, p4, p5⟩
  rw [e471] at e2 p1 p2
  refine zz_icmp_eq S dL_law_362 (t := 857) (by decide) (q := 365) rfl (fun a1 => ?_) (fun a1 => ?_)
  -- then 857 else 365
  · exact hN im2 _ _ _ len tx ⟨hX1.lo (fun k a _ _ => p5 k a), p1, p2, p3.trans hl1, p4.trans ht1⟩
  · exact absurd (e1.trans e2.symm) a1
set_option maxHeartbeats 4000000 in
theorem lz_cast {t n len : Nat} {h : Nat → ZSt} {s : ZSt} {tx : Nat → Int32} (SX : zz_SX G l L xs w) (hL : L ≤ 2560) (ht : t + 5 ≤ L) (hW : zLW im s n h len tx) (hN : ∀ (im' : ZI) (s' : ZSt) (n' : Nat) (h' : Nat → ZSt) (len' : Nat) (tx' : Nat → Int32), zLW im' s' n' h' len' tx' → w 857 [some (.ref 1050), some (.ref 0), some (.ref 470), some (.int (nI t))] [] z zE im') : w 367 [some (.ref 1050), some (.ref 0), some (.ref 470), some (.int (nI t))] [] z zE im := by
  have S := SX.1
  have hW0 := hW
  obtain ⟨⟨hT, ⟨f, hR⟩, hP⟩, h471, hh, h6, h474⟩ := hW
  obtain ⟨⟨nw, nc, hI, hr⟩, -⟩ := id hT
  refine zz_aload_1 S dL_law_367 (q := 368) rfl ?_
  -- at 368: invokevirtual 45
  refine zz_virtI S yy_X7_cast lL_45 (ci := 7) (by decide) rfl (cx_pcast  f n len nw nc h s tx im hT hR hP hI hr) rfl (Nat.le_of_ble_eq_true rfl) (Nat.le_of_ble_eq_true rfl) rfl (Nat.le_of_ble_eq_true rfl) rfl dL_law_368 (q := 371) rfl ?_
  rintro r1 im1 ⟨e1, hX1, hH1⟩
  have e471 : im1 471 = s := (hH1 471 (by decide)).trans h471
  have hh1 : zm_h im1 n h := hh.hi (by rw [hH1 470 (by decide)]) (hH1 473 (by decide))
  have hl1 : im1 470 6 = nI len := by rw [hH1 470 (by decide)]; exact h6
  have ht1 : im1 474 = tx := (hH1 474 (by decide)).trans h474
  refine zz_aload_2 S dL_law_371 (q := 372) rfl ?_
  -- at 372: invokevirtual 48
  refine zz_virtI S yy_X8_cast lL_48 (ci := 8) (by decide) rfl (co_cast  im1 n nw nc h hh1 (by rw [e471]; exact hI)) rfl (Nat.le_of_ble_eq_true rfl) (Nat.le_of_ble_eq_true rfl) rfl (Nat.le_of_ble_eq_true rfl) rfl dL_law_372 (q := 375) rfl ?_
  rintro r2 im2 ⟨e2, p1, p2, p3, p4, p5⟩
  rw [e471] at e2 p1 p2
  refine zz_icmp_eq S dL_law_375 (t := 857) (by decide) (q := 378) rfl (fun a1 => ?_) (fun a1 => ?_)
  -- then 857 else 378
  · exact hN im2 _ _ _ len tx ⟨hX1.lo (fun k a _ _ => p5 k a), p1, p2, p3.trans hl1, p4.trans ht1⟩
  · exact absurd (e1.trans e2.symm) a1
set_option maxHeartbeats 4000000 in
theorem lz_deliver {t n len : Nat} {h : Nat → ZSt} {s : ZSt} {tx : Nat → Int32} (SX : zz_SX G l L xs w) (hL : L ≤ 2560) (ht : t + 5 ≤ L) (hW : zLW im s n h len tx) (hN : ∀ (im' : ZI) (s' : ZSt) (n' : Nat) (h' : Nat → ZSt) (len' : Nat) (tx' : Nat → Int32), zLW im' s' n' h' len' tx' → w 857 [some (.ref 1050), some (.ref 0), some (.ref 470), some (.int (nI t))] [] z zE im') : w 380 [some (.ref 1050), some (.ref 0), some (.ref 470), some (.int (nI t))] [] z zE im := by
  have S := SX.1
  have hW0 := hW
  obtain ⟨⟨hT, ⟨f, hR⟩, hP⟩, h471, hh, h6, h474⟩ := hW
  obtain ⟨⟨nw, nc, hI, hr⟩, -⟩ := id hT
  refine zz_aload_1 S dL_law_380 (q := 381) rfl ?_
  refine zz_aload_0 S dL_law_381 (q := 382) rfl ?_
  refine zz_iload_3 S dL_law_382 (q := 383) rfl ?_
  refine zz_iconst S (v := 1) rfl dL_law_383 (q := 384) rfl ?_
  refine zz_iadd S dL_law_384 (q := 385) rfl ?_
  refine zz_sld SX (j := t + 1) (nI_add t 1) (by omega) hL dL_law_385 (q := 386) rfl ?_
  -- at 386: invokevirtual 49
  refine zz_virtI S yy_X7_deliver lL_49 (ci := 7) (by decide) rfl (cx_pdeliver (xs (t + 1)) f n len nw nc h s tx im hT hR hP hI hr) rfl (Nat.le_of_ble_eq_true rfl) (Nat.le_of_ble_eq_true rfl) rfl (Nat.le_of_ble_eq_true rfl) rfl dL_law_386 (q := 389) rfl ?_
  rintro r1 im1 ⟨e1, hX1, hH1⟩
  have e471 : im1 471 = s := (hH1 471 (by decide)).trans h471
  have hh1 : zm_h im1 n h := hh.hi (by rw [hH1 470 (by decide)]) (hH1 473 (by decide))
  have hl1 : im1 470 6 = nI len := by rw [hH1 470 (by decide)]; exact h6
  have ht1 : im1 474 = tx := (hH1 474 (by decide)).trans h474
  refine zz_aload_2 S dL_law_389 (q := 390) rfl ?_
  refine zz_aload_0 S dL_law_390 (q := 391) rfl ?_
  refine zz_iload_3 S dL_law_391 (q := 392) rfl ?_
  refine zz_iconst S (v := 1) rfl dL_law_392 (q := 393) rfl ?_
  refine zz_iadd S dL_law_393 (q := 394) rfl ?_
  refine zz_sld SX (j := t + 1) (nI_add t 1) (by omega) hL dL_law_394 (q := 395) rfl ?_
  -- at 395: invokevirtual 52
  refine zz_virtI S yy_X8_deliver lL_52 (ci := 8) (by decide) rfl (co_deliver (xs (t + 1)) im1 n nw nc h hh1 (by rw [e471]; exact hI)) rfl (Nat.le_of_ble_eq_true rfl) (Nat.le_of_ble_eq_true rfl) rfl (Nat.le_of_ble_eq_true rfl) rfl dL_law_395 (q := 398) rfl ?_
  rintro r2 im2 ⟨e2, p1, p2, p3, p4, p5⟩
  rw [e471] at e2 p1 p2
  refine zz_icmp_eq S dL_law_398 (t := 857) (by decide) (q := 401) rfl (fun a1 => ?_) (fun a1 => ?_)
  -- then 857 else 401
  · exact hN im2 _ _ _ len tx ⟨hX1.lo (fun k a _ _ => p5 k a), p1, p2, p3.trans hl1, p4.trans ht1⟩
  · exact absurd (e1.trans e2.symm) a1
set_option maxHeartbeats 4000000 in
theorem lz_take {t n len : Nat} {h : Nat → ZSt} {s : ZSt} {tx : Nat → Int32} (SX : zz_SX G l L xs w) (hL : L ≤ 2560) (ht : t + 5 ≤ L) (hW : zLW im s n h len tx) (hN : ∀ (im' : ZI) (s' : ZSt) (n' : Nat) (h' : Nat → ZSt) (len' : Nat) (tx' : Nat → Int32), zLW im' s' n' h' len' tx' → w 857 [some (.ref 1050), some (.ref 0), some (.ref 470), some (.int (nI t))] [] z zE im') : w 403 [some (.ref 1050), some (.ref 0), some (.ref 470), some (.int (nI t))] [] z zE im := by
  have S := SX.1
  have hW0 := hW
  obtain ⟨⟨hT, ⟨f, hR⟩, hP⟩, h471, hh, h6, h474⟩ := hW
  obtain ⟨⟨nw, nc, hI, hr⟩, -⟩ := id hT
  refine zz_aload_1 S dL_law_403 (q := 404) rfl ?_
  refine zz_aload_0 S dL_law_404 (q := 405) rfl ?_
  refine zz_iload_3 S dL_law_405 (q := 406) rfl ?_
  refine zz_iconst S (v := 1) rfl dL_law_406 (q := 407) rfl ?_
  refine zz_iadd S dL_law_407 (q := 408) rfl ?_
  refine zz_sld SX (j := t + 1) (nI_add t 1) (by omega) hL dL_law_408 (q := 409) rfl ?_
  -- at 409: invokevirtual 53
  refine zz_virtI S yy_X7_take lL_53 (ci := 7) (by decide) rfl (cx_ptake (xs (t + 1)) f n len nw nc h s tx im hT hR hP hI hr) rfl (Nat.le_of_ble_eq_true rfl) (Nat.le_of_ble_eq_true rfl) rfl (Nat.le_of_ble_eq_true rfl) rfl dL_law_409 (q := 412) rfl ?_
  rintro r1 im1 ⟨e1, hX1, hH1⟩
  have e471 : im1 471 = s := (hH1 471 (by decide)).trans h471
  have hh1 : zm_h im1 n h := hh.hi (by rw [hH1 470 (by decide)]) (hH1 473 (by decide))
  have hl1 : im1 470 6 = nI len := by rw [hH1 470 (by decide)]; exact h6
  have ht1 : im1 474 = tx := (hH1 474 (by decide)).trans h474
  refine zz_aload_2 S dL_law_412 (q := 413) rfl ?_
  refine zz_aload_0 S dL_law_413 (q := 414) rfl ?_
  refine zz_iload_3 S dL_law_414 (q := 415) rfl ?_
  refine zz_iconst S (v := 1) rfl dL_law_415 (q := 416) rfl ?_
  refine zz_iadd S dL_law_416 (q := 417) rfl ?_
  refine zz_sld SX (j := t + 1) (nI_add t 1) (by omega) hL dL_law_417 (q := 418) rfl ?_
  -- at 418: invokevirtual 56
  refine zz_virtI S yy_X8_take lL_56 (ci := 8) (by decide) rfl (co_take (xs (t + 1)) im1 n h hh1) rfl (Nat.le_of_ble_eq_true rfl) (Nat.le_of_ble_eq_true rfl) rfl (Nat.le_of_ble_eq_true rfl) rfl dL_law_418 (q := 421) rfl ?_
  rintro r2 im2 ⟨e2, p1, p2, p3, p4, p5⟩
  rw [e471] at e2 p1 p2
  refine zz_icmp_eq S dL_law_421 (t := 857) (by decide) (q := 424) rfl (fun a1 => ?_) (fun a1 => ?_)
  -- then 857 else 424
  · exact hN im2 _ _ _ len tx ⟨hX1.lo (fun k a _ _ => p5 k a), p1, p2, p3.trans hl1, p4.trans ht1⟩
  · exact absurd (e1.trans e2.symm) a1
set_option maxHeartbeats 4000000 in
theorem lz_restore {t n len : Nat} {h : Nat → ZSt} {s : ZSt} {tx : Nat → Int32} (SX : zz_SX G l L xs w) (hL : L ≤ 2560) (ht : t + 5 ≤ L) (hW : zLW im s n h len tx) (hN : ∀ (im' : ZI) (s' : ZSt) (n' : Nat) (h' : Nat → ZSt) (len' : Nat) (tx' : Nat → Int32), zLW im' s' n' h' len' tx' → w 857 [some (.ref 1050), some (.ref 0), some (.ref 470), some (.int (nI t))] [] z zE im') : w 426 [some (.ref 1050), some (.ref 0), some (.ref 470), some (.int (nI t))] [] z zE im := by
  have S := SX.1
  have hW0 := hW
  obtain ⟨⟨hT, ⟨f, hR⟩, hP⟩, h471, hh, h6, h474⟩ := hW
  obtain ⟨⟨nw, nc, hI, hr⟩, -⟩ := id hT
  refine zz_aload_1 S dL_law_426 (q := 427) rfl ?_
  refine zz_aload_0 S dL_law_427 (q := 428) rfl ?_
  refine zz_iload_3 S dL_law_428 (q := 429) rfl ?_
  refine zz_iconst S (v := 1) rfl dL_law_429 (q := 430) rfl ?_
  refine zz_iadd S dL_law_430 (q := 431) rfl ?_
  refine zz_sld SX (j := t + 1) (nI_add t 1) (by omega) hL dL_law_431 (q := 432) rfl ?_
  -- at 432: invokevirtual 57
  refine zz_virtI S yy_X7_restore lL_57 (ci := 7) (by decide) rfl (cx_prestore (xs (t + 1)) f n len nw nc h s tx im hT hR hP hI hr) rfl (Nat.le_of_ble_eq_true rfl) (Nat.le_of_ble_eq_true rfl) rfl (Nat.le_of_ble_eq_true rfl) rfl dL_law_432 (q := 435) rfl ?_
  rintro r1 im1 ⟨e1, hX1, hH1⟩
  have e471 : im1 471 = s := (hH1 471 (by decide)).trans h471
  have hh1 : zm_h im1 n h := hh.hi (by rw [hH1 470 (by decide)]) (hH1 473 (by decide))
  have hl1 : im1 470 6 = nI len := by rw [hH1 470 (by decide)]; exact h6
  have ht1 : im1 474 = tx := (hH1 474 (by decide)).trans h474
  refine zz_aload_2 S dL_law_435 (q := 436) rfl ?_
  refine zz_aload_0 S dL_law_436 (q := 437) rfl ?_
  refine zz_iload_3 S dL_law_437 (q := 438) rfl ?_
  refine zz_iconst S (v := 1) rfl dL_law_438 (q := 439) rfl ?_
  refine zz_iadd S dL_law_439 (q := 440) rfl ?_
  refine zz_sld SX (j := t + 1) (nI_add t 1) (by omega) hL dL_law_440 (q := 441) rfl ?_
  -- at 441: invokevirtual 60
  refine zz_virtI S yy_X8_restore lL_60 (ci := 8) (by decide) rfl (co_restore (xs (t + 1)) im1 n h hh1) rfl (Nat.le_of_ble_eq_true rfl) (Nat.le_of_ble_eq_true rfl) rfl (Nat.le_of_ble_eq_true rfl) rfl dL_law_441 (q := 444) rfl ?_
  rintro r2 im2 ⟨e2, p1, p2, p3, p4, p5⟩
  rw [e471] at e2 p1 p2
  refine zz_icmp_eq S dL_law_444 (t := 857) (by decide) (q := 447) rfl (fun a1 => ?_) (fun a1 => ?_)
  -- then 857 else 447
  · exact hN im2 _ _ _ len tx ⟨hX1.lo (fun k a _ _ => p5 k a), p1, p2, p3.trans hl1, p4.trans ht1⟩
  · exact absurd (e1.trans e2.symm) a1
set_option maxHeartbeats 4000000 in
theorem lz_undo {t n len : Nat} {h : Nat → ZSt} {s : ZSt} {tx : Nat → Int32} (SX : zz_SX G l L xs w) (hL : L ≤ 2560) (ht : t + 5 ≤ L) (hW : zLW im s n h len tx) (hN : ∀ (im' : ZI) (s' : ZSt) (n' : Nat) (h' : Nat → ZSt) (len' : Nat) (tx' : Nat → Int32), zLW im' s' n' h' len' tx' → w 857 [some (.ref 1050), some (.ref 0), some (.ref 470), some (.int (nI t))] [] z zE im') : w 449 [some (.ref 1050), some (.ref 0), some (.ref 470), some (.int (nI t))] [] z zE im := by
  have S := SX.1
  have hW0 := hW
  obtain ⟨⟨hT, ⟨f, hR⟩, hP⟩, h471, hh, h6, h474⟩ := hW
  obtain ⟨⟨nw, nc, hI, hr⟩, -⟩ := id hT
  refine zz_aload_1 S dL_law_449 (q := 450) rfl ?_
  -- at 450: invokevirtual 61
  refine zz_virtI S yy_X7_undo lL_61 (ci := 7) (by decide) rfl (cx_pundo  f n len h s tx im hT hR hP) rfl (Nat.le_of_ble_eq_true rfl) (Nat.le_of_ble_eq_true rfl) rfl (Nat.le_of_ble_eq_true rfl) rfl dL_law_450 (q := 453) rfl ?_
  rintro r1 im1 ⟨e1, hX1, hH1⟩
  have e471 : im1 471 = s := (hH1 471 (by decide)).trans h471
  have hh1 : zm_h im1 n h := hh.hi (by rw [hH1 470 (by decide)]) (hH1 473 (by decide))
  have hl1 : im1 470 6 = nI len := by rw [hH1 470 (by decide)]; exact h6
  have ht1 : im1 474 = tx := (hH1 474 (by decide)).trans h474
  refine zz_aload_2 S dL_law_453 (q := 454) rfl ?_
  -- at 454: invokevirtual 64
  refine zz_virtI S yy_X8_undo lL_64 (ci := 8) (by decide) rfl (co_undo  im1 n h hh1) rfl (Nat.le_of_ble_eq_true rfl) (Nat.le_of_ble_eq_true rfl) rfl (Nat.le_of_ble_eq_true rfl) rfl dL_law_454 (q := 457) rfl ?_
  rintro r2 im2 ⟨e2, p1, p2, p3, p4, p5⟩
  rw [e471] at e2 p1 p2
  refine zz_icmp_eq S dL_law_457 (t := 857) (by decide) (q := 460) rfl (fun a1 => ?_) (fun a1 => ?_)
  -- then 857 else 460
  · exact hN im2 _ _ _ len tx ⟨hX1.lo (fun k a _ _ => p5 k a), p1, p2, p3.trans hl1, p4.trans ht1⟩
  · exact absurd (e1.trans e2.symm) a1
set_option maxHeartbeats 4000000 in
theorem lz_append {t n len : Nat} {h : Nat → ZSt} {s : ZSt} {tx : Nat → Int32} (SX : zz_SX G l L xs w) (hL : L ≤ 2560) (ht : t + 5 ≤ L) (hW : zLW im s n h len tx) (hN : ∀ (im' : ZI) (s' : ZSt) (n' : Nat) (h' : Nat → ZSt) (len' : Nat) (tx' : Nat → Int32), zLW im' s' n' h' len' tx' → w 857 [some (.ref 1050), some (.ref 0), some (.ref 470), some (.int (nI t))] [] z zE im') : w 462 [some (.ref 1050), some (.ref 0), some (.ref 470), some (.int (nI t))] [] z zE im := by
  have S := SX.1
  have hW0 := hW
  obtain ⟨⟨hT, ⟨f, hR⟩, hP⟩, h471, hh, h6, h474⟩ := hW
  obtain ⟨⟨nw, nc, hI, hr⟩, -⟩ := id hT
  refine zz_aload_1 S dL_law_462 (q := 463) rfl ?_
  refine zz_aload_0 S dL_law_463 (q := 464) rfl ?_
  refine zz_iload_3 S dL_law_464 (q := 465) rfl ?_
  refine zz_iconst S (v := 1) rfl dL_law_465 (q := 466) rfl ?_
  refine zz_iadd S dL_law_466 (q := 467) rfl ?_
  refine zz_sld SX (j := t + 1) (nI_add t 1) (by omega) hL dL_law_467 (q := 468) rfl ?_
  -- at 468: invokevirtual 65
  refine zz_virtI S yy_X7_append lL_65 (ci := 7) (by decide) rfl (cx_pappend (xs (t + 1)) n len h s tx im hT ⟨f, hR⟩ hP) rfl (Nat.le_of_ble_eq_true rfl) (Nat.le_of_ble_eq_true rfl) rfl (Nat.le_of_ble_eq_true rfl) rfl dL_law_468 (q := 471) rfl ?_
  rintro r1 im1 ⟨e1, hX1, hH1⟩
  have e471 : im1 471 = s := (hH1 471 (by decide)).trans h471
  have hh1 : zm_h im1 n h := hh.hi (by rw [hH1 470 (by decide)]) (hH1 473 (by decide))
  have hl1 : im1 470 6 = nI len := by rw [hH1 470 (by decide)]; exact h6
  have ht1 : im1 474 = tx := (hH1 474 (by decide)).trans h474
  refine zz_aload_2 S dL_law_471 (q := 472) rfl ?_
  refine zz_aload_0 S dL_law_472 (q := 473) rfl ?_
  refine zz_iload_3 S dL_law_473 (q := 474) rfl ?_
  refine zz_iconst S (v := 1) rfl dL_law_474 (q := 475) rfl ?_
  refine zz_iadd S dL_law_475 (q := 476) rfl ?_
  refine zz_sld SX (j := t + 1) (nI_add t 1) (by omega) hL dL_law_476 (q := 477) rfl ?_
  -- at 477: invokevirtual 68
  refine zz_virtI S yy_X8_append lL_68 (ci := 8) (by decide) rfl (co_append (xs (t + 1)) im1 n len h hh1 hl1 hP.2.1) rfl (Nat.le_of_ble_eq_true rfl) (Nat.le_of_ble_eq_true rfl) rfl (Nat.le_of_ble_eq_true rfl) rfl dL_law_477 (q := 480) rfl ?_
  rintro r2 im2 ⟨e2, p1, p2, p3, p4, p5⟩
  rw [ht1] at e2 p3 p4
  rw [e471] at p1
  refine zz_icmp_eq S dL_law_480 (t := 857) (by decide) (q := 483) rfl (fun a1 => ?_) (fun a1 => ?_)
  -- then 857 else 483
  · exact hN im2 _ _ _ _ _ ⟨hX1.lo (fun k a _ _ => p5 k a), p1, p2, p3, p4⟩
  · exact absurd (e1.trans e2.symm) a1
set_option maxHeartbeats 4000000 in
theorem lz_clearText {t n len : Nat} {h : Nat → ZSt} {s : ZSt} {tx : Nat → Int32} (SX : zz_SX G l L xs w) (hL : L ≤ 2560) (ht : t + 5 ≤ L) (hW : zLW im s n h len tx) (hN : ∀ (im' : ZI) (s' : ZSt) (n' : Nat) (h' : Nat → ZSt) (len' : Nat) (tx' : Nat → Int32), zLW im' s' n' h' len' tx' → w 857 [some (.ref 1050), some (.ref 0), some (.ref 470), some (.int (nI t))] [] z zE im') : w 485 [some (.ref 1050), some (.ref 0), some (.ref 470), some (.int (nI t))] [] z zE im := by
  have S := SX.1
  have hW0 := hW
  obtain ⟨⟨hT, ⟨f, hR⟩, hP⟩, h471, hh, h6, h474⟩ := hW
  obtain ⟨⟨nw, nc, hI, hr⟩, -⟩ := id hT
  refine zz_aload_1 S dL_law_485 (q := 486) rfl ?_
  -- at 486: invokevirtual 69
  refine zz_virtI S yy_X7_clearText lL_69 (ci := 7) (by decide) rfl (cx_pclear  n len h s tx im hT ⟨f, hR⟩ hP) rfl (Nat.le_of_ble_eq_true rfl) (Nat.le_of_ble_eq_true rfl) rfl (Nat.le_of_ble_eq_true rfl) rfl dL_law_486 (q := 489) rfl ?_
  rintro r1 im1 ⟨e1, hX1, hH1⟩
  have e471 : im1 471 = s := (hH1 471 (by decide)).trans h471
  have hh1 : zm_h im1 n h := hh.hi (by rw [hH1 470 (by decide)]) (hH1 473 (by decide))
  have hl1 : im1 470 6 = nI len := by rw [hH1 470 (by decide)]; exact h6
  have ht1 : im1 474 = tx := (hH1 474 (by decide)).trans h474
  refine zz_aload_2 S dL_law_489 (q := 490) rfl ?_
  -- at 490: invokevirtual 72
  refine zz_virtI S yy_X8_clearText lL_72 (ci := 8) (by decide) rfl (co_clearText  im1 n len h hh1 hl1) rfl (Nat.le_of_ble_eq_true rfl) (Nat.le_of_ble_eq_true rfl) rfl (Nat.le_of_ble_eq_true rfl) rfl dL_law_490 (q := 493) rfl ?_
  rintro r2 im2 ⟨e2, p1, p2, p3, p4, p5⟩
  rw [ht1] at p4
  rw [e471] at p1
  refine zz_icmp_eq S dL_law_493 (t := 857) (by decide) (q := 496) rfl (fun a1 => ?_) (fun a1 => ?_)
  -- then 857 else 496
  · exact hN im2 _ _ _ _ _ ⟨hX1.lo (fun k a _ _ => p5 k a), p1, p2, p3, p4⟩
  · exact absurd (e1.trans e2.symm) a1
set_option maxHeartbeats 4000000 in
theorem lz_run {t n len : Nat} {h : Nat → ZSt} {s : ZSt} {tx : Nat → Int32} (SX : zz_SX G l L xs w) (hL : L ≤ 2560) (ht : t + 5 ≤ L) (hW : zLW im s n h len tx) (hN : ∀ (im' : ZI) (s' : ZSt) (n' : Nat) (h' : Nat → ZSt) (len' : Nat) (tx' : Nat → Int32), zLW im' s' n' h' len' tx' → w 857 [some (.ref 1050), some (.ref 0), some (.ref 470), some (.int (nI t))] [] z zE im') : w 498 [some (.ref 1050), some (.ref 0), some (.ref 470), some (.int (nI t))] [] z zE im := by
  have S := SX.1
  have hW0 := hW
  obtain ⟨⟨hT, ⟨f, hR⟩, hP⟩, h471, hh, h6, h474⟩ := hW
  obtain ⟨⟨nw, nc, hI, hr⟩, -⟩ := id hT
  refine zz_aload_1 S dL_law_498 (q := 499) rfl ?_
  -- at 499: invokevirtual 73
  refine zz_virtI S yy_X7_run lL_73 (ci := 7) (by decide) rfl (cx_prun  f n len h s tx im hT hR hP) rfl (Nat.le_of_ble_eq_true rfl) (Nat.le_of_ble_eq_true rfl) rfl (Nat.le_of_ble_eq_true rfl) rfl dL_law_499 (q := 502) rfl ?_
  rintro r1 im1 ⟨e1, hX1, hH1⟩
  have e471 : im1 471 = s := (hH1 471 (by decide)).trans h471
  have hh1 : zm_h im1 n h := hh.hi (by rw [hH1 470 (by decide)]) (hH1 473 (by decide))
  have hl1 : im1 470 6 = nI len := by rw [hH1 470 (by decide)]; exact h6
  have ht1 : im1 474 = tx := (hH1 474 (by decide)).trans h474
  refine zz_aload_2 S dL_law_502 (q := 503) rfl ?_
  -- at 503: invokevirtual 76
  refine zz_virtI S yy_X8_run lL_76 (ci := 8) (by decide) rfl (co_run  len n nw nc h im1 hh1 hl1 hP.2.1 (by rw [ht1]; exact hP.2.2.2) (by rw [e471]; exact hI)) rfl (Nat.le_of_ble_eq_true rfl) (Nat.le_of_ble_eq_true rfl) rfl (Nat.le_of_ble_eq_true rfl) rfl dL_law_503 (q := 506) rfl ?_
  rintro r2 im2 ⟨e2, p1, p2, p3, p4, p5⟩
  rw [ht1, e471] at e2 p1 p2 p3
  rw [ht1] at p4
  refine zz_icmp_eq S dL_law_506 (t := 857) (by decide) (q := 509) rfl (fun a1 => ?_) (fun a1 => ?_)
  -- then 857 else 509
  · exact hN im2 _ _ _ _ _ ⟨hX1.lo (fun k a _ _ => p5 k a), p1, p2, p3, p4⟩
  · exact absurd (e1.trans e2.symm) a1
set_option maxHeartbeats 4000000 in
theorem lz_count {t n len : Nat} {h : Nat → ZSt} {s : ZSt} {tx : Nat → Int32} (SX : zz_SX G l L xs w) (hL : L ≤ 2560) (ht : t + 5 ≤ L) (hW : zLW im s n h len tx) (hN : ∀ (im' : ZI) (s' : ZSt) (n' : Nat) (h' : Nat → ZSt) (len' : Nat) (tx' : Nat → Int32), zLW im' s' n' h' len' tx' → w 857 [some (.ref 1050), some (.ref 0), some (.ref 470), some (.int (nI t))] [] z zE im') : w 511 [some (.ref 1050), some (.ref 0), some (.ref 470), some (.int (nI t))] [] z zE im := by
  have S := SX.1
  have hW0 := hW
  obtain ⟨⟨hT, ⟨f, hR⟩, hP⟩, h471, hh, h6, h474⟩ := hW
  obtain ⟨⟨nw, nc, hI, hr⟩, -⟩ := id hT
  refine zz_aload_1 S dL_law_511 (q := 512) rfl ?_
  refine zz_aload_0 S dL_law_512 (q := 513) rfl ?_
  refine zz_iload_3 S dL_law_513 (q := 514) rfl ?_
  refine zz_iconst S (v := 1) rfl dL_law_514 (q := 515) rfl ?_
  refine zz_iadd S dL_law_515 (q := 516) rfl ?_
  refine zz_sld SX (j := t + 1) (nI_add t 1) (by omega) hL dL_law_516 (q := 517) rfl ?_
  -- at 517: invokevirtual 77
  refine zz_virtI S yy_X7_count lL_77 (ci := 7) (by decide) rfl (cx_count (xs (t + 1)) n len nw nc s im hI hr hR.2.2.2.1 hP.1 (hT.2 0 (by decide)).1 (hT.2 1 (by decide)).1 ((hT.2 0 (by decide)).2.imp id And.left) ((hT.2 1 (by decide)).2.imp id And.left)) rfl (Nat.le_of_ble_eq_true rfl) (Nat.le_of_ble_eq_true rfl) rfl (Nat.le_of_ble_eq_true rfl) rfl dL_law_517 (q := 520) rfl ?_
  rintro r1 im1 ⟨e1, hk1⟩
  have hH1 : zHi im im1 := fun k hk => hk1 k (by simp; omega)
  have e471 : im1 471 = s := (hH1 471 (by decide)).trans h471
  have hh1 : zm_h im1 n h := hh.hi (by rw [hH1 470 (by decide)]) (hH1 473 (by decide))
  have hl1 : im1 470 6 = nI len := by rw [hH1 470 (by decide)]; exact h6
  have ht1 : im1 474 = tx := (hH1 474 (by decide)).trans h474
  refine zz_aload_2 S dL_law_520 (q := 521) rfl ?_
  refine zz_aload_0 S dL_law_521 (q := 522) rfl ?_
  refine zz_iload_3 S dL_law_522 (q := 523) rfl ?_
  refine zz_iconst S (v := 1) rfl dL_law_523 (q := 524) rfl ?_
  refine zz_iadd S dL_law_524 (q := 525) rfl ?_
  refine zz_sld SX (j := t + 1) (nI_add t 1) (by omega) hL dL_law_525 (q := 526) rfl ?_
  -- at 526: invokevirtual 80
  refine zz_virtI S yy_X8_count lL_80 (ci := 8) (by decide) rfl (co_count (xs (t + 1)) im1 n len nw nc h hh1 hl1 (by rw [e471]; exact hI)) rfl (Nat.le_of_ble_eq_true rfl) (Nat.le_of_ble_eq_true rfl) rfl (Nat.le_of_ble_eq_true rfl) rfl dL_law_526 (q := 529) rfl ?_
  rintro r2 im2 ⟨e2, hk2⟩
  try rw [e471] at e2
  refine zz_icmp_eq S dL_law_529 (t := 857) (by decide) (q := 532) rfl (fun a1 => ?_) (fun a1 => ?_)
  -- then 857 else 532
  · exact hN im2 s n h len tx (hW0.look hk1 hk2)
  · exact absurd (e1.trans e2.symm) a1
set_option maxHeartbeats 4000000 in
theorem lz_wall {t n len : Nat} {h : Nat → ZSt} {s : ZSt} {tx : Nat → Int32} (SX : zz_SX G l L xs w) (hL : L ≤ 2560) (ht : t + 5 ≤ L) (hW : zLW im s n h len tx) (hN : ∀ (im' : ZI) (s' : ZSt) (n' : Nat) (h' : Nat → ZSt) (len' : Nat) (tx' : Nat → Int32), zLW im' s' n' h' len' tx' → w 857 [some (.ref 1050), some (.ref 0), some (.ref 470), some (.int (nI t))] [] z zE im') : w 534 [some (.ref 1050), some (.ref 0), some (.ref 470), some (.int (nI t))] [] z zE im := by
  have S := SX.1
  have hW0 := hW
  obtain ⟨⟨hT, ⟨f, hR⟩, hP⟩, h471, hh, h6, h474⟩ := hW
  obtain ⟨⟨nw, nc, hI, hr⟩, -⟩ := id hT
  refine zz_aload_1 S dL_law_534 (q := 535) rfl ?_
  refine zz_aload_0 S dL_law_535 (q := 536) rfl ?_
  refine zz_iload_3 S dL_law_536 (q := 537) rfl ?_
  refine zz_iconst S (v := 1) rfl dL_law_537 (q := 538) rfl ?_
  refine zz_iadd S dL_law_538 (q := 539) rfl ?_
  refine zz_sld SX (j := t + 1) (nI_add t 1) (by omega) hL dL_law_539 (q := 540) rfl ?_
  refine zz_aload_0 S dL_law_540 (q := 541) rfl ?_
  refine zz_iload_3 S dL_law_541 (q := 542) rfl ?_
  refine zz_iconst S (v := 2) rfl dL_law_542 (q := 543) rfl ?_
  refine zz_iadd S dL_law_543 (q := 544) rfl ?_
  refine zz_sld SX (j := t + 2) (nI_add t 2) (by omega) hL dL_law_544 (q := 545) rfl ?_
  -- at 545: invokevirtual 81
  refine zz_virtI S yy_X7_wall lL_81 (ci := 7) (by decide) rfl (cx_wall (xs (t + 1)) (xs (t + 2)) nw nc s im hI hr) rfl (Nat.le_of_ble_eq_true rfl) (Nat.le_of_ble_eq_true rfl) rfl (Nat.le_of_ble_eq_true rfl) rfl dL_law_545 (q := 548) rfl ?_
  rintro r1 im1 ⟨e1, hk1⟩
  have hH1 : zHi im im1 := fun k hk => hk1 k (by simp; omega)
  have e471 : im1 471 = s := (hH1 471 (by decide)).trans h471
  have hh1 : zm_h im1 n h := hh.hi (by rw [hH1 470 (by decide)]) (hH1 473 (by decide))
  have hl1 : im1 470 6 = nI len := by rw [hH1 470 (by decide)]; exact h6
  have ht1 : im1 474 = tx := (hH1 474 (by decide)).trans h474
  refine zz_aload_2 S dL_law_548 (q := 549) rfl ?_
  refine zz_aload_0 S dL_law_549 (q := 550) rfl ?_
  refine zz_iload_3 S dL_law_550 (q := 551) rfl ?_
  refine zz_iconst S (v := 1) rfl dL_law_551 (q := 552) rfl ?_
  refine zz_iadd S dL_law_552 (q := 553) rfl ?_
  refine zz_sld SX (j := t + 1) (nI_add t 1) (by omega) hL dL_law_553 (q := 554) rfl ?_
  refine zz_aload_0 S dL_law_554 (q := 555) rfl ?_
  refine zz_iload_3 S dL_law_555 (q := 556) rfl ?_
  refine zz_iconst S (v := 2) rfl dL_law_556 (q := 557) rfl ?_
  refine zz_iadd S dL_law_557 (q := 558) rfl ?_
  refine zz_sld SX (j := t + 2) (nI_add t 2) (by omega) hL dL_law_558 (q := 559) rfl ?_
  -- at 559: invokevirtual 84
  refine zz_virtI S yy_X8_wall lL_84 (ci := 8) (by decide) rfl (co_wall (xs (t + 1)) (xs (t + 2)) im1 nw nc (by rw [e471]; exact hI)) rfl (Nat.le_of_ble_eq_true rfl) (Nat.le_of_ble_eq_true rfl) rfl (Nat.le_of_ble_eq_true rfl) rfl dL_law_559 (q := 562) rfl ?_
  rintro r2 im2 ⟨e2, hk2⟩
  try rw [e471] at e2
  refine zz_icmp_eq S dL_law_562 (t := 857) (by decide) (q := 565) rfl (fun a1 => ?_) (fun a1 => ?_)
  -- then 857 else 565
  · exact hN im2 s n h len tx (hW0.look hk1 hk2)
  · exact absurd (e1.trans e2.symm) a1
set_option maxHeartbeats 4000000 in
theorem lz_commission {t n len : Nat} {h : Nat → ZSt} {s : ZSt} {tx : Nat → Int32} (SX : zz_SX G l L xs w) (hL : L ≤ 2560) (ht : t + 5 ≤ L) (hW : zLW im s n h len tx) (hN : ∀ (im' : ZI) (s' : ZSt) (n' : Nat) (h' : Nat → ZSt) (len' : Nat) (tx' : Nat → Int32), zLW im' s' n' h' len' tx' → w 857 [some (.ref 1050), some (.ref 0), some (.ref 470), some (.int (nI t))] [] z zE im') : w 567 [some (.ref 1050), some (.ref 0), some (.ref 470), some (.int (nI t))] [] z zE im := by
  have S := SX.1
  have hW0 := hW
  obtain ⟨⟨hT, ⟨f, hR⟩, hP⟩, h471, hh, h6, h474⟩ := hW
  obtain ⟨⟨nw, nc, hI, hr⟩, -⟩ := id hT
  refine zz_aload_1 S dL_law_567 (q := 568) rfl ?_
  refine zz_aload_0 S dL_law_568 (q := 569) rfl ?_
  refine zz_iload_3 S dL_law_569 (q := 570) rfl ?_
  refine zz_iconst S (v := 1) rfl dL_law_570 (q := 571) rfl ?_
  refine zz_iadd S dL_law_571 (q := 572) rfl ?_
  refine zz_sld SX (j := t + 1) (nI_add t 1) (by omega) hL dL_law_572 (q := 573) rfl ?_
  refine zz_aload_0 S dL_law_573 (q := 574) rfl ?_
  refine zz_iload_3 S dL_law_574 (q := 575) rfl ?_
  refine zz_iconst S (v := 2) rfl dL_law_575 (q := 576) rfl ?_
  refine zz_iadd S dL_law_576 (q := 577) rfl ?_
  refine zz_sld SX (j := t + 2) (nI_add t 2) (by omega) hL dL_law_577 (q := 578) rfl ?_
  -- at 578: invokevirtual 85
  refine zz_virtI S yy_X7_commission lL_85 (ci := 7) (by decide) rfl (cx_commission (xs (t + 1)) (xs (t + 2)) nw nc s im hI hr) rfl (Nat.le_of_ble_eq_true rfl) (Nat.le_of_ble_eq_true rfl) rfl (Nat.le_of_ble_eq_true rfl) rfl dL_law_578 (q := 581) rfl ?_
  rintro r1 im1 ⟨e1, hk1⟩
  have hH1 : zHi im im1 := fun k hk => hk1 k (by simp; omega)
  have e471 : im1 471 = s := (hH1 471 (by decide)).trans h471
  have hh1 : zm_h im1 n h := hh.hi (by rw [hH1 470 (by decide)]) (hH1 473 (by decide))
  have hl1 : im1 470 6 = nI len := by rw [hH1 470 (by decide)]; exact h6
  have ht1 : im1 474 = tx := (hH1 474 (by decide)).trans h474
  refine zz_aload_2 S dL_law_581 (q := 582) rfl ?_
  refine zz_aload_0 S dL_law_582 (q := 583) rfl ?_
  refine zz_iload_3 S dL_law_583 (q := 584) rfl ?_
  refine zz_iconst S (v := 1) rfl dL_law_584 (q := 585) rfl ?_
  refine zz_iadd S dL_law_585 (q := 586) rfl ?_
  refine zz_sld SX (j := t + 1) (nI_add t 1) (by omega) hL dL_law_586 (q := 587) rfl ?_
  refine zz_aload_0 S dL_law_587 (q := 588) rfl ?_
  refine zz_iload_3 S dL_law_588 (q := 589) rfl ?_
  refine zz_iconst S (v := 2) rfl dL_law_589 (q := 590) rfl ?_
  refine zz_iadd S dL_law_590 (q := 591) rfl ?_
  refine zz_sld SX (j := t + 2) (nI_add t 2) (by omega) hL dL_law_591 (q := 592) rfl ?_
  -- at 592: invokevirtual 88
  refine zz_virtI S yy_X8_commission lL_88 (ci := 8) (by decide) rfl (co_commission (xs (t + 1)) (xs (t + 2)) im1 nw nc (by rw [e471]; exact hI)) rfl (Nat.le_of_ble_eq_true rfl) (Nat.le_of_ble_eq_true rfl) rfl (Nat.le_of_ble_eq_true rfl) rfl dL_law_592 (q := 595) rfl ?_
  rintro r2 im2 ⟨e2, hk2⟩
  try rw [e471] at e2
  refine zz_icmp_eq S dL_law_595 (t := 857) (by decide) (q := 598) rfl (fun a1 => ?_) (fun a1 => ?_)
  -- then 857 else 598
  · exact hN im2 s n h len tx (hW0.look hk1 hk2)
  · exact absurd (e1.trans e2.symm) a1
set_option maxHeartbeats 4000000 in
theorem lz_correction {t n len : Nat} {h : Nat → ZSt} {s : ZSt} {tx : Nat → Int32} (SX : zz_SX G l L xs w) (hL : L ≤ 2560) (ht : t + 5 ≤ L) (hW : zLW im s n h len tx) (hN : ∀ (im' : ZI) (s' : ZSt) (n' : Nat) (h' : Nat → ZSt) (len' : Nat) (tx' : Nat → Int32), zLW im' s' n' h' len' tx' → w 857 [some (.ref 1050), some (.ref 0), some (.ref 470), some (.int (nI t))] [] z zE im') : w 600 [some (.ref 1050), some (.ref 0), some (.ref 470), some (.int (nI t))] [] z zE im := by
  have S := SX.1
  have hW0 := hW
  obtain ⟨⟨hT, ⟨f, hR⟩, hP⟩, h471, hh, h6, h474⟩ := hW
  obtain ⟨⟨nw, nc, hI, hr⟩, -⟩ := id hT
  refine zz_aload_1 S dL_law_600 (q := 601) rfl ?_
  refine zz_aload_0 S dL_law_601 (q := 602) rfl ?_
  refine zz_iload_3 S dL_law_602 (q := 603) rfl ?_
  refine zz_iconst S (v := 1) rfl dL_law_603 (q := 604) rfl ?_
  refine zz_iadd S dL_law_604 (q := 605) rfl ?_
  refine zz_sld SX (j := t + 1) (nI_add t 1) (by omega) hL dL_law_605 (q := 606) rfl ?_
  -- at 606: invokevirtual 89
  refine zz_virtI S yy_X7_correction lL_89 (ci := 7) (by decide) rfl (cx_correction (xs (t + 1)) nw nc s im hr) rfl (Nat.le_of_ble_eq_true rfl) (Nat.le_of_ble_eq_true rfl) rfl (Nat.le_of_ble_eq_true rfl) rfl dL_law_606 (q := 609) rfl ?_
  rintro r1 im1 ⟨e1, hk1⟩
  have hH1 : zHi im im1 := fun k hk => hk1 k (by simp; omega)
  have e471 : im1 471 = s := (hH1 471 (by decide)).trans h471
  have hh1 : zm_h im1 n h := hh.hi (by rw [hH1 470 (by decide)]) (hH1 473 (by decide))
  have hl1 : im1 470 6 = nI len := by rw [hH1 470 (by decide)]; exact h6
  have ht1 : im1 474 = tx := (hH1 474 (by decide)).trans h474
  refine zz_aload_2 S dL_law_609 (q := 610) rfl ?_
  refine zz_aload_0 S dL_law_610 (q := 611) rfl ?_
  refine zz_iload_3 S dL_law_611 (q := 612) rfl ?_
  refine zz_iconst S (v := 1) rfl dL_law_612 (q := 613) rfl ?_
  refine zz_iadd S dL_law_613 (q := 614) rfl ?_
  refine zz_sld SX (j := t + 1) (nI_add t 1) (by omega) hL dL_law_614 (q := 615) rfl ?_
  -- at 615: invokevirtual 92
  refine zz_virtI S yy_X8_correction lL_92 (ci := 8) (by decide) rfl (co_correction (xs (t + 1)) im1) rfl (Nat.le_of_ble_eq_true rfl) (Nat.le_of_ble_eq_true rfl) rfl (Nat.le_of_ble_eq_true rfl) rfl dL_law_615 (q := 618) rfl ?_
  rintro r2 im2 ⟨e2, hk2⟩
  try rw [e471] at e2
  refine zz_icmp_eq S dL_law_618 (t := 857) (by decide) (q := 621) rfl (fun a1 => ?_) (fun a1 => ?_)
  -- then 857 else 621
  · exact hN im2 s n h len tx (hW0.look hk1 hk2)
  · exact absurd (e1.trans e2.symm) a1
set_option maxHeartbeats 4000000 in
theorem lz_sine {t n len : Nat} {h : Nat → ZSt} {s : ZSt} {tx : Nat → Int32} (SX : zz_SX G l L xs w) (hL : L ≤ 2560) (ht : t + 5 ≤ L) (hW : zLW im s n h len tx) (hN : ∀ (im' : ZI) (s' : ZSt) (n' : Nat) (h' : Nat → ZSt) (len' : Nat) (tx' : Nat → Int32), zLW im' s' n' h' len' tx' → w 857 [some (.ref 1050), some (.ref 0), some (.ref 470), some (.int (nI t))] [] z zE im') : w 623 [some (.ref 1050), some (.ref 0), some (.ref 470), some (.int (nI t))] [] z zE im := by
  have S := SX.1
  have hW0 := hW
  obtain ⟨⟨hT, ⟨f, hR⟩, hP⟩, h471, hh, h6, h474⟩ := hW
  obtain ⟨⟨nw, nc, hI, hr⟩, -⟩ := id hT
  refine zz_aload_1 S dL_law_623 (q := 624) rfl ?_
  refine zz_aload_0 S dL_law_624 (q := 625) rfl ?_
  refine zz_iload_3 S dL_law_625 (q := 626) rfl ?_
  refine zz_iconst S (v := 1) rfl dL_law_626 (q := 627) rfl ?_
  refine zz_iadd S dL_law_627 (q := 628) rfl ?_
  refine zz_sld SX (j := t + 1) (nI_add t 1) (by omega) hL dL_law_628 (q := 629) rfl ?_
  -- at 629: invokevirtual 93
  refine zz_virtI S yy_X7_sine lL_93 (ci := 7) (by decide) rfl (cx_sine (xs (t + 1)) im) rfl (Nat.le_of_ble_eq_true rfl) (Nat.le_of_ble_eq_true rfl) rfl (Nat.le_of_ble_eq_true rfl) rfl dL_law_629 (q := 632) rfl ?_
  rintro r1 im1 ⟨e1, hk1⟩
  have hH1 : zHi im im1 := fun k hk => hk1 k (by simp; omega)
  have e471 : im1 471 = s := (hH1 471 (by decide)).trans h471
  have hh1 : zm_h im1 n h := hh.hi (by rw [hH1 470 (by decide)]) (hH1 473 (by decide))
  have hl1 : im1 470 6 = nI len := by rw [hH1 470 (by decide)]; exact h6
  have ht1 : im1 474 = tx := (hH1 474 (by decide)).trans h474
  refine zz_aload_2 S dL_law_632 (q := 633) rfl ?_
  refine zz_aload_0 S dL_law_633 (q := 634) rfl ?_
  refine zz_iload_3 S dL_law_634 (q := 635) rfl ?_
  refine zz_iconst S (v := 1) rfl dL_law_635 (q := 636) rfl ?_
  refine zz_iadd S dL_law_636 (q := 637) rfl ?_
  refine zz_sld SX (j := t + 1) (nI_add t 1) (by omega) hL dL_law_637 (q := 638) rfl ?_
  -- at 638: invokevirtual 96
  refine zz_virtI S yy_X8_sine lL_96 (ci := 8) (by decide) rfl (co_sine (xs (t + 1)) im1) rfl (Nat.le_of_ble_eq_true rfl) (Nat.le_of_ble_eq_true rfl) rfl (Nat.le_of_ble_eq_true rfl) rfl dL_law_638 (q := 641) rfl ?_
  rintro r2 im2 ⟨e2, hk2⟩
  try rw [e471] at e2
  refine zz_icmp_eq S dL_law_641 (t := 857) (by decide) (q := 644) rfl (fun a1 => ?_) (fun a1 => ?_)
  -- then 857 else 644
  · exact hN im2 s n h len tx (hW0.look hk1 hk2)
  · exact absurd (e1.trans e2.symm) a1
set_option maxHeartbeats 4000000 in
theorem lz_offset {t n len : Nat} {h : Nat → ZSt} {s : ZSt} {tx : Nat → Int32} (SX : zz_SX G l L xs w) (hL : L ≤ 2560) (ht : t + 5 ≤ L) (hW : zLW im s n h len tx) (hN : ∀ (im' : ZI) (s' : ZSt) (n' : Nat) (h' : Nat → ZSt) (len' : Nat) (tx' : Nat → Int32), zLW im' s' n' h' len' tx' → w 857 [some (.ref 1050), some (.ref 0), some (.ref 470), some (.int (nI t))] [] z zE im') : w 646 [some (.ref 1050), some (.ref 0), some (.ref 470), some (.int (nI t))] [] z zE im := by
  have S := SX.1
  have hW0 := hW
  obtain ⟨⟨hT, ⟨f, hR⟩, hP⟩, h471, hh, h6, h474⟩ := hW
  obtain ⟨⟨nw, nc, hI, hr⟩, -⟩ := id hT
  refine zz_aload_1 S dL_law_646 (q := 647) rfl ?_
  refine zz_aload_0 S dL_law_647 (q := 648) rfl ?_
  refine zz_iload_3 S dL_law_648 (q := 649) rfl ?_
  refine zz_iconst S (v := 1) rfl dL_law_649 (q := 650) rfl ?_
  refine zz_iadd S dL_law_650 (q := 651) rfl ?_
  refine zz_sld SX (j := t + 1) (nI_add t 1) (by omega) hL dL_law_651 (q := 652) rfl ?_
  refine zz_aload_0 S dL_law_652 (q := 653) rfl ?_
  refine zz_iload_3 S dL_law_653 (q := 654) rfl ?_
  refine zz_iconst S (v := 2) rfl dL_law_654 (q := 655) rfl ?_
  refine zz_iadd S dL_law_655 (q := 656) rfl ?_
  refine zz_sld SX (j := t + 2) (nI_add t 2) (by omega) hL dL_law_656 (q := 657) rfl ?_
  -- at 657: invokevirtual 97
  refine zz_virtI S yy_X7_offset lL_97 (ci := 7) (by decide) rfl (cx_offset (xs (t + 1)) (xs (t + 2)) nw nc s im hI hr) rfl (Nat.le_of_ble_eq_true rfl) (Nat.le_of_ble_eq_true rfl) rfl (Nat.le_of_ble_eq_true rfl) rfl dL_law_657 (q := 660) rfl ?_
  rintro r1 im1 ⟨e1, hk1⟩
  have hH1 : zHi im im1 := fun k hk => hk1 k (by simp; omega)
  have e471 : im1 471 = s := (hH1 471 (by decide)).trans h471
  have hh1 : zm_h im1 n h := hh.hi (by rw [hH1 470 (by decide)]) (hH1 473 (by decide))
  have hl1 : im1 470 6 = nI len := by rw [hH1 470 (by decide)]; exact h6
  have ht1 : im1 474 = tx := (hH1 474 (by decide)).trans h474
  refine zz_aload_2 S dL_law_660 (q := 661) rfl ?_
  refine zz_aload_0 S dL_law_661 (q := 662) rfl ?_
  refine zz_iload_3 S dL_law_662 (q := 663) rfl ?_
  refine zz_iconst S (v := 1) rfl dL_law_663 (q := 664) rfl ?_
  refine zz_iadd S dL_law_664 (q := 665) rfl ?_
  refine zz_sld SX (j := t + 1) (nI_add t 1) (by omega) hL dL_law_665 (q := 666) rfl ?_
  refine zz_aload_0 S dL_law_666 (q := 667) rfl ?_
  refine zz_iload_3 S dL_law_667 (q := 668) rfl ?_
  refine zz_iconst S (v := 2) rfl dL_law_668 (q := 669) rfl ?_
  refine zz_iadd S dL_law_669 (q := 670) rfl ?_
  refine zz_sld SX (j := t + 2) (nI_add t 2) (by omega) hL dL_law_670 (q := 671) rfl ?_
  -- at 671: invokevirtual 100
  refine zz_virtI S yy_X8_offset lL_100 (ci := 8) (by decide) rfl (co_offset (xs (t + 1)) (xs (t + 2)) im1 nw nc (by rw [e471]; exact hI)) rfl (Nat.le_of_ble_eq_true rfl) (Nat.le_of_ble_eq_true rfl) rfl (Nat.le_of_ble_eq_true rfl) rfl dL_law_671 (q := 674) rfl ?_
  rintro r2 im2 ⟨e2, hk2⟩
  try rw [e471] at e2
  refine zz_icmp_eq S dL_law_674 (t := 857) (by decide) (q := 677) rfl (fun a1 => ?_) (fun a1 => ?_)
  -- then 857 else 677
  · exact hN im2 s n h len tx (hW0.look hk1 hk2)
  · exact absurd (e1.trans e2.symm) a1
set_option maxHeartbeats 4000000 in
theorem lz_lines {t n len : Nat} {h : Nat → ZSt} {s : ZSt} {tx : Nat → Int32} (SX : zz_SX G l L xs w) (hL : L ≤ 2560) (ht : t + 5 ≤ L) (hW : zLW im s n h len tx) (hN : ∀ (im' : ZI) (s' : ZSt) (n' : Nat) (h' : Nat → ZSt) (len' : Nat) (tx' : Nat → Int32), zLW im' s' n' h' len' tx' → w 857 [some (.ref 1050), some (.ref 0), some (.ref 470), some (.int (nI t))] [] z zE im') : w 679 [some (.ref 1050), some (.ref 0), some (.ref 470), some (.int (nI t))] [] z zE im := by
  have S := SX.1
  have hW0 := hW
  obtain ⟨⟨hT, ⟨f, hR⟩, hP⟩, h471, hh, h6, h474⟩ := hW
  obtain ⟨⟨nw, nc, hI, hr⟩, -⟩ := id hT
  refine zz_aload_1 S dL_law_679 (q := 680) rfl ?_
  refine zz_aload_0 S dL_law_680 (q := 681) rfl ?_
  refine zz_iload_3 S dL_law_681 (q := 682) rfl ?_
  refine zz_iconst S (v := 1) rfl dL_law_682 (q := 683) rfl ?_
  refine zz_iadd S dL_law_683 (q := 684) rfl ?_
  refine zz_sld SX (j := t + 1) (nI_add t 1) (by omega) hL dL_law_684 (q := 685) rfl ?_
  refine zz_aload_0 S dL_law_685 (q := 686) rfl ?_
  refine zz_iload_3 S dL_law_686 (q := 687) rfl ?_
  refine zz_iconst S (v := 2) rfl dL_law_687 (q := 688) rfl ?_
  refine zz_iadd S dL_law_688 (q := 689) rfl ?_
  refine zz_sld SX (j := t + 2) (nI_add t 2) (by omega) hL dL_law_689 (q := 690) rfl ?_
  -- at 690: invokevirtual 101
  refine zz_virtI S yy_X7_lines lL_101 (ci := 7) (by decide) rfl (cx_lines (xs (t + 1)) (xs (t + 2)) nw nc s im hI hr) rfl (Nat.le_of_ble_eq_true rfl) (Nat.le_of_ble_eq_true rfl) rfl (Nat.le_of_ble_eq_true rfl) rfl dL_law_690 (q := 693) rfl ?_
  rintro r1 im1 ⟨e1, hk1⟩
  have hH1 : zHi im im1 := fun k hk => hk1 k (by simp; omega)
  have e471 : im1 471 = s := (hH1 471 (by decide)).trans h471
  have hh1 : zm_h im1 n h := hh.hi (by rw [hH1 470 (by decide)]) (hH1 473 (by decide))
  have hl1 : im1 470 6 = nI len := by rw [hH1 470 (by decide)]; exact h6
  have ht1 : im1 474 = tx := (hH1 474 (by decide)).trans h474
  refine zz_aload_2 S dL_law_693 (q := 694) rfl ?_
  refine zz_aload_0 S dL_law_694 (q := 695) rfl ?_
  refine zz_iload_3 S dL_law_695 (q := 696) rfl ?_
  refine zz_iconst S (v := 1) rfl dL_law_696 (q := 697) rfl ?_
  refine zz_iadd S dL_law_697 (q := 698) rfl ?_
  refine zz_sld SX (j := t + 1) (nI_add t 1) (by omega) hL dL_law_698 (q := 699) rfl ?_
  refine zz_aload_0 S dL_law_699 (q := 700) rfl ?_
  refine zz_iload_3 S dL_law_700 (q := 701) rfl ?_
  refine zz_iconst S (v := 2) rfl dL_law_701 (q := 702) rfl ?_
  refine zz_iadd S dL_law_702 (q := 703) rfl ?_
  refine zz_sld SX (j := t + 2) (nI_add t 2) (by omega) hL dL_law_703 (q := 704) rfl ?_
  -- at 704: invokevirtual 104
  refine zz_virtI S yy_X8_lines lL_104 (ci := 8) (by decide) rfl (co_lines (xs (t + 1)) (xs (t + 2)) im1 nw nc (by rw [e471]; exact hI)) rfl (Nat.le_of_ble_eq_true rfl) (Nat.le_of_ble_eq_true rfl) rfl (Nat.le_of_ble_eq_true rfl) rfl dL_law_704 (q := 707) rfl ?_
  rintro r2 im2 ⟨e2, hk2⟩
  try rw [e471] at e2
  refine zz_icmp_eq S dL_law_707 (t := 857) (by decide) (q := 710) rfl (fun a1 => ?_) (fun a1 => ?_)
  -- then 857 else 710
  · exact hN im2 s n h len tx (hW0.look hk1 hk2)
  · exact absurd (e1.trans e2.symm) a1
set_option maxHeartbeats 4000000 in
theorem lz_read {t n len : Nat} {h : Nat → ZSt} {s : ZSt} {tx : Nat → Int32} (SX : zz_SX G l L xs w) (hL : L ≤ 2560) (ht : t + 5 ≤ L) (hW : zLW im s n h len tx) (hN : ∀ (im' : ZI) (s' : ZSt) (n' : Nat) (h' : Nat → ZSt) (len' : Nat) (tx' : Nat → Int32), zLW im' s' n' h' len' tx' → w 857 [some (.ref 1050), some (.ref 0), some (.ref 470), some (.int (nI t))] [] z zE im') : w 712 [some (.ref 1050), some (.ref 0), some (.ref 470), some (.int (nI t))] [] z zE im := by
  have S := SX.1
  have hW0 := hW
  obtain ⟨⟨hT, ⟨f, hR⟩, hP⟩, h471, hh, h6, h474⟩ := hW
  obtain ⟨⟨nw, nc, hI, hr⟩, -⟩ := id hT
  refine zz_aload_1 S dL_law_712 (q := 713) rfl ?_
  refine zz_aload_0 S dL_law_713 (q := 714) rfl ?_
  refine zz_iload_3 S dL_law_714 (q := 715) rfl ?_
  refine zz_iconst S (v := 1) rfl dL_law_715 (q := 716) rfl ?_
  refine zz_iadd S dL_law_716 (q := 717) rfl ?_
  refine zz_sld SX (j := t + 1) (nI_add t 1) (by omega) hL dL_law_717 (q := 718) rfl ?_
  refine zz_aload_0 S dL_law_718 (q := 719) rfl ?_
  refine zz_iload_3 S dL_law_719 (q := 720) rfl ?_
  refine zz_iconst S (v := 2) rfl dL_law_720 (q := 721) rfl ?_
  refine zz_iadd S dL_law_721 (q := 722) rfl ?_
  refine zz_sld SX (j := t + 2) (nI_add t 2) (by omega) hL dL_law_722 (q := 723) rfl ?_
  refine zz_aload_0 S dL_law_723 (q := 724) rfl ?_
  refine zz_iload_3 S dL_law_724 (q := 725) rfl ?_
  refine zz_iconst S (v := 3) rfl dL_law_725 (q := 726) rfl ?_
  refine zz_iadd S dL_law_726 (q := 727) rfl ?_
  refine zz_sld SX (j := t + 3) (nI_add t 3) (by omega) hL dL_law_727 (q := 728) rfl ?_
  refine zz_aload_0 S dL_law_728 (q := 729) rfl ?_
  refine zz_iload_3 S dL_law_729 (q := 730) rfl ?_
  refine zz_iconst S (v := 4) rfl dL_law_730 (q := 731) rfl ?_
  refine zz_iadd S dL_law_731 (q := 732) rfl ?_
  refine zz_sld SX (j := t + 4) (nI_add t 4) (by omega) hL dL_law_732 (q := 733) rfl ?_
  -- at 733: invokevirtual 105
  refine zz_virtI S yy_X7_read lL_105 (ci := 7) (by decide) rfl (cx_read (xs (t + 1)) (xs (t + 2)) (xs (t + 3)) (xs (t + 4)) nw nc s im hI hr) rfl (Nat.le_of_ble_eq_true rfl) (Nat.le_of_ble_eq_true rfl) rfl (Nat.le_of_ble_eq_true rfl) rfl dL_law_733 (q := 736) rfl ?_
  rintro r1 im1 ⟨e1, hk1⟩
  have hH1 : zHi im im1 := fun k hk => hk1 k (by simp; omega)
  have e471 : im1 471 = s := (hH1 471 (by decide)).trans h471
  have hh1 : zm_h im1 n h := hh.hi (by rw [hH1 470 (by decide)]) (hH1 473 (by decide))
  have hl1 : im1 470 6 = nI len := by rw [hH1 470 (by decide)]; exact h6
  have ht1 : im1 474 = tx := (hH1 474 (by decide)).trans h474
  refine zz_aload_2 S dL_law_736 (q := 737) rfl ?_
  refine zz_aload_0 S dL_law_737 (q := 738) rfl ?_
  refine zz_iload_3 S dL_law_738 (q := 739) rfl ?_
  refine zz_iconst S (v := 1) rfl dL_law_739 (q := 740) rfl ?_
  refine zz_iadd S dL_law_740 (q := 741) rfl ?_
  refine zz_sld SX (j := t + 1) (nI_add t 1) (by omega) hL dL_law_741 (q := 742) rfl ?_
  refine zz_aload_0 S dL_law_742 (q := 743) rfl ?_
  refine zz_iload_3 S dL_law_743 (q := 744) rfl ?_
  refine zz_iconst S (v := 2) rfl dL_law_744 (q := 745) rfl ?_
  refine zz_iadd S dL_law_745 (q := 746) rfl ?_
  refine zz_sld SX (j := t + 2) (nI_add t 2) (by omega) hL dL_law_746 (q := 747) rfl ?_
  refine zz_aload_0 S dL_law_747 (q := 748) rfl ?_
  refine zz_iload_3 S dL_law_748 (q := 749) rfl ?_
  refine zz_iconst S (v := 3) rfl dL_law_749 (q := 750) rfl ?_
  refine zz_iadd S dL_law_750 (q := 751) rfl ?_
  refine zz_sld SX (j := t + 3) (nI_add t 3) (by omega) hL dL_law_751 (q := 752) rfl ?_
  refine zz_aload_0 S dL_law_752 (q := 753) rfl ?_
  refine zz_iload_3 S dL_law_753 (q := 754) rfl ?_
  refine zz_iconst S (v := 4) rfl dL_law_754 (q := 755) rfl ?_
  refine zz_iadd S dL_law_755 (q := 756) rfl ?_
  refine zz_sld SX (j := t + 4) (nI_add t 4) (by omega) hL dL_law_756 (q := 757) rfl ?_
  -- at 757: invokevirtual 108
  refine zz_virtI S yy_X8_read lL_108 (ci := 8) (by decide) rfl (co_read (xs (t + 1)) (xs (t + 2)) (xs (t + 3)) (xs (t + 4)) im1 nw nc (by rw [e471]; exact hI)) rfl (Nat.le_of_ble_eq_true rfl) (Nat.le_of_ble_eq_true rfl) rfl (Nat.le_of_ble_eq_true rfl) rfl dL_law_757 (q := 760) rfl ?_
  rintro r2 im2 ⟨e2, hk2⟩
  try rw [e471] at e2
  refine zz_icmp_eq S dL_law_760 (t := 857) (by decide) (q := 763) rfl (fun a1 => ?_) (fun a1 => ?_)
  -- then 857 else 763
  · exact hN im2 s n h len tx (hW0.look hk1 hk2)
  · exact absurd (e1.trans e2.symm) a1
set_option maxHeartbeats 4000000 in
theorem lz_apart {t n len : Nat} {h : Nat → ZSt} {s : ZSt} {tx : Nat → Int32} (SX : zz_SX G l L xs w) (hL : L ≤ 2560) (ht : t + 5 ≤ L) (hW : zLW im s n h len tx) (hN : ∀ (im' : ZI) (s' : ZSt) (n' : Nat) (h' : Nat → ZSt) (len' : Nat) (tx' : Nat → Int32), zLW im' s' n' h' len' tx' → w 857 [some (.ref 1050), some (.ref 0), some (.ref 470), some (.int (nI t))] [] z zE im') : w 765 [some (.ref 1050), some (.ref 0), some (.ref 470), some (.int (nI t))] [] z zE im := by
  have S := SX.1
  have hW0 := hW
  obtain ⟨⟨hT, ⟨f, hR⟩, hP⟩, h471, hh, h6, h474⟩ := hW
  obtain ⟨⟨nw, nc, hI, hr⟩, -⟩ := id hT
  refine zz_aload_1 S dL_law_765 (q := 766) rfl ?_
  refine zz_aload_0 S dL_law_766 (q := 767) rfl ?_
  refine zz_iload_3 S dL_law_767 (q := 768) rfl ?_
  refine zz_iconst S (v := 1) rfl dL_law_768 (q := 769) rfl ?_
  refine zz_iadd S dL_law_769 (q := 770) rfl ?_
  refine zz_sld SX (j := t + 1) (nI_add t 1) (by omega) hL dL_law_770 (q := 771) rfl ?_
  refine zz_aload_0 S dL_law_771 (q := 772) rfl ?_
  refine zz_iload_3 S dL_law_772 (q := 773) rfl ?_
  refine zz_iconst S (v := 2) rfl dL_law_773 (q := 774) rfl ?_
  refine zz_iadd S dL_law_774 (q := 775) rfl ?_
  refine zz_sld SX (j := t + 2) (nI_add t 2) (by omega) hL dL_law_775 (q := 776) rfl ?_
  -- at 776: invokevirtual 109
  refine zz_virtI S yy_X7_apart lL_109 (ci := 7) (by decide) rfl (cx_apart (xs (t + 1)) (xs (t + 2)) nw nc s im hI hr) rfl (Nat.le_of_ble_eq_true rfl) (Nat.le_of_ble_eq_true rfl) rfl (Nat.le_of_ble_eq_true rfl) rfl dL_law_776 (q := 779) rfl ?_
  rintro r1 im1 ⟨e1, hk1⟩
  have hH1 : zHi im im1 := fun k hk => hk1 k (by simp; omega)
  have e471 : im1 471 = s := (hH1 471 (by decide)).trans h471
  have hh1 : zm_h im1 n h := hh.hi (by rw [hH1 470 (by decide)]) (hH1 473 (by decide))
  have hl1 : im1 470 6 = nI len := by rw [hH1 470 (by decide)]; exact h6
  have ht1 : im1 474 = tx := (hH1 474 (by decide)).trans h474
  refine zz_aload_2 S dL_law_779 (q := 780) rfl ?_
  refine zz_aload_0 S dL_law_780 (q := 781) rfl ?_
  refine zz_iload_3 S dL_law_781 (q := 782) rfl ?_
  refine zz_iconst S (v := 1) rfl dL_law_782 (q := 783) rfl ?_
  refine zz_iadd S dL_law_783 (q := 784) rfl ?_
  refine zz_sld SX (j := t + 1) (nI_add t 1) (by omega) hL dL_law_784 (q := 785) rfl ?_
  refine zz_aload_0 S dL_law_785 (q := 786) rfl ?_
  refine zz_iload_3 S dL_law_786 (q := 787) rfl ?_
  refine zz_iconst S (v := 2) rfl dL_law_787 (q := 788) rfl ?_
  refine zz_iadd S dL_law_788 (q := 789) rfl ?_
  refine zz_sld SX (j := t + 2) (nI_add t 2) (by omega) hL dL_law_789 (q := 790) rfl ?_
  -- at 790: invokevirtual 112
  refine zz_virtI S yy_X8_apart lL_112 (ci := 8) (by decide) rfl (co_apart (xs (t + 1)) (xs (t + 2)) im1 nw nc (by rw [e471]; exact hI)) rfl (Nat.le_of_ble_eq_true rfl) (Nat.le_of_ble_eq_true rfl) rfl (Nat.le_of_ble_eq_true rfl) rfl dL_law_790 (q := 793) rfl ?_
  rintro r2 im2 ⟨e2, hk2⟩
  try rw [e471] at e2
  refine zz_icmp_eq S dL_law_793 (t := 857) (by decide) (q := 796) rfl (fun a1 => ?_) (fun a1 => ?_)
  -- then 857 else 796
  · exact hN im2 s n h len tx (hW0.look hk1 hk2)
  · exact absurd (e1.trans e2.symm) a1
set_option maxHeartbeats 4000000 in
theorem lz_reason {t n len : Nat} {h : Nat → ZSt} {s : ZSt} {tx : Nat → Int32} (SX : zz_SX G l L xs w) (hL : L ≤ 2560) (ht : t + 5 ≤ L) (hW : zLW im s n h len tx) (hN : ∀ (im' : ZI) (s' : ZSt) (n' : Nat) (h' : Nat → ZSt) (len' : Nat) (tx' : Nat → Int32), zLW im' s' n' h' len' tx' → w 857 [some (.ref 1050), some (.ref 0), some (.ref 470), some (.int (nI t))] [] z zE im') : w 798 [some (.ref 1050), some (.ref 0), some (.ref 470), some (.int (nI t))] [] z zE im := by
  have S := SX.1
  have hW0 := hW
  obtain ⟨⟨hT, ⟨f, hR⟩, hP⟩, h471, hh, h6, h474⟩ := hW
  obtain ⟨⟨nw, nc, hI, hr⟩, -⟩ := id hT
  refine zz_aload_1 S dL_law_798 (q := 799) rfl ?_
  refine zz_aload_0 S dL_law_799 (q := 800) rfl ?_
  refine zz_iload_3 S dL_law_800 (q := 801) rfl ?_
  refine zz_iconst S (v := 1) rfl dL_law_801 (q := 802) rfl ?_
  refine zz_iadd S dL_law_802 (q := 803) rfl ?_
  refine zz_sld SX (j := t + 1) (nI_add t 1) (by omega) hL dL_law_803 (q := 804) rfl ?_
  -- at 804: invokevirtual 113
  refine zz_virtI S yy_X7_reason lL_113 (ci := 7) (by decide) rfl (cx_reason (xs (t + 1)) nw nc s im hI hr) rfl (Nat.le_of_ble_eq_true rfl) (Nat.le_of_ble_eq_true rfl) rfl (Nat.le_of_ble_eq_true rfl) rfl dL_law_804 (q := 807) rfl ?_
  rintro r1 im1 ⟨e1, hk1⟩
  have hH1 : zHi im im1 := fun k hk => hk1 k (by simp; omega)
  have e471 : im1 471 = s := (hH1 471 (by decide)).trans h471
  have hh1 : zm_h im1 n h := hh.hi (by rw [hH1 470 (by decide)]) (hH1 473 (by decide))
  have hl1 : im1 470 6 = nI len := by rw [hH1 470 (by decide)]; exact h6
  have ht1 : im1 474 = tx := (hH1 474 (by decide)).trans h474
  refine zz_aload_2 S dL_law_807 (q := 808) rfl ?_
  refine zz_aload_0 S dL_law_808 (q := 809) rfl ?_
  refine zz_iload_3 S dL_law_809 (q := 810) rfl ?_
  refine zz_iconst S (v := 1) rfl dL_law_810 (q := 811) rfl ?_
  refine zz_iadd S dL_law_811 (q := 812) rfl ?_
  refine zz_sld SX (j := t + 1) (nI_add t 1) (by omega) hL dL_law_812 (q := 813) rfl ?_
  -- at 813: invokevirtual 116
  refine zz_virtI S yy_X8_reason lL_116 (ci := 8) (by decide) rfl (co_reason (xs (t + 1)) im1 nw nc (by rw [e471]; exact hI)) rfl (Nat.le_of_ble_eq_true rfl) (Nat.le_of_ble_eq_true rfl) rfl (Nat.le_of_ble_eq_true rfl) rfl dL_law_813 (q := 816) rfl ?_
  rintro r2 im2 ⟨e2, hk2⟩
  try rw [e471] at e2
  refine zz_icmp_eq S dL_law_816 (t := 857) (by decide) (q := 819) rfl (fun a1 => ?_) (fun a1 => ?_)
  -- then 857 else 819
  · exact hN im2 s n h len tx (hW0.look hk1 hk2)
  · exact absurd (e1.trans e2.symm) a1
set_option maxHeartbeats 4000000 in
theorem lz_bestLatitude {t n len : Nat} {h : Nat → ZSt} {s : ZSt} {tx : Nat → Int32} (SX : zz_SX G l L xs w) (hL : L ≤ 2560) (ht : t + 5 ≤ L) (hW : zLW im s n h len tx) (hN : ∀ (im' : ZI) (s' : ZSt) (n' : Nat) (h' : Nat → ZSt) (len' : Nat) (tx' : Nat → Int32), zLW im' s' n' h' len' tx' → w 857 [some (.ref 1050), some (.ref 0), some (.ref 470), some (.int (nI t))] [] z zE im') : w 821 [some (.ref 1050), some (.ref 0), some (.ref 470), some (.int (nI t))] [] z zE im := by
  have S := SX.1
  have hW0 := hW
  obtain ⟨⟨hT, ⟨f, hR⟩, hP⟩, h471, hh, h6, h474⟩ := hW
  obtain ⟨⟨nw, nc, hI, hr⟩, -⟩ := id hT
  refine zz_aload_1 S dL_law_821 (q := 822) rfl ?_
  refine zz_aload_0 S dL_law_822 (q := 823) rfl ?_
  refine zz_iload_3 S dL_law_823 (q := 824) rfl ?_
  refine zz_iconst S (v := 1) rfl dL_law_824 (q := 825) rfl ?_
  refine zz_iadd S dL_law_825 (q := 826) rfl ?_
  refine zz_sld SX (j := t + 1) (nI_add t 1) (by omega) hL dL_law_826 (q := 827) rfl ?_
  -- at 827: invokevirtual 117
  refine zz_virtI S yy_X7_bestLatitude lL_117 (ci := 7) (by decide) rfl (cx_best (xs (t + 1)) im) rfl (Nat.le_of_ble_eq_true rfl) (Nat.le_of_ble_eq_true rfl) rfl (Nat.le_of_ble_eq_true rfl) rfl dL_law_827 (q := 830) rfl ?_
  rintro r1 im1 ⟨e1, hk1⟩
  have hH1 : zHi im im1 := fun k hk => hk1 k (by simp; omega)
  have e471 : im1 471 = s := (hH1 471 (by decide)).trans h471
  have hh1 : zm_h im1 n h := hh.hi (by rw [hH1 470 (by decide)]) (hH1 473 (by decide))
  have hl1 : im1 470 6 = nI len := by rw [hH1 470 (by decide)]; exact h6
  have ht1 : im1 474 = tx := (hH1 474 (by decide)).trans h474
  refine zz_aload_2 S dL_law_830 (q := 831) rfl ?_
  refine zz_aload_0 S dL_law_831 (q := 832) rfl ?_
  refine zz_iload_3 S dL_law_832 (q := 833) rfl ?_
  refine zz_iconst S (v := 1) rfl dL_law_833 (q := 834) rfl ?_
  refine zz_iadd S dL_law_834 (q := 835) rfl ?_
  refine zz_sld SX (j := t + 1) (nI_add t 1) (by omega) hL dL_law_835 (q := 836) rfl ?_
  -- at 836: invokevirtual 120
  refine zz_virtI S yy_X8_bestLatitude lL_120 (ci := 8) (by decide) rfl (co_bestLatitude (xs (t + 1)) im1) rfl (Nat.le_of_ble_eq_true rfl) (Nat.le_of_ble_eq_true rfl) rfl (Nat.le_of_ble_eq_true rfl) rfl dL_law_836 (q := 839) rfl ?_
  rintro r2 im2 ⟨e2, hk2⟩
  try rw [e471] at e2
  refine zz_icmp_eq S dL_law_839 (t := 857) (by decide) (q := 842) rfl (fun a1 => ?_) (fun a1 => ?_)
  -- then 857 else 842
  · exact hN im2 s n h len tx (hW0.look hk1 hk2)
  · exact absurd (e1.trans e2.symm) a1
set_option maxHeartbeats 4000000 in
theorem lz_melts {t n len : Nat} {h : Nat → ZSt} {s : ZSt} {tx : Nat → Int32} (SX : zz_SX G l L xs w) (hL : L ≤ 2560) (ht : t + 5 ≤ L) (hW : zLW im s n h len tx) (hN : ∀ (im' : ZI) (s' : ZSt) (n' : Nat) (h' : Nat → ZSt) (len' : Nat) (tx' : Nat → Int32), zLW im' s' n' h' len' tx' → w 857 [some (.ref 1050), some (.ref 0), some (.ref 470), some (.int (nI t))] [] z zE im') : w 844 [some (.ref 1050), some (.ref 0), some (.ref 470), some (.int (nI t))] [] z zE im := by
  have S := SX.1
  have hW0 := hW
  obtain ⟨⟨hT, ⟨f, hR⟩, hP⟩, h471, hh, h6, h474⟩ := hW
  obtain ⟨⟨nw, nc, hI, hr⟩, -⟩ := id hT
  refine zz_aload_1 S dL_law_844 (q := 845) rfl ?_
  -- at 845: invokevirtual 121
  refine zz_virtI S yy_X7_melts lL_121 (ci := 7) (by decide) rfl (cx_melts  nw nc s im hI hr) rfl (Nat.le_of_ble_eq_true rfl) (Nat.le_of_ble_eq_true rfl) rfl (Nat.le_of_ble_eq_true rfl) rfl dL_law_845 (q := 848) rfl ?_
  rintro r1 im1 ⟨e1, hk1⟩
  have hH1 : zHi im im1 := fun k hk => hk1 k (by simp; omega)
  have e471 : im1 471 = s := (hH1 471 (by decide)).trans h471
  have hh1 : zm_h im1 n h := hh.hi (by rw [hH1 470 (by decide)]) (hH1 473 (by decide))
  have hl1 : im1 470 6 = nI len := by rw [hH1 470 (by decide)]; exact h6
  have ht1 : im1 474 = tx := (hH1 474 (by decide)).trans h474
  refine zz_aload_2 S dL_law_848 (q := 849) rfl ?_
  -- at 849: invokevirtual 124
  refine zz_virtI S yy_X8_melts lL_124 (ci := 8) (by decide) rfl (co_melts  im1 nw nc (by rw [e471]; exact hI)) rfl (Nat.le_of_ble_eq_true rfl) (Nat.le_of_ble_eq_true rfl) rfl (Nat.le_of_ble_eq_true rfl) rfl dL_law_849 (q := 852) rfl ?_
  rintro r2 im2 ⟨e2, hk2⟩
  try rw [e471] at e2
  refine zz_icmp_eq S dL_law_852 (t := 857) (by decide) (q := 855) rfl (fun a1 => ?_) (fun a1 => ?_)
  -- then 857 else 855
  · exact hN im2 s n h len tx (hW0.look hk1 hk2)
  · exact absurd (e1.trans e2.symm) a1
end ZLAW
