/-! TEXTS -/
section ZSTR
variable {G : ZG} {l : Launch} {own : String} {cc : ByteArray} {nL d n0 mcT msT : Nat} {isI : Bool} {rt : Option FieldType} {Qf : Option Value → ZE → ZI → Prop} {w : Nat → ZL → List Value → Nat → ZE → ZI → Prop}
variable {pc q : Nat} {L : ZL} {st : List Value} {z : Nat} {E : ZE} {im : ZI}
theorem zz_strV {i : Nat} (S : zz_S G l RJ0 cc nL d n0 mcT msT isI rt Qf w) (hi : i < 10) (hd : decode cc pc = .ok (.getfield 9, 3)) (hq : pc + 3 = q) (kk : w q L (.ref (1030 + i) :: st) z E im) : w pc L (.ref (1010 + i) :: st) z E im := by
  subst hq
  obtain ⟨p, e, R, s, m, args, below, meth, c0, Q, ⟨hx, hb, hml, hown, hts⟩, hR, hI, hK, hsz, hret, rfl⟩ := S
  intro H locs ls h1 h2 h3 h4 h5 h6
  exact vk_getf hx hb (hK.2.2.2.1.1 i hi).2.2.1 h5 hown (hts _ fJ0_9) (fun _ h => h) hd (kk H locs ls h1 h2 h3 h4 h5 h6)
theorem zz_strC {i : Nat} (S : zz_S G l RJ0 cc nL d n0 mcT msT isI rt Qf w) (hi : i < 10) (hd : decode cc pc = .ok (.getfield 15, 3)) (hq : pc + 3 = q) (kk : w q L (.int 0 :: st) z E im) : w pc L (.ref (1010 + i) :: st) z E im := by
  subst hq
  obtain ⟨p, e, R, s, m, args, below, meth, c0, Q, ⟨hx, hb, hml, hown, hts⟩, hR, hI, hK, hsz, hret, rfl⟩ := S
  intro H locs ls h1 h2 h3 h4 h5 h6
  exact vk_getf hx hb (hK.2.2.2.1.1 i hi).2.1 h5 hown (hts _ fJ0_15) (fun _ h => h) hd (kk H locs ls h1 h2 h3 h4 h5 h6)
theorem zz_cmpS (S : zz_S G l RJ0 cc nL d n0 mcT msT isI rt Qf w) (hd : decode cc pc = .ok (.getstatic 38, 3)) (hq : pc + 3 = q) (kk : w q L (.int 1 :: st) z E im) : w pc L st z E im := by
  subst hq
  obtain ⟨p, e, R, s, m, args, below, meth, c0, Q, ⟨hx, hb, hml, hown, hts⟩, hR, hI, hK, hsz, hret, rfl⟩ := S
  intro H locs ls h1 h2 h3 h4 h5 h6
  exact va_gets hx hb hK.2.2.1 h5 hown (hts _ fJ0_38) (fun _ h => h) hd (kk H locs ls h1 h2 h3 h4 h5 h6)
theorem zz_strL {i : Nat} {v : Int32} (S : zz_S G l own cc nL d n0 mcT msT isI rt Qf w) (hi : i < 10) (hv : Int32.ofNat (zz_xl.getD i 0) = v) (hd : decode cc pc = .ok (.arraylength, 1)) (hq : pc + 1 = q) (kk : w q L (.int v :: st) z E im) : w pc L (.ref (1030 + i) :: st) z E im := by
  subst hq
  obtain ⟨p, e, R, s, m, args, below, meth, c0, Q, ⟨hx, hb, hml, hown, hts⟩, hR, hI, hK, hsz, hret, rfl⟩ := S
  intro H locs ls h1 h2 h3 h4 h5 h6
  exact va_tlen hx hb (hK.2.2.2.1.1 i hi).2.2.2 h5 hv hd (kk H locs ls h1 h2 h3 h4 h5 h6)
theorem zz_strB {i j : Nat} {x : Int32} (S : zz_S G l own cc nL d n0 mcT msT isI rt Qf w) (hi : i < 10) (hx1 : x = nI j) (hj : j < zz_xl.getD i 0) (hd : decode cc pc = .ok (.baload, 1)) (hq : pc + 1 = q) (kk : w q L (.int ((zz_xb.getD i []).getD j 0) :: st) z E im) : w pc L (.int x :: .ref (1030 + i) :: st) z E im := by
  subst hq
  obtain ⟨p, e, R, s, m, args, below, meth, c0, Q, ⟨hx, hb, hml, hown, hts⟩, hR, hI, hK, hsz, hret, rfl⟩ := S
  intro H locs ls h1 h2 h3 h4 h5 h6
  have hl : ∀ i, i < 10 → zz_xl.getD i 0 < 2 ^ 31 := by decide
  obtain ⟨g1, g2⟩ := zz_vpn hx1 hj (hl i hi)
  exact va_tb hx hb (hK.2.2.2.1.1 i hi).2.2.2 h5 g1 (v := .int ((zz_xb.getD i []).getD j 0)) (by rw [g2]) hd (kk H locs ls h1 h2 h3 h4 h5 h6)
theorem zz_strK {i : Nat} (S : zz_S G l RX3 cc nL d n0 mcT msT isI rt Qf w) (hi : i < 10) (hd : decode cc pc = .ok (.ldc (zz_xi i), 2)) (hq : pc + 2 = q) (kk : w q L (.ref (1010 + i) :: st) z E im) : w pc L st z E im := by
  subst hq
  obtain ⟨p, e, R, s, m, args, below, meth, c0, Q, ⟨hx, hb, hml, hown, hts⟩, hR, hI, hK, hsz, hret, rfl⟩ := S
  intro H locs ls h1 h2 h3 h4 h5 h6
  exact va_ldcS hx hb hown (hK.2.2.2.2.1 i hi) hd (kk H locs ls h1 h2 h3 h4 h5 h6)
end ZSTR
section ZSTV
variable {G : ZG} {l : Launch} {own : String} {cc : ByteArray} {nL d n0 mcT msT : Nat} {isI : Bool} {rt : Option FieldType} {Qf : Option Value → ZE → ZI → Prop} {w : Nat → ZL → List Value → Nat → ZE → ZI → Prop}
variable {pc q t : Nat} {L L' : ZL} {st rest as : List Value} {z : Nat} {E : ZE} {im : ZI} {idx d2 mc ms : Nat} {y : ZY} {Qg : Option Value → ZE → ZI → Prop}
/-- a call on a text -/
theorem zz_virtS {i : Nat} (S : zz_S G l own cc nL d n0 mcT msT isI rt Qf w) (hy : zz_YV y as.length) (hlk : Cond.methodLink own idx y.1 ∈ zz_t) (hi : i < 10) (hcn : y.1.cls = "java/lang/String") (hO : zz_O G l d2 y (.ref (1010 + i) :: as) E im mc ms Qg) (hdd : d2 + 1 ≤ d) 
    (hm : E.1 ≤ n0 + mcT → E.1 + mc ≤ n0 + mcT) (hz : z ≤ msT → z + ms ≤ msT) (hrs : (rest.map fun v => v.category).sum ≤ 8) (hst : as.reverse ++ .ref (1010 + i) :: rest = st) (hd : decode cc pc = .ok (.invokevirtual idx, 3)) (hq : pc + 3 = q)
    (kk : ∀ (v : Option Value) (E' : ZE) (im' : ZI), E'.1 = E.1 + mc → Qg v E' im' → w q L (v.toList ++ rest) (z + ms) E' im') : w pc L st z E im := by
  subst hq
  obtain ⟨p, e, R, s, m, args, below, meth, c0, Q, hfix, hR, hI, hK, hsz, hret, rfl⟩ := S
  intro H locs ls h1 h2 h3 h4 h5 h6
  have hfix' := hfix
  obtain ⟨hx, hb, hml, hown, hts⟩ := hfix
  obtain ⟨⟨y1, y2, y3, y4⟩, y5, y6⟩ := hy
  refine zz_Wsz (fun hs1 => ?_)
  have hs2 := zz_top h1 h2 h5 hsz
  have hn : n0 ≤ E.1 := h2
  rw [zz_rev hst]
  refine zz_callK (va_runV (ws := .code y.1 y.2.1 y.2.2.1 y.2.2.2 :: zz_t) (rm := zz_rm d2 mc ms) (bytes := y.2.1) (maxL := y.2.2.1) (ret := y.2.2.2) (n := as.length) (C := y.1.cls) (index := idx) (b := zz_b G (1010 + i)) (As := as.map (zz_v G)) (rest := rest.map (zz_v G)) hfix' hO
    ⟨callB_of as.length hts (zz_goodIn y2) rfl rfl rfl (hts _ y1) (hts _ hlk) y3 ⟨by show d2 + 1 ≤ R.frames; omega, by show 8 + (y.2.2.1 + 11) + 36 * d2 ≤ R.locals; omega⟩, hts _ y5, hts _ y6⟩
    ⟨zz_blind, ?_, fun U hU hW => ⟨rfl, by rw [hU]; exact h1, zz_K.warm hK h5 hU hW, by rw [hU]; omega⟩⟩
    rfl (by rw [List.length_map]) h6.1.1 rfl (lv_room (by rw [zz_sum]; exact hrs)) hd ⟨by have := hm h3; omega, by have := hz h4; omega⟩) h5 (fun v E' im' H1 locs1 g1 g2 g3 g4 => ?_)
  · obtain ⟨cell, v1, v2, v3⟩ := vk_recv hK.2.2.2.1 hi h5
    exact ⟨cell, v1, v2, by rw [hcn]; exact v3⟩
  · have key := kk v E' im' g1 g2 H1 locs1 ls g3 (by omega) (by have := hm h3; omega) (hz h4) g4 h6
    rw [zz_tl, show E.1 - n0 + mc = E'.1 - n0 by omega]
    exact key
end ZSTV
