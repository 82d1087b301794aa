/-! TEXTS -/
section ZSTR
variable {G : ZG} {l : Launch} {own : String} {cc : ByteArray} {nL d n0 mcT msT : Nat} {isI : Bool} {rt : Option FieldType} {Qf : Option Value → ZE → ZI → Prop} {w : Nat → ZL → List Value → Nat → ZE → ZI → Prop}
variable {pc q : Nat} {L : ZL} {st : List Value} {z : Nat} {E : ZE} {im : ZI}
theorem zz_strV {i : Nat} (S : zz_S G l RJ0 cc nL d n0 mcT msT isI rt Qf w) (hi : i < 10) (hd : decode cc pc = .ok (.getfield 9, 3)) (hq : pc + 3 = q) (kk : w q L (.ref (1030 + i) :: st) z E im) : w pc L (.ref (1010 + i) :: st) z E im := by
  subst hq
  obtain ⟨p, e, R, s, m, args, below, meth, c0, Q, ⟨hx, hb, hml, hown, hts⟩, hR, hI, hK, hsz, hret, rfl⟩ := S
  intro H locs ls h1 h2 h3 h4 h5 h6
  exact vk_getf hx hb (hK.2.2.2.1.1 i hi).2.2.1 h5 hown (hts _ fJ0_9) (fun _ h => h) hd (kk H locs ls h1 h2 h3 h4 h5 h6)
theorem zz_strC {i : Nat} (S : zz_S G l RJ0 cc nL d n0 mcT msT isI rt Qf w) (hi : i < 10) (hd : decode cc pc = .ok (.getfield 15, 3)) (hq : pc + 3 = q) (kk : w q L (.int 0 :: st) z E im) : w pc L (.ref (1010 + i) :: st) z E im := by
  subst hq
  obtain ⟨p, e, R, s, m, args, below, meth, c0, Q, ⟨hx, hb, hml, hown, hts⟩, hR, hI, hK, hsz, hret, rfl⟩ := S
  intro H locs ls h1 h2 h3 h4 h5 h6
  exact vk_getf hx hb (hK.2.2.2.1.1 i hi).2.1 h5 hown (hts _ fJ0_15) (fun _ h => h) hd (kk H locs ls h1 h2 h3 h4 h5 h6)
theorem zz_cmpS (S : zz_S G l RJ0 cc nL d n0 mcT msT isI rt Qf w) (hd : decode cc pc = .ok (.getstatic 38, 3)) (hq : pc + 3 = q) (kk : w q L (.int 1 :: st) z E im) : w pc L st z E im := by
  subst hq
  obtain ⟨p, e, R, s, m, args, below, meth, c0, Q, ⟨hx, hb, hml, hown, hts⟩, hR, hI, hK, hsz, hret, rfl⟩ := S
  intro H locs ls h1 h2 h3 h4 h5 h6
  exact va_gets hx hb hK.2.2.1 h5 hown (hts _ fJ0_38) (fun _ h => h) hd (kk H locs ls h1 h2 h3 h4 h5 h6)
theorem zz_strL {i : Nat} {v : Int32} (S : zz_S G l own cc nL d n0 mcT msT isI rt Qf w) (hi : i < 10) (hv : Int32.ofNat (zz_xl.getD i 0) = v) (hd : decode cc pc = .ok (.arraylength, 1)) (hq : pc + 1 = q) (kk : w q L (.int v :: st) z E im) : w pc L (.ref (1030 + i) :: st) z E im := by
  subst hq
  obtain ⟨p, e, R, s, m, args, below, meth, c0, Q, ⟨hx, hb, hml, hown, hts⟩, hR, hI, hK, hsz, hret, rfl⟩ := S
  intro H locs ls h1 h2 h3 h4 h5 h6
  exact va_tlen hx hb (hK.2.2.2.1.1 i hi).2.2.2 h5 hv hd (kk H locs ls h1 h2 h3 h4 h5 h6)
theorem zz_strB {i j : Nat} {x : Int32} (S : zz_S G l own cc nL d n0 mcT msT isI rt Qf w) (hi : i < 10) (hx1 : x = nI j) (hj : j < zz_xl.getD i 0) (hd : decode cc pc = .ok (.baload, 1)) (hq : pc + 1 = q) (kk : w q L (.int ((zz_xb.getD i []).getD j 0) :: st) z E im) : w pc L (.int x :: .ref (1030 + i) :: st) z E im := by
  subst hq
  obtain ⟨p, e, R, s, m, args, below, meth, c0, Q, ⟨hx, hb, hml, hown, hts⟩, hR, hI, hK, hsz, hret, rfl⟩ := S
  intro H locs ls h1 h2 h3 h4 h5 h6
  have hl : ∀ i, i < 10 → zz_xl.getD i 0 < 2 ^ 31 := by decide
  obtain ⟨g1, g2⟩ := zz_vpn hx1 hj (hl i hi)
  exact va_tb hx hb (hK.2.2.2.1.1 i hi).2.2.2 h5 g1 (v := .int ((zz_xb.getD i []).getD j 0)) (by rw [g2]) hd (kk H locs ls h1 h2 h3 h4 h5 h6)
theorem zz_strK {i : Nat} (S : zz_S G l RX3 cc nL d n0 mcT msT isI rt Qf w) (hi : i < 10) (hd : decode cc pc = .ok (.ldc (zz_xi i), 2)) (hq : pc + 2 = q) (kk : w q L (.ref (1010 + i) :: st) z E im) : w pc L st z E im := by
  subst hq
  obtain ⟨p, e, R, s, m, args, below, meth, c0, Q, ⟨hx, hb, hml, hown, hts⟩, hR, hI, hK, hsz, hret, rfl⟩ := S
  intro H locs ls h1 h2 h3 h4 h5 h6
  exact va_ldcS hx hb hown (hK.2.2.2.2.1 i hi) hd (kk H locs ls h1 h2 h3 h4 h5 h6)
end ZSTR
