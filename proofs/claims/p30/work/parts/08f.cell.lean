/-! THE LAW: cell -/
section ZCEL
variable {G : ZG} {l : Launch} {im : ZI}
section ZCE2
variable {own : String} {cc : ByteArray} {nL d n0 mcT msT : Nat} {isI : Bool} {rt : Option FieldType} {Qf : Option Value → ZE → ZI → Prop} {w : Nat → ZL → List Value → Nat → ZE → ZI → Prop} {pc q : Nat} {L : ZL} {st : List Value} {z : Nat} {E : ZE}
theorem zz_xald (S : zz_S G l own cc nL d n0 mcT msT isI rt Qf w) {i : Int32} (hi : vp_in i (zz_sL G)) (hd : decode cc pc = .ok (.iaload, 1)) (hq : pc + 1 = q) (kk : w q L (.int (zz_sX G i.toNatClampNeg) :: st) z E im) : w pc L (.int i :: .ref 1050 :: st) z E im := by
  subst hq
  obtain ⟨p, e, R, s, m, args, below, meth, c0, Q, ⟨hx, hb, hml, hown, hts⟩, hR, hI, hK, hsz, hret, rfl⟩ := S
  intro H locs ls h1 h2 h3 h4 h5 h6
  exact va_ti hx hb hK.2.2 h5 hi (v := .int (zz_sX G i.toNatClampNeg)) rfl hd (kk H locs ls h1 h2 h3 h4 h5 h6)
theorem zz_xlen (S : zz_S G l own cc nL d n0 mcT msT isI rt Qf w) (hd : decode cc pc = .ok (.arraylength, 1)) (hq : pc + 1 = q) (kk : w q L (.int (nI (zz_sL G)) :: st) z E im) : w pc L (.ref 1050 :: st) z E im := by
  subst hq
  obtain ⟨p, e, R, s, m, args, below, meth, c0, Q, ⟨hx, hb, hml, hown, hts⟩, hR, hI, hK, hsz, hret, rfl⟩ := S
  intro H locs ls h1 h2 h3 h4 h5 h6
  exact va_tlen hx hb hK.2.2 h5 (v := nI (zz_sL G)) rfl hd (kk H locs ls h1 h2 h3 h4 h5 h6)
end ZCE2
theorem ll_cell (x : Int32) (k : Nat) (hx : x = nI k) (hk : k < 1000) (hL : zz_sL G ≤ 260) : zz_OI G l 0 mL_cell [.ref 1050, .int x] zE im (fun _ im' => im' = im) := by
  refine zz_intro (isI := false) (by decide) rfl (Nat.le_of_ble_eq_true rfl) (fun h => by cases h) (fun w S => ?_)
  refine zz_iload_1 S dL_cell_0 (q := 1) rfl ?_
  refine zz_aload_0 S dL_cell_1 (q := 2) rfl ?_
  -- at 2
  refine zz_xlen S dL_cell_2 (q := 3) rfl ?_
  refine zz_icmp_ge S dL_cell_3 (t := 12) (by decide) (q := 6) rfl (fun a1 => ?_) (fun a1 => ?_)
  -- then 12 else 6
  · refine zz_sipush S (v := 7919) rfl dL_cell_12 (q := 15) rfl ?_
    refine zz_iload_1 S dL_cell_15 (q := 16) rfl ?_
    refine zz_iconst S (v := 3) rfl dL_cell_16 (q := 17) rfl ?_
    refine zz_iadd S dL_cell_17 (q := 18) rfl ?_
    refine zz_imul S dL_cell_18 (q := 19) rfl ?_
    refine zz_iload_1 S dL_cell_19 (q := 20) rfl ?_
    refine zz_bipush S (v := 11) rfl dL_cell_20 (q := 22) rfl ?_
    refine zz_iadd S dL_cell_22 (q := 23) rfl ?_
    refine zz_imul S dL_cell_23 (q := 24) rfl ?_
    -- at 24: ireturn 
    refine zz_iret S dL_cell_24 ⟨rfl, _, rfl, rfl, ?_⟩
    rfl
  · refine zz_aload_0 S dL_cell_6 (q := 7) rfl ?_
    refine zz_iload_1 S dL_cell_7 (q := 8) rfl ?_
    -- at 8
    have hlt : k < zz_sL G := by
      refine Classical.byContradiction (fun h => a1 ?_)
      rw [hx, ge_iff_le, Int32.le_iff_toInt_le, nI_toInt (by omega), nI_toInt (by omega)]
      omega
    refine zz_xald S (zz_vpn hx hlt (by omega)).1 dL_cell_8 (q := 9) rfl ?_
    refine zz_goto S dL_cell_9 (t := 24) (by decide) ?_
    -- at 24: ireturn 
    refine zz_iret S dL_cell_24 ⟨rfl, _, rfl, rfl, ?_⟩
    rfl
end ZCEL
