/-! THE CLASS: a command is read -/
def zAp (im im' : ZI) : Prop := zz_keep [465, 467] im im' ∧ ∀ j, j ≠ 3 → j ≠ 4 → im' 465 j = im 465 j
theorem zAp.rf {im : ZI} : zAp im im := ⟨zz_keep.rf, fun _ _ _ => rfl⟩
theorem zAp.tr {im0 im1 im2 : ZI} (h : zAp im0 im1) (h2 : zAp im1 im2) : zAp im0 im2 := ⟨h.1.tr h2.1 (fun _ q => q), fun j a b => (h2.2 j a b).trans (h.2 j a b)⟩
theorem zAd.p {im im' : ZI} (h : zAd im im') : zAp im im' := ⟨h.1.le (by decide), h.2⟩
theorem zAp.u {im0 im1 : ZI} (h : zAp im0 im1) {j : Nat} {v : Int32} : zAp im0 (zz_u im1 467 j v) := ⟨h.1.u (by decide), fun k a b => by rw [zz_u_n _ _ (Or.inl (by decide))]; exact h.2 k a b⟩
theorem zAp.pg {im im' : ZI} {len : Nat} {tx : Nat → Int32} (h : zAp im im') (hP : zPg im len tx) : zPg im' len tx := by
  obtain ⟨p1, p2, p3, p4⟩ := hP
  exact ⟨by rw [h.2 2 (by decide) (by decide)]; exact p1, p2, fun j hj => by rw [h.1 466 (by decide)]; exact p3 j hj, p4⟩
/-- what the numbers of a command come to -/
def zNr (im' : ZI) (tx : Nat → Int32) (len cnt : Nat) : Nat ⊕ (ZTok × (Nat → Int32)) → Prop
  | .inl p => im' 465 3 = nI p
  | .inr q => zXk im' q.1 ∧ ∀ j, j < cnt → im' 467 j = q.2 j
/-- what a command comes to when it is read -/
def zPr (im' : ZI) (tx : Nat → Int32) (len v : Nat) (r : Int32) : Nat ⊕ (ZTok × (Nat → Int32)) → Prop
  | .inl p => r = -1 ∧ im' 465 3 = nI p
  | .inr q => if q.1.2.2 = 3 ∧ ta tx len q.1.1 = 59 then r = nI v ∧ zXk im' q.1 ∧ ∀ j, j < rk_cnt v → im' 467 j = q.2 j else r = -1 ∧ im' 465 3 = nI q.1.1
def rk_par (tx : Nat → Int32) (len : Nat) (T : ZTok) : Nat ⊕ (ZTok × (Nat → Int32)) := if rk_word tx T = 7 then .inl T.1 else rk_nG tx len (rk_word tx T) (rk_cnt (rk_word tx T)) 0 (tk tx len T.2.1) (fun _ => 0)
/-- a number that is allowed isn't below 0 -/
theorem rk_v_ge {tx : Nat → Int32} {len p : Nat} (hp : p ≤ len) (h : ¬ rk_bad tx len (tk tx len p)) : rk_v tx len (tk tx len p) ≠ -1 := by
  obtain ⟨k1, k2, k3, k0⟩ := tk_kind (tx := tx) hp
  have hi := tk_in tx hp
  have e2 : (tk tx len p).2.2 = 2 := Classical.byContradiction (fun e => h (Or.inl e))
  have e4 : ¬ 4 < (tk tx len p).2.1 - (tk tx len p).1 := fun e => h (Or.inr (Or.inl e))
  have hd := (k2 e2).2
  have key := rk_vG_ge (tx := tx) (len := len) ((tk tx len p).2.1 - (tk tx len p).1) (tk tx len p).1 0 (by omega) (fun j a b => ⟨by omega, hd j a (by omega)⟩) (by decide) (by
    rw [show ((0 : Int32)).toInt = 0 from rfl]
    exact Int.pow_pos (by decide))
  intro e
  unfold rk_v at e
  rw [e] at key
  exact absurd key (by decide)
theorem rk_sg_v {tx : Nat → Int32} {len v i : Nat} {T : ZTok} {x : Int32} : (rk_neg tx len v i T → -x = rk_sg tx len v i T * x) ∧ (¬ rk_neg tx len v i T → x = rk_sg tx len v i T * x) := by
  refine ⟨fun h => ?_, fun h => ?_⟩
  · rw [rk_sg, if_pos h, Int32.neg_mul, Int32.one_mul]
  · rw [rk_sg, if_neg h, Int32.one_mul]
section ZCPC
variable {G : ZG} {l : Launch}
set_option maxHeartbeats 8000000 in
theorem lx_parse {n0 mcT msT : Nat} {isI : Bool} {Qf : Option Value → ZE → ZI → Prop} {w : Nat → ZL → List Value → Nat → ZE → ZI → Prop} {z len v cnt : Nat} {tx : Nat → Int32} {im0 : ZI} {x : Int32} {R : Nat ⊕ (ZTok × (Nat → Int32))} (S : zz_S G l RX3 cX3_parseCommand 5 6 n0 mcT msT isI (some .int) Qf w)
    (hx : x = nI v) (hv : v < 7) (hcnt : cnt = rk_cnt v)
    (hB : ∀ im' p, zAp im0 im' → im' 465 3 = nI p → R = .inl p → Qf (some (.int (-1))) zE im')
    (hQ : ∀ im' p a y u v', p ≤ len → zAp im0 im' → im' 465 4 = nI p → (∀ j, j < cnt → im' 467 j = a j) → R = .inr (tk tx len p, a) → w 100 [some (.ref 465), some (.int x), some (.int y), u, v'] [] z zE im') :
    ∀ (n i p : Nat) (y : Int32) (u v' : Option Value) (a : Nat → Int32) (im : ZI), i + n = cnt → y = nI i → p ≤ len → im 465 4 = nI p → zPg im len tx → zAp im0 im → (∀ j, j < i → im 467 j = a j) → R = rk_nG tx len v n i (tk tx len p) a → w 14 [some (.ref 465), some (.int x), some (.int y), u, v'] [] z zE im := by
  have hc3 : rk_cnt v ≤ 3 := by
    rcases rk_7 hv with rfl | rfl | rfl | rfl | rfl | rfl | rfl <;> decide
  have hst : (zz_st 3).getD v 0 = nI cnt := by
    rw [hcnt]
    rcases rk_7 hv with rfl | rfl | rfl | rfl | rfl | rfl | rfl <;> rfl
  have hsl : v < (zz_st 3).length := by show v < 7; exact hv
  intro n
  induction n with
  | zero =>
    intro i p y u v' a im hi hy hp h4 hP hA ha hR
    have hi : i = cnt := by omega
    subst hi
    refine zz_iload_2 S dX3_parseCommand_14 (q := 15) rfl ?_
    refine zz_gets S (i := 3) (by decide) fX3_43 dX3_parseCommand_15 (q := 18) rfl ?_
    refine zz_iload_1 S dX3_parseCommand_18 (q := 19) rfl ?_
    refine zz_saN S (by decide) hx hsl dX3_parseCommand_19 (q := 20) rfl ?_
    refine zz_icmp_ge S dX3_parseCommand_20 (t := 100) (by decide) (q := 23) rfl (fun a1 => ?_) (fun a1 => ?_)
    -- then 100 else 23
    · exact hQ im p a y u v' hp hA h4 ha hR
    · exact absurd (by rw [hst, hy]; exact Int32.le_refl _) a1
  | succ n ih =>
    intro i p y u v' a im hi hy hp h4 hP hA ha hR
    have hln := hP.2.1
    have hti := tk_in tx hp
    rw [rk_nG] at hR
    refine zz_iload_2 S dX3_parseCommand_14 (q := 15) rfl ?_
    refine zz_gets S (i := 3) (by decide) fX3_43 dX3_parseCommand_15 (q := 18) rfl ?_
    refine zz_iload_1 S dX3_parseCommand_18 (q := 19) rfl ?_
    refine zz_saN S (by decide) hx hsl dX3_parseCommand_19 (q := 20) rfl ?_
    refine zz_icmp_ge S dX3_parseCommand_20 (t := 100) (by decide) (q := 23) rfl (fun a1 => ?_) (fun a1 => ?_)
    -- then 100 else 23
    · exact absurd a1 (by rw [hst, hy]; exact nI_ge (by omega) (by omega))
    · refine zz_aload_0 S dX3_parseCommand_23 (q := 24) rfl ?_
      -- at 24: invokevirtual 46
      refine zz_virtI S yy_X3_advance lX3_46 (ci := 3) (by decide) rfl (cx_advance p len tx im h4 hp hP) rfl (Nat.le_of_ble_eq_true rfl) (Nat.le_of_ble_eq_true rfl) rfl (Nat.le_of_ble_eq_true rfl) rfl dX3_parseCommand_24 (q := 27) rfl ?_
      rintro r1 im1 ⟨-, hk1, hA1⟩
      have hP1 := hA1.pg hP
      have ha1 : ∀ j, j < i → im1 467 j = a j := fun j hj => by rw [hA1.1 467 (by decide)]; exact ha j hj
      -- behind the sign
      have fin : ∀ (g : Int32) (im2 : ZI) (q : Nat) (v2 : Option Value), q ≤ len → zXk im2 (tk tx len q) → zPg im2 len tx → zAp im0 im2 → (∀ j, j < i → im2 467 j = a j) → rk_n1 tx len v i (tk tx len p) = tk tx len q → (g = 0 ∧ ¬ rk_neg tx len v i (tk tx len p) ∨ g = 1 ∧ rk_neg tx len v i (tk tx len p)) →
          w 62 [some (.ref 465), some (.int x), some (.int y), some (.int g), v2] [] z zE im2 := by
        intro g im2 q v2 hq hk2 hP2 hA2 ha2 hn1 hg
        have htq := tk_in tx hq
        rw [hn1] at hR
        refine zz_aload_0 S dX3_parseCommand_62 (q := 63) rfl ?_
        -- at 63: invokevirtual 56
        refine zz_virtP S yy_X3_numberOfToken lX3_56 (ci := 3) (by decide) rfl (cx_numTok q len tx im2 hq hP2 hk2) rfl (Nat.le_of_ble_eq_true rfl) (Nat.le_of_ble_eq_true rfl) rfl (Nat.le_of_ble_eq_true rfl) rfl dX3_parseCommand_63 (q := 66) rfl ?_
        by_cases hb : rk_bad tx len (tk tx len q)
        · rw [if_pos hb] at hR ⊢
          refine zz_istore_4 S rfl dX3_parseCommand_66 (q := 68) rfl ?_
          refine zz_iload_4 S dX3_parseCommand_68 (q := 70) rfl ?_
          refine zz_iconst S (v := (-1)) rfl dX3_parseCommand_70 (q := 71) rfl ?_
          refine zz_icmp_ne S dX3_parseCommand_71 (t := 76) (by decide) (q := 74) rfl (fun b1 => ?_) (fun b1 => ?_)
          -- then 76 else 74
          · exact absurd rfl b1
          · refine zz_iconst S (v := (-1)) rfl dX3_parseCommand_74 (q := 75) rfl ?_
            -- at 75: ireturn 
            exact zz_iret S dX3_parseCommand_75 (hB im2 _ hA2 hk2.1 hR)
        · rw [if_neg hb] at hR ⊢
          have hge := rk_v_ge hq hb
          generalize rk_v tx len (tk tx len q) = V at hR hge ⊢
          have hstep : ∀ (im3 : ZI) (v3 : Option Value), im3 = zz_u im2 467 i (rk_sg tx len v i (tk tx len p) * V) → w 14 [some (.ref 465), some (.int x), some (.int (y + 1)), some (.int g), v3] [] z zE im3 := fun im3 v3 e3 => by
            have hA3 : zAp im2 im3 := by rw [e3]; exact zAp.rf.u
            refine ih (i + 1) (tk tx len q).2.1 _ _ _ (upd a i (rk_sg tx len v i (tk tx len p) * V)) im3 (by omega) (by rw [hy]; exact nI_1 i) htq.2.2.1 ?_ (hA3.pg hP2) (hA2.tr hA3) (fun j hj => ?_) hR
            · rw [e3, zz_u_n _ _ (Or.inl (by decide))]
              exact hk2.2
            · rw [e3]
              by_cases hji : j = i
              · rw [hji, zz_u_e, u_eq]
              · rw [zz_u_n _ _ (Or.inr hji), u_ne _ _ hji]
                exact ha2 j (by omega)
          refine zz_istore_4 S rfl dX3_parseCommand_66 (q := 68) rfl ?_
          refine zz_iload_4 S dX3_parseCommand_68 (q := 70) rfl ?_
          refine zz_iconst S (v := (-1)) rfl dX3_parseCommand_70 (q := 71) rfl ?_
          refine zz_icmp_ne S dX3_parseCommand_71 (t := 76) (by decide) (q := 74) rfl (fun b1 => ?_) (fun b1 => ?_)
          -- then 76 else 74
          · refine zz_aload_0 S dX3_parseCommand_76 (q := 77) rfl ?_
            refine zz_getR S fX3_15 rfl (Nat.le_of_ble_eq_true rfl) rfl rfl dX3_parseCommand_77 (q := 80) rfl ?_
            refine zz_iload_2 S dX3_parseCommand_80 (q := 81) rfl ?_
            refine zz_iload_3 S dX3_parseCommand_81 (q := 82) rfl ?_
            refine zz_if_eq S dX3_parseCommand_82 (t := 91) (by decide) (q := 85) rfl (fun b2 => ?_) (fun b2 => ?_)
            -- then 91 else 85
            · rcases hg with ⟨rfl, hg⟩ | ⟨rfl, hg⟩
              · refine zz_iload_4 S dX3_parseCommand_91 (q := 93) rfl ?_
                refine zz_iaS S (j := i) (Nat.le_of_ble_eq_true rfl) rfl (Nat.le_of_ble_eq_true rfl) hy (by omega) dX3_parseCommand_93 (q := 94) rfl ?_
                refine zz_iinc_2 S rfl dX3_parseCommand_94 (q := 97) rfl ?_
                refine zz_goto S dX3_parseCommand_97 (t := 14) (by decide) ?_
                -- at 14
                exact hstep _ _ (by rw [← rk_sg_v.2 hg])
              · exact absurd b2 (by decide)
            · rcases hg with ⟨rfl, hg⟩ | ⟨rfl, hg⟩
              · exact absurd rfl b2
              · refine zz_iload_4 S dX3_parseCommand_85 (q := 87) rfl ?_
                refine zz_ineg S dX3_parseCommand_87 (q := 88) rfl ?_
                refine zz_goto S dX3_parseCommand_88 (t := 93) (by decide) ?_
                refine zz_iaS S (j := i) (Nat.le_of_ble_eq_true rfl) rfl (Nat.le_of_ble_eq_true rfl) hy (by omega) dX3_parseCommand_93 (q := 94) rfl ?_
                refine zz_iinc_2 S rfl dX3_parseCommand_94 (q := 97) rfl ?_
                refine zz_goto S dX3_parseCommand_97 (t := 14) (by decide) ?_
                -- at 14
                exact hstep _ _ (by rw [← rk_sg_v.1 hg])
          · exact absurd b1 hge
      have x1 : x = 1 ↔ v = 1 := by rw [hx]; exact nI_eq (a := v) (b := 1) (by omega) (by omega)
      have y1 : y = 1 ↔ i = 1 := by rw [hy]; exact nI_eq (a := i) (b := 1) (by omega) (by omega)
      have hs8 : isW tx (tk tx len p) 8 ↔ (tk tx len p).2.2 = 3 ∧ ta tx len (tk tx len p).1 = 45 := isW_sign hp rfl rfl (by decide)
      have no : ∀ (u2 v2 : Option Value), ¬ rk_neg tx len v i (tk tx len p) → w 51 [some (.ref 465), some (.int x), some (.int y), u2, v2] [] z zE im1 := fun u2 v2 hneg => by
        refine zz_iconst S (v := 0) rfl dX3_parseCommand_51 (q := 52) rfl ?_
        refine zz_istore_3 S rfl dX3_parseCommand_52 (q := 53) rfl ?_
        refine zz_iload_3 S dX3_parseCommand_53 (q := 54) rfl ?_
        refine zz_if_eq S dX3_parseCommand_54 (t := 62) (by decide) (q := 57) rfl (fun b1 => ?_) (fun b1 => ?_)
        -- then 62 else 57
        · exact fin 0 im1 p v2 hp hk1 hP1 (hA.tr hA1.p) ha1 (by rw [rk_n1, if_neg hneg]) (Or.inl ⟨rfl, hneg⟩)
        · exact absurd rfl b1
      refine zz_pop S rfl dX3_parseCommand_27 (q := 28) rfl ?_
      refine zz_iload_1 S dX3_parseCommand_28 (q := 29) rfl ?_
      refine zz_iconst S (v := 1) rfl dX3_parseCommand_29 (q := 30) rfl ?_
      refine zz_icmp_ne S dX3_parseCommand_30 (t := 51) (by decide) (q := 33) rfl (fun b1 => ?_) (fun b1 => ?_)
      -- then 51 else 33
      · exact no _ _ (fun e => b1 (x1.mpr e.1))
      · refine zz_iload_2 S dX3_parseCommand_33 (q := 34) rfl ?_
        refine zz_iconst S (v := 1) rfl dX3_parseCommand_34 (q := 35) rfl ?_
        refine zz_icmp_ne S dX3_parseCommand_35 (t := 51) (by decide) (q := 38) rfl (fun b2 => ?_) (fun b2 => ?_)
        -- then 51 else 38
        · exact no _ _ (fun e => b2 (y1.mpr e.2.1))
        · refine zz_aload_0 S dX3_parseCommand_38 (q := 39) rfl ?_
          -- at 39
          refine zz_strK (i := 8) S (by decide) dX3_parseCommand_39 (q := 41) rfl ?_
          refine zz_virtP S yy_X3_tokenIs lX3_52 (ci := 3) (by decide) rfl (cx_tokenIs 8 p len tx im1 (by decide) hp hP1 hk1) rfl (Nat.le_of_ble_eq_true rfl) (Nat.le_of_ble_eq_true rfl) rfl (Nat.le_of_ble_eq_true rfl) rfl dX3_parseCommand_41 (q := 44) rfl ?_
          by_cases hw : isW tx (tk tx len p) 8
          · have hneg : rk_neg tx len v i (tk tx len p) := by
              have e1 := x1.mp b1
              have e2 := y1.mp b2
              exact ⟨e1, e2, hs8.mp hw⟩
            rw [if_pos hw]
            refine zz_if_eq S dX3_parseCommand_44 (t := 51) (by decide) (q := 47) rfl (fun b3 => ?_) (fun b3 => ?_)
            -- then 51 else 47
            · exact absurd b3 (by decide)
            · refine zz_iconst S (v := 1) rfl dX3_parseCommand_47 (q := 48) rfl ?_
              refine zz_goto S dX3_parseCommand_48 (t := 52) (by decide) ?_
              refine zz_istore_3 S rfl dX3_parseCommand_52 (q := 53) rfl ?_
              refine zz_iload_3 S dX3_parseCommand_53 (q := 54) rfl ?_
              refine zz_if_eq S dX3_parseCommand_54 (t := 62) (by decide) (q := 57) rfl (fun b4 => ?_) (fun b4 => ?_)
              -- then 62 else 57
              · exact absurd b4 (by decide)
              · refine zz_aload_0 S dX3_parseCommand_57 (q := 58) rfl ?_
                -- at 58: invokevirtual 46
                refine zz_virtI S yy_X3_advance lX3_46 (ci := 3) (by decide) rfl (cx_advance (tk tx len p).2.1 len tx im1 hk1.2 hti.2.2.1 hP1) rfl (Nat.le_of_ble_eq_true rfl) (Nat.le_of_ble_eq_true rfl) rfl (Nat.le_of_ble_eq_true rfl) rfl dX3_parseCommand_58 (q := 61) rfl ?_
                rintro r2 im2 ⟨-, hk2, hA2⟩
                refine zz_pop S rfl dX3_parseCommand_61 (q := 62) rfl ?_
                -- at 62
                exact fin 1 im2 (tk tx len p).2.1 _ hti.2.2.1 hk2 (hA2.pg hP1) ((hA.tr hA1.p).tr hA2.p) (fun j hj => by rw [hA2.1 467 (by decide)]; exact ha1 j hj) (by rw [rk_n1, if_pos hneg]) (Or.inr ⟨rfl, hneg⟩)
          · rw [if_neg hw]
            refine zz_if_eq S dX3_parseCommand_44 (t := 51) (by decide) (q := 47) rfl (fun b3 => ?_) (fun b3 => ?_)
            -- then 51 else 47
            · exact no _ _ (fun e => hw (hs8.mpr e.2.2))
            · exact absurd rfl b3
set_option maxHeartbeats 4000000 in
theorem cx_parse (p len : Nat) (tx : Nat → Int32) (im : ZI) (hp : p ≤ len) (hP : zPg im len tx) (hk : zXk im (tk tx len p)) : zz_OI G l 6 mX3_parseCommand [.ref 465] zE im (fun r im' => zAp im im' ∧ zPr im' tx len (rk_word tx (tk tx len p)) r (rk_par tx len (tk tx len p))) := by
  have hti := tk_in tx hp
  have hw7 := rk_word_in tx (tk tx len p)
  unfold rk_par
  have hcom := cx_comTok (G := G) (l := l) p len tx im hp hP hk
  by_cases hw : rk_word tx (tk tx len p) = 7
  · rw [if_pos hw] at hcom ⊢
    refine zz_intro (isI := false) (by decide) rfl (Nat.le_of_ble_eq_true rfl) (fun h => by cases h) (fun w S => ?_)
    refine zz_aload_0 S dX3_parseCommand_0 (q := 1) rfl ?_
    -- at 1: invokevirtual 39
    refine zz_virtP S yy_X3_commandOfToken lX3_39 (ci := 3) (by decide) rfl hcom rfl (Nat.le_of_ble_eq_true rfl) (Nat.le_of_ble_eq_true rfl) rfl (Nat.le_of_ble_eq_true rfl) rfl dX3_parseCommand_1 (q := 4) rfl ?_
    refine zz_istore_1 S rfl dX3_parseCommand_4 (q := 5) rfl ?_
    refine zz_iload_1 S dX3_parseCommand_5 (q := 6) rfl ?_
    refine zz_iconst S (v := (-1)) rfl dX3_parseCommand_6 (q := 7) rfl ?_
    refine zz_icmp_ne S dX3_parseCommand_7 (t := 12) (by decide) (q := 10) rfl (fun a1 => ?_) (fun a1 => ?_)
    -- then 12 else 10
    · exact absurd rfl a1
    · refine zz_iconst S (v := (-1)) rfl dX3_parseCommand_10 (q := 11) rfl ?_
      -- at 11: ireturn 
      refine zz_iret S dX3_parseCommand_11 ⟨rfl, _, rfl, rfl, ?_⟩
      exact ⟨zAp.rf, rfl, hk.1⟩
  · rw [if_neg hw] at hcom ⊢
    generalize hvv : rk_word tx (tk tx len p) = v at hw7 hw ⊢
    generalize hRR : rk_nG tx len v (rk_cnt v) 0 (tk tx len (tk tx len p).2.1) (fun _ => 0) = R
    have hnn : nI v ≠ -1 := fun e => by
      have h1 := nI_pos' (n := v) (by omega)
      rw [e] at h1
      exact absurd h1 (by decide)
    rw [hvv] at hcom
    refine zz_intro (isI := false) (by decide) rfl (Nat.le_of_ble_eq_true rfl) (fun h => by cases h) (fun w S => ?_)
    refine zz_aload_0 S dX3_parseCommand_0 (q := 1) rfl ?_
    -- at 1: invokevirtual 39
    refine zz_virtP S yy_X3_commandOfToken lX3_39 (ci := 3) (by decide) rfl hcom rfl (Nat.le_of_ble_eq_true rfl) (Nat.le_of_ble_eq_true rfl) rfl (Nat.le_of_ble_eq_true rfl) rfl dX3_parseCommand_1 (q := 4) rfl ?_
    refine zz_istore_1 S rfl dX3_parseCommand_4 (q := 5) rfl ?_
    refine zz_iload_1 S dX3_parseCommand_5 (q := 6) rfl ?_
    refine zz_iconst S (v := (-1)) rfl dX3_parseCommand_6 (q := 7) rfl ?_
    refine zz_icmp_ne S dX3_parseCommand_7 (t := 12) (by decide) (q := 10) rfl (fun a1 => ?_) (fun a1 => ?_)
    -- then 12 else 10
    · refine zz_iconst S (v := 0) rfl dX3_parseCommand_12 (q := 13) rfl ?_
      refine zz_istore_2 S rfl dX3_parseCommand_13 (q := 14) rfl ?_
      -- at 14
      refine lx_parse (tx := tx) (len := len) (R := R) (im0 := im) S rfl (by omega) rfl (fun im' q hA h3 hR => ?_) (fun im' q a y u v' hq hA h4 ha hR => ?_) (rk_cnt v) 0 (tk tx len p).2.1 0 _ _ (fun _ => 0) im (by omega) rfl hti.2.2.1 hk.2 hP zAp.rf (fun j hj => absurd hj (by omega)) hRR.symm
      · exact ⟨rfl, _, rfl, rfl, hA, by rw [hR]; exact ⟨rfl, h3⟩⟩
      · have hP1 := hA.pg hP
        refine zz_aload_0 S dX3_parseCommand_100 (q := 101) rfl ?_
        -- at 101: invokevirtual 46
        refine zz_virtI S yy_X3_advance lX3_46 (ci := 3) (by decide) rfl (cx_advance q len tx im' h4 hq hP1) rfl (Nat.le_of_ble_eq_true rfl) (Nat.le_of_ble_eq_true rfl) rfl (Nat.le_of_ble_eq_true rfl) rfl dX3_parseCommand_101 (q := 104) rfl ?_
        rintro r1 im1 ⟨-, hk1, hA1⟩
        refine zz_pop S rfl dX3_parseCommand_104 (q := 105) rfl ?_
        refine zz_aload_0 S dX3_parseCommand_105 (q := 106) rfl ?_
        -- at 106
        refine zz_strK (i := 9) S (by decide) dX3_parseCommand_106 (q := 108) rfl ?_
        refine zz_virtP S yy_X3_tokenIs lX3_52 (ci := 3) (by decide) rfl (cx_tokenIs 9 q len tx im1 (by decide) hq (hA1.pg hP1) hk1) rfl (Nat.le_of_ble_eq_true rfl) (Nat.le_of_ble_eq_true rfl) rfl (Nat.le_of_ble_eq_true rfl) rfl dX3_parseCommand_108 (q := 111) rfl ?_
        have hs9 : isW tx (tk tx len q) 9 ↔ (tk tx len q).2.2 = 3 ∧ ta tx len (tk tx len q).1 = 59 := isW_sign hq rfl rfl (by decide)
        by_cases hw9 : isW tx (tk tx len q) 9
        · rw [if_pos hw9]
          refine zz_if_eq S dX3_parseCommand_111 (t := 118) (by decide) (q := 114) rfl (fun b1 => ?_) (fun b1 => ?_)
          -- then 118 else 114
          · exact absurd b1 (by decide)
          · refine zz_iload_1 S dX3_parseCommand_114 (q := 115) rfl ?_
            refine zz_goto S dX3_parseCommand_115 (t := 119) (by decide) ?_
            -- at 119: ireturn 
            refine zz_iret S dX3_parseCommand_119 ⟨rfl, _, rfl, rfl, ?_⟩
            refine ⟨hA.tr hA1.p, ?_⟩
            rw [hR, zPr, if_pos (hs9.mp hw9)]
            exact ⟨rfl, hk1, fun j hj => by rw [hA1.1 467 (by decide)]; exact ha j hj⟩
        · rw [if_neg hw9]
          refine zz_if_eq S dX3_parseCommand_111 (t := 118) (by decide) (q := 114) rfl (fun b1 => ?_) (fun b1 => ?_)
          -- then 118 else 114
          · refine zz_iconst S (v := (-1)) rfl dX3_parseCommand_118 (q := 119) rfl ?_
            -- at 119: ireturn 
            refine zz_iret S dX3_parseCommand_119 ⟨rfl, _, rfl, rfl, ?_⟩
            refine ⟨hA.tr hA1.p, ?_⟩
            rw [hR, zPr, if_neg (fun e => hw9 (hs9.mpr e))]
            exact ⟨rfl, hk1.1⟩
          · exact absurd rfl b1
    · exact absurd a1 hnn
end ZCPC
