/-! THE CLASS: commissions, melts -/
theorem op_ask_at {s : ZSt} {c f : Nat} {la x sz lo : Int32} (hf : f < 8) : op_ask s c la x sz lo (38 + 8 * c + f) = [la, x, sz, lo, 0, 0, -100009, 0].getD f 0 := by
  unfold op_ask
  rcases (show f = 0 ∨ f = 1 ∨ f = 2 ∨ f = 3 ∨ f = 4 ∨ f = 5 ∨ f = 6 ∨ f = 7 by omega) with rfl | rfl | rfl | rfl | rfl | rfl | rfl | rfl
  · rw [u_ne _ _ (by omega), u_ne _ _ (by omega), u_ne _ _ (by omega), u_ne _ _ (by omega), u_ne _ _ (by omega), u_ne _ _ (by omega), u_ne _ _ (by omega), u_eq]; rfl
  · rw [u_ne _ _ (by omega), u_ne _ _ (by omega), u_ne _ _ (by omega), u_ne _ _ (by omega), u_ne _ _ (by omega), u_ne _ _ (by omega), u_eq]; rfl
  · rw [u_ne _ _ (by omega), u_ne _ _ (by omega), u_ne _ _ (by omega), u_ne _ _ (by omega), u_ne _ _ (by omega), u_eq]; rfl
  · rw [u_ne _ _ (by omega), u_ne _ _ (by omega), u_ne _ _ (by omega), u_ne _ _ (by omega), u_eq]; rfl
  · rw [u_ne _ _ (by omega), u_ne _ _ (by omega), u_ne _ _ (by omega), u_eq]; rfl
  · rw [u_ne _ _ (by omega), u_ne _ _ (by omega), u_eq]; rfl
  · rw [u_ne _ _ (by omega), u_eq]; rfl
  · rw [u_eq]; rfl
theorem op_ask_n {s : ZSt} {c j : Nat} {la x sz lo : Int32} (h1 : j ≠ 1) (h2 : ∀ f, f < 8 → j ≠ 38 + 8 * c + f) : op_ask s c la x sz lo j = s j := by
  unfold op_ask
  rw [u_ne _ _ (h2 7 (by omega)), u_ne _ _ (h2 6 (by omega)), u_ne _ _ (h2 5 (by omega)), u_ne _ _ (h2 4 (by omega)), u_ne _ _ (h2 3 (by omega)), u_ne _ _ (h2 2 (by omega)), u_ne _ _ (h2 1 (by omega)), u_ne _ _ (h2 0 (by omega)), u_ne _ _ h1]
theorem op_ask_1 {s : ZSt} {c : Nat} {la x sz lo : Int32} : op_ask s c la x sz lo 1 = nI c + 1 := by
  unfold op_ask
  rw [u_ne _ _ (by omega), u_ne _ _ (by omega), u_ne _ _ (by omega), u_ne _ _ (by omega), u_ne _ _ (by omega), u_ne _ _ (by omega), u_ne _ _ (by omega), u_ne _ _ (by omega), u_eq]
theorem rS.ask {im im' : ZI} {s : ZSt} {nw nc : Nat} {la x sz lo : Int32} (h : rS im 2 s nw nc) (hw : nw ≤ 6) (k1 : ∀ k, k ≠ 2 → k ≠ 13 + nc → im' k = im k) (k2 : ∀ j, j ≠ 5 → im' 2 j = im 2 j) (k3 : im' 2 5 = nI nc + 1) (k4 : ∀ f, f < 8 → f ≠ 5 → im' (13 + nc) f = [la, x, sz, lo, 0, 0, -100009, 0].getD f 0) : rS im' 2 (op_ask s nc la x sz lo) nw (nc + 1) := by
  obtain ⟨⟨a1, a2, a3, a4⟩, b, c, d, e⟩ := h
  refine ⟨⟨?_, ?_, ?_, ?_⟩, fun j hj => ?_, fun m hm => ?_, fun w hw2 => ?_, fun c1 hc f hf e5 => ?_⟩
  · rw [k2 _ (by omega), op_ask_n (by omega) (fun _ _ => by omega)]; exact a1
  · rw [k3, op_ask_1]
  · rw [k2 _ (by omega), op_ask_n (by omega) (fun _ _ => by omega)]; exact a3
  · rw [k2 _ (by omega), op_ask_n (by omega) (fun _ _ => by omega)]; exact a4
  · rw [k1 _ (by omega) (by omega), op_ask_n (by omega) (fun _ _ => by omega)]; exact b j hj
  · rw [k1 _ (by omega) (by omega), op_ask_n (by omega) (fun _ _ => by omega)]; exact c m hm
  · rw [k1 _ (by omega) (by omega), op_ask_n (by omega) (fun _ _ => by omega), op_ask_n (by omega) (fun _ _ => by omega)]; exact d w hw2
  · by_cases hcn : c1 = nc
    · subst hcn
      have hf5 : f ≠ 5 := fun q => by
        have := e5 q
        rw [op_ask_at (by omega)] at this
        exact absurd (show (1 : Int) ≤ (0 : Int32).toInt from this.1) (by decide)
      rw [show (2 + 11 + c1 : Nat) = 13 + c1 by omega, k4 f hf hf5, op_ask_at hf]
    · rw [k1 _ (by omega) (by omega), op_ask_n (by omega) (fun _ _ => by omega)]
      exact e c1 (by omega) f hf (fun q => by have := e5 q; rw [op_ask_n (by omega) (fun _ _ => by omega)] at this; exact this)
section ZCA3
variable {G : ZG} {l : Launch}
set_option maxHeartbeats 2000000 in
theorem cx_openCom (la x sz lo : Int32) (nw nc : Nat) (s : ZSt) (im : ZI) (hI : sI s nw nc) (hr : rS im 2 s nw nc) : zz_OI G l 1 mX4_openCommission [.ref 2, .int la, .int x, .int sz, .int lo] zE im (fun r im' => zA im im' r (op_cAsk s la x sz lo) (nI nc) (op_ask s nc la x sz lo) nw (nc + 1)) := by
  have h0 : im 2 4 = nI nw := hr.n.1.trans hI.1
  have h1 : im 2 5 = nI nc := hr.n.2.1.trans hI.2.2.1
  have hw := hI.2.1
  have hn := hI.2.2.2.1
  have e0 : s 0 = nI nw := hI.1
  have e1 : s 1 = nI nc := hI.2.2.1
  have hlt : nI nc < (10 : Int32) ↔ nc < 10 := nI_ltI (a := nc) (b := 10) (by omega) (by omega)
  have heq : nI nc = (10 : Int32) ↔ nc = 10 := nI_eq (a := nc) (b := 10) (by omega) (by omega)
  have hcd : op_cAsk s la x sz lo = if (la ≥ 10 ∧ la ≤ 70) ∧ (x = -1 ∨ x ≥ 0 ∧ x ≤ nI nw - 1) ∧ (sz ≥ 10 ∧ sz ≤ 60) ∧ lo ≥ -60 ∧ lo ≤ 60 then (if nI nc = (10 : Int32) then -100003 else 0) else -100001 := by rw [op_cAsk, e0, e1]
  -- from the sizes on
  have fin : ∀ w : Nat → ZL → List Value → Nat → ZE → ZI → Prop, zz_S G l RX4 cX4_openCommission 6 1 zE.1 0 0 false (some .int) (fun v' E' im' => E'.1 = zE.1 + 0 ∧ ∃ r, v' = some (.int r) ∧ E' = zE ∧ zA im im' r (op_cAsk s la x sz lo) (nI nc) (op_ask s nc la x sz lo) nw (nc + 1)) w →
      (la ≥ 10 ∧ la ≤ 70) → (x = -1 ∨ x ≥ 0 ∧ x ≤ nI nw - 1) → w 24 [some (.ref 2), some (.int la), some (.int x), some (.int sz), some (.int lo), none] [] 0 zE im := by
    intro w S g1 g2
    refine zz_iload_3 S dX4_openCommission_24 (q := 25) rfl ?_
    refine zz_bipush S (v := 10) rfl dX4_openCommission_25 (q := 27) rfl ?_
    refine zz_bipush S (v := 60) rfl dX4_openCommission_27 (q := 29) rfl ?_
    -- at 29: invokestatic 61
    refine zz_statNP S yy_X7_isWithin lX4_61 (cx_within sz 10 60 zE im) rfl (Nat.le_of_ble_eq_true rfl) (Nat.le_of_ble_eq_true rfl) rfl dX4_openCommission_29 (q := 32) rfl ?_
    refine zz_if_eq S dX4_openCommission_32 (t := 47) (by decide) (q := 35) rfl (fun b3 => ?_) (fun b3 => ?_)
    -- then 47 else 35
    · rw [if_neg (fun e => zs_b1.mp b3 e.2.2.1)] at hcd
      refine zz_ldc S (v := (-100001)) kX4_65 dX4_openCommission_47 (q := 49) rfl ?_
      -- at 49: ireturn 
      refine zz_iret S dX4_openCommission_49 ⟨rfl, _, rfl, rfl, ?_⟩
      exact zA.no (by rw [hcd]; decide) (by rw [hcd])
    have b3' := zs_ne0 b3
    refine zz_iload_4 S dX4_openCommission_35 (q := 37) rfl ?_
    refine zz_bipush S (v := (-60)) rfl dX4_openCommission_37 (q := 39) rfl ?_
    refine zz_bipush S (v := 60) rfl dX4_openCommission_39 (q := 41) rfl ?_
    -- at 41: invokestatic 61
    refine zz_statNP S yy_X7_isWithin lX4_61 (cx_within lo (-60) 60 zE im) rfl (Nat.le_of_ble_eq_true rfl) (Nat.le_of_ble_eq_true rfl) rfl dX4_openCommission_41 (q := 44) rfl ?_
    refine zz_if_ne S dX4_openCommission_44 (t := 50) (by decide) (q := 47) rfl (fun b4 => ?_) (fun b4 => ?_)
    -- then 50 else 47
    · have b4' := zs_ne0 b4
      rw [if_pos ⟨g1, g2, b3', b4'⟩] at hcd
      refine zz_aload_0 S dX4_openCommission_50 (q := 51) rfl ?_
      refine zz_getI S fX4_52 rfl (Nat.le_of_ble_eq_true rfl) rfl dX4_openCommission_51 (q := 54) rfl ?_
      refine zz_bipush S (v := 10) rfl dX4_openCommission_54 (q := 56) rfl ?_
      refine zz_icmp_lt S dX4_openCommission_56 (t := 62) (by decide) (q := 59) rfl (fun b5 => ?_) (fun b5 => ?_)
      -- then 62 else 59
      · rw [h1] at b5
        have b6 := hlt.mp b5
        rw [if_neg (fun e => by have := heq.mp e; omega)] at hcd
        have hcE : 13 + nc < 470 := by omega
        have hck := zc_k nc b6
        refine zz_aload_0 S dX4_openCommission_62 (q := 63) rfl ?_
        refine zz_getR S fX4_26 rfl (Nat.le_of_ble_eq_true rfl) rfl rfl dX4_openCommission_63 (q := 66) rfl ?_
        refine zz_aload_0 S dX4_openCommission_66 (q := 67) rfl ?_
        refine zz_getI S fX4_52 rfl (Nat.le_of_ble_eq_true rfl) rfl dX4_openCommission_67 (q := 70) rfl ?_
        refine zz_aaN S (j := nc) (Nat.le_of_ble_eq_true rfl) rfl ⟨Nat.le_of_ble_eq_true rfl, Nat.le_of_ble_eq_true rfl⟩ (Nat.le_of_ble_eq_true rfl) h1 (by omega) (zc_ref nc b6) dX4_openCommission_70 (q := 71) rfl ?_
        refine zz_astore_5 S rfl dX4_openCommission_71 (q := 73) rfl ?_
        refine zz_aload_5 S dX4_openCommission_73 (q := 75) rfl ?_
        refine zz_iload_1 S dX4_openCommission_75 (q := 76) rfl ?_
        refine zz_putI S fX4_87 rfl rfl hcE hck dX4_openCommission_76 (q := 79) rfl ?_
        refine zz_aload_5 S dX4_openCommission_79 (q := 81) rfl ?_
        refine zz_iload_2 S dX4_openCommission_81 (q := 82) rfl ?_
        refine zz_putI S fX4_90 rfl rfl hcE hck dX4_openCommission_82 (q := 85) rfl ?_
        refine zz_aload_5 S dX4_openCommission_85 (q := 87) rfl ?_
        refine zz_iload_3 S dX4_openCommission_87 (q := 88) rfl ?_
        refine zz_putI S fX4_93 rfl rfl hcE hck dX4_openCommission_88 (q := 91) rfl ?_
        refine zz_aload_5 S dX4_openCommission_91 (q := 93) rfl ?_
        refine zz_iload_4 S dX4_openCommission_93 (q := 95) rfl ?_
        refine zz_putI S fX4_96 rfl rfl hcE hck dX4_openCommission_95 (q := 98) rfl ?_
        refine zz_aload_5 S dX4_openCommission_98 (q := 100) rfl ?_
        refine zz_iconst S (v := 0) rfl dX4_openCommission_100 (q := 101) rfl ?_
        refine zz_putI S fX4_99 rfl rfl hcE hck dX4_openCommission_101 (q := 104) rfl ?_
        refine zz_aload_5 S dX4_openCommission_104 (q := 106) rfl ?_
        refine zz_ldc S (v := (-100009)) kX4_73 dX4_openCommission_106 (q := 108) rfl ?_
        refine zz_putI S fX4_102 rfl rfl hcE hck dX4_openCommission_108 (q := 111) rfl ?_
        refine zz_aload_5 S dX4_openCommission_111 (q := 113) rfl ?_
        refine zz_ldc S (v := (-100009)) kX4_73 dX4_openCommission_113 (q := 115) rfl ?_
        refine zz_putI S fX4_105 rfl rfl hcE hck dX4_openCommission_115 (q := 118) rfl ?_
        refine zz_aload_5 S dX4_openCommission_118 (q := 120) rfl ?_
        refine zz_iconst S (v := 0) rfl dX4_openCommission_120 (q := 121) rfl ?_
        refine zz_putI S fX4_108 rfl rfl hcE hck dX4_openCommission_121 (q := 124) rfl ?_
        refine zz_aload_0 S dX4_openCommission_124 (q := 125) rfl ?_
        refine zz_dup S rfl dX4_openCommission_125 (q := 126) rfl ?_
        refine zz_getI S fX4_52 rfl (Nat.le_of_ble_eq_true rfl) rfl dX4_openCommission_126 (q := 129) rfl ?_
        refine zz_iconst S (v := 1) rfl dX4_openCommission_129 (q := 130) rfl ?_
        refine zz_iadd S dX4_openCommission_130 (q := 131) rfl ?_
        refine zz_putI S fX4_52 rfl rfl (Nat.le_of_ble_eq_true rfl) rfl dX4_openCommission_131 (q := 134) rfl ?_
        refine zz_aload_0 S dX4_openCommission_134 (q := 135) rfl ?_
        refine zz_getI S fX4_52 rfl (Nat.le_of_ble_eq_true rfl) rfl dX4_openCommission_135 (q := 138) rfl ?_
        refine zz_iconst S (v := 1) rfl dX4_openCommission_138 (q := 139) rfl ?_
        refine zz_isub S dX4_openCommission_139 (q := 140) rfl ?_
        -- at 140: ireturn 
        generalize him1 : zz_u (zz_u (zz_u (zz_u (zz_u (zz_u (zz_u (zz_u im (13 + nc) 0 la) (13 + nc) 1 x) (13 + nc) 2 sz) (13 + nc) 3 lo) (13 + nc) 4 0) (13 + nc) 5 (-100009)) (13 + nc) 6 (-100009)) (13 + nc) 7 0 = im1
        have o : ∀ k, k ≠ 13 + nc → im1 k = im k := fun k hk => by
          rw [← him1]
          funext j
          simp [zz_u, hk]
        have hv : ∀ f, f < 8 → f ≠ 5 → im1 (13 + nc) f = [la, x, sz, lo, 0, 0, -100009, 0].getD f 0 := fun f hf h5 => by
          rw [← him1]
          rcases (show f = 0 ∨ f = 1 ∨ f = 2 ∨ f = 3 ∨ f = 4 ∨ f = 6 ∨ f = 7 by omega) with rfl | rfl | rfl | rfl | rfl | rfl | rfl
          all_goals simp [zz_u]
        have e5 : im1 2 5 = nI nc := by rw [o 2 (by omega)]; exact h1
        rw [e5]
        refine zz_iret S dX4_openCommission_140 ⟨rfl, _, rfl, rfl, ?_⟩
        refine zA.yes (by rw [hcd]; decide) (fun k hk => by rw [zz_u_off _ _ _ _ (by omega), o k (by omega)]) ?_ (hr.ask hw (fun k a b => by rw [zz_u_off _ _ _ _ a, o k b]) (fun j hj => by rw [zz_u_n _ _ (by omega), o 2 (by omega)]) (by rw [zz_u_e]) (fun f hf h5 => by rw [zz_u_n _ _ (by omega)]; exact hv f hf h5))
        rw [zz_u_e, nI_1, nI_pred]
      · rw [h1] at b5
        rw [if_pos (heq.mpr (by have : ¬ nc < 10 := fun e => b5 (hlt.mpr e); omega))] at hcd
        refine zz_ldc S (v := (-100003)) kX4_72 dX4_openCommission_59 (q := 61) rfl ?_
        -- at 61: ireturn 
        refine zz_iret S dX4_openCommission_61 ⟨rfl, _, rfl, rfl, ?_⟩
        exact zA.no (by rw [hcd]; decide) (by rw [hcd])
    · rw [if_neg (fun e => zs_b1.mp b4 e.2.2.2)] at hcd
      refine zz_ldc S (v := (-100001)) kX4_65 dX4_openCommission_47 (q := 49) rfl ?_
      -- at 49: ireturn 
      refine zz_iret S dX4_openCommission_49 ⟨rfl, _, rfl, rfl, ?_⟩
      exact zA.no (by rw [hcd]; decide) (by rw [hcd])
  refine zz_intro (isI := false) (by decide) rfl (Nat.le_of_ble_eq_true rfl) (fun h => by cases h) (fun w S => ?_)
  refine zz_iload_1 S dX4_openCommission_0 (q := 1) rfl ?_
  refine zz_bipush S (v := 10) rfl dX4_openCommission_1 (q := 3) rfl ?_
  refine zz_bipush S (v := 70) rfl dX4_openCommission_3 (q := 5) rfl ?_
  -- at 5: invokestatic 61
  refine zz_statNP S yy_X7_isWithin lX4_61 (cx_within la 10 70 zE im) rfl (Nat.le_of_ble_eq_true rfl) (Nat.le_of_ble_eq_true rfl) rfl dX4_openCommission_5 (q := 8) rfl ?_
  refine zz_if_eq S dX4_openCommission_8 (t := 47) (by decide) (q := 11) rfl (fun b1 => ?_) (fun b1 => ?_)
  -- then 47 else 11
  · rw [if_neg (fun e => zs_b1.mp b1 e.1)] at hcd
    refine zz_ldc S (v := (-100001)) kX4_65 dX4_openCommission_47 (q := 49) rfl ?_
    -- at 49: ireturn 
    refine zz_iret S dX4_openCommission_49 ⟨rfl, _, rfl, rfl, ?_⟩
    exact zA.no (by rw [hcd]; decide) (by rw [hcd])
  have b1' := zs_ne0 b1
  refine zz_iload_2 S dX4_openCommission_11 (q := 12) rfl ?_
  refine zz_iconst S (v := (-1)) rfl dX4_openCommission_12 (q := 13) rfl ?_
  refine zz_icmp_eq S dX4_openCommission_13 (t := 24) (by decide) (q := 16) rfl (fun b2 => ?_) (fun b2 => ?_)
  -- then 24 else 16
  · exact fin w S b1' (Or.inl b2)
  · refine zz_aload_0 S dX4_openCommission_16 (q := 17) rfl ?_
    refine zz_iload_2 S dX4_openCommission_17 (q := 18) rfl ?_
    -- at 18: invokevirtual 80
    refine zz_virtP S yy_X4_hasWall lX4_80 (ci := 4) (by decide) rfl (cx_hasWall x nw im h0 hw) rfl (Nat.le_of_ble_eq_true rfl) (Nat.le_of_ble_eq_true rfl) rfl (Nat.le_of_ble_eq_true rfl) rfl dX4_openCommission_18 (q := 21) rfl ?_
    refine zz_if_eq S dX4_openCommission_21 (t := 47) (by decide) (q := 24) rfl (fun b3 => ?_) (fun b3 => ?_)
    -- then 47 else 24
    · rw [if_neg (fun e => e.2.1.elim b2 (zs_b1.mp b3))] at hcd
      refine zz_ldc S (v := (-100001)) kX4_65 dX4_openCommission_47 (q := 49) rfl ?_
      -- at 49: ireturn 
      refine zz_iret S dX4_openCommission_49 ⟨rfl, _, rfl, rfl, ?_⟩
      exact zA.no (by rw [hcd]; decide) (by rw [hcd])
    · exact fin w S b1' (Or.inr (zs_ne0 b3))
set_option maxHeartbeats 4000000 in
theorem lx_cast {n0 mcT msT : Nat} {isI : Bool} {Qf : Option Value → ZE → ZI → Prop} {w : Nat → ZL → List Value → Nat → ZE → ZI → Prop} {z nw nc : Nat} {im0 : ZI} {s T : ZSt} {st : Nat → Int32} {y : Int32} (S : zz_S G l RX4 cX4_castMelt 3 3 n0 mcT msT isI (some .int) Qf w)
    (hI : sI s nw nc) (hy : y = nI (mk (ch st (op_st s)) nc)) (hst : ∀ j, ch st (op_st s) j = true → op_st s j = 1) (hQ : ∀ im' u, zFr im0 im' → rS im' 2 T nw nc → w 81 [some (.ref 2), some (.int y), u] [] z zE im') :
    ∀ (n c : Nat) (x : Int32) (im : ZI) (sc : ZSt), c + n = nc → x = nI c → zFr im0 im → rS im 2 sc nw nc → sc 1 = nI nc → (∀ j, c ≤ j → sc (38 + 8 * j + 4) = s (38 + 8 * j + 4)) → T = op_caG st n c sc → w 18 [some (.ref 2), some (.int y), some (.int x)] [] z zE im := by
  have hn := hI.2.2.2.1
  have hw := hI.2.1
  intro n
  induction n with
  | zero =>
    intro c x im sc hc hx hf hr h1 hs hT
    have hc : c = nc := by omega
    subst hc
    have e5 : im 2 5 = nI c := hr.n.2.1.trans h1
    refine zz_iload_2 S dX4_castMelt_18 (q := 19) rfl ?_
    refine zz_aload_0 S dX4_castMelt_19 (q := 20) rfl ?_
    refine zz_getI S fX4_52 rfl (Nat.le_of_ble_eq_true rfl) rfl dX4_castMelt_20 (q := 23) rfl ?_
    refine zz_icmp_ge S dX4_castMelt_23 (t := 81) (by decide) (q := 26) rfl (fun a1 => ?_) (fun a1 => ?_)
    -- then 81 else 26
    · exact hQ im _ hf (by rw [hT]; exact hr)
    · exact absurd (by rw [e5, hx]; exact Int32.le_refl _) a1
  | succ n ih =>
    intro c x im sc hc hx hf hr h1 hs hT
    have e5 : im 2 5 = nI nc := hr.n.2.1.trans h1
    have hcn : c < nc := by omega
    have hcE : 13 + c < 470 := by omega
    have hck := zc_k c (by omega)
    have hcr := zc_ref c (by omega)
    have hbit : y &&& ((1 : Int32) <<< (x &&& 31)) = 0 ↔ st c = sc (38 + 8 * c + 4) := by
      rw [hy, hx, bt_and c (by omega) _ (mk_1024 _ hn), mk_bit, hs c (Nat.le_refl _)]
      unfold ch op_st
      simp [hcn]
    refine zz_iload_2 S dX4_castMelt_18 (q := 19) rfl ?_
    refine zz_aload_0 S dX4_castMelt_19 (q := 20) rfl ?_
    refine zz_getI S fX4_52 rfl (Nat.le_of_ble_eq_true rfl) rfl dX4_castMelt_20 (q := 23) rfl ?_
    refine zz_icmp_ge S dX4_castMelt_23 (t := 81) (by decide) (q := 26) rfl (fun a1 => ?_) (fun a1 => ?_)
    -- then 81 else 26
    · exact absurd a1 (by rw [e5, hx]; exact nI_ge (by omega) (by omega))
    · refine zz_iload_1 S dX4_castMelt_26 (q := 27) rfl ?_
      refine zz_iconst S (v := 1) rfl dX4_castMelt_27 (q := 28) rfl ?_
      refine zz_iload_2 S dX4_castMelt_28 (q := 29) rfl ?_
      refine zz_ishl S dX4_castMelt_29 (q := 30) rfl ?_
      refine zz_iand S dX4_castMelt_30 (q := 31) rfl ?_
      refine zz_if_eq S dX4_castMelt_31 (t := 75) (by decide) (q := 34) rfl (fun a2 => ?_) (fun a2 => ?_)
      -- then 75 else 34
      · have a2' := hbit.mp a2
        rw [op_caG, if_pos a2'] at hT
        refine zz_iinc_2 S rfl dX4_castMelt_75 (q := 78) rfl ?_
        refine zz_goto S dX4_castMelt_78 (t := 18) (by decide) ?_
        -- at 18
        exact ih (c + 1) _ im sc (by omega) (by rw [hx]; exact nI_1 c) hf hr h1 (fun j hj => hs j (by omega)) hT
      · have a2' : ¬ st c = sc (38 + 8 * c + 4) := fun e => a2 (hbit.mpr e)
        have hst1 : sc (38 + 8 * c + 4) = 1 := by
          rw [hs c (Nat.le_refl _)]
          exact hst c (by unfold ch op_st; rw [← hs c (Nat.le_refl _)]; simpa using a2')
        rw [op_caG, if_neg a2'] at hT
        have r1 := hr.u_com hw (c := c) (f := 4) (v := 2) (by omega) (fun _ _ => hr.com5 hcn (by rw [hst1]; exact ⟨by decide, by decide⟩))
        have r2 := r1.u_com hw (c := c) (f := 6) (v := sc 2) (by omega) (fun e => absurd e (by decide))
        refine zz_aload_0 S dX4_castMelt_34 (q := 35) rfl ?_
        refine zz_getR S fX4_26 rfl (Nat.le_of_ble_eq_true rfl) rfl rfl dX4_castMelt_35 (q := 38) rfl ?_
        refine zz_iload_2 S dX4_castMelt_38 (q := 39) rfl ?_
        refine zz_aaN S (j := c) (Nat.le_of_ble_eq_true rfl) rfl ⟨Nat.le_of_ble_eq_true rfl, Nat.le_of_ble_eq_true rfl⟩ (Nat.le_of_ble_eq_true rfl) hx (by omega) hcr dX4_castMelt_39 (q := 40) rfl ?_
        refine zz_iconst S (v := 2) rfl dX4_castMelt_40 (q := 41) rfl ?_
        refine zz_putI S fX4_99 rfl rfl hcE hck dX4_castMelt_41 (q := 44) rfl ?_
        refine zz_aload_0 S dX4_castMelt_44 (q := 45) rfl ?_
        refine zz_getR S fX4_26 rfl (Nat.le_of_ble_eq_true rfl) rfl rfl dX4_castMelt_45 (q := 48) rfl ?_
        refine zz_iload_2 S dX4_castMelt_48 (q := 49) rfl ?_
        refine zz_aaN S (j := c) (Nat.le_of_ble_eq_true rfl) rfl ⟨Nat.le_of_ble_eq_true rfl, Nat.le_of_ble_eq_true rfl⟩ (Nat.le_of_ble_eq_true rfl) hx (by omega) hcr dX4_castMelt_49 (q := 50) rfl ?_
        refine zz_aload_0 S dX4_castMelt_50 (q := 51) rfl ?_
        refine zz_getI S fX4_55 rfl (Nat.le_of_ble_eq_true rfl) rfl dX4_castMelt_51 (q := 54) rfl ?_
        refine zz_putI S fX4_105 rfl rfl hcE hck dX4_castMelt_54 (q := 57) rfl ?_
        refine zz_aload_0 S dX4_castMelt_57 (q := 58) rfl ?_
        refine zz_dup S rfl dX4_castMelt_58 (q := 59) rfl ?_
        refine zz_getI S fX4_58 rfl (Nat.le_of_ble_eq_true rfl) rfl dX4_castMelt_59 (q := 62) rfl ?_
        refine zz_aload_0 S dX4_castMelt_62 (q := 63) rfl ?_
        refine zz_getR S fX4_26 rfl (Nat.le_of_ble_eq_true rfl) rfl rfl dX4_castMelt_63 (q := 66) rfl ?_
        refine zz_iload_2 S dX4_castMelt_66 (q := 67) rfl ?_
        refine zz_aaN S (j := c) (Nat.le_of_ble_eq_true rfl) rfl ⟨Nat.le_of_ble_eq_true rfl, Nat.le_of_ble_eq_true rfl⟩ (Nat.le_of_ble_eq_true rfl) hx (by omega) hcr dX4_castMelt_67 (q := 68) rfl ?_
        -- at 68: invokevirtual 126
        have g6 : zz_u im (13 + c) 4 2 2 6 = sc 2 := by rw [zz_u_n _ _ (by omega)]; exact hr.n.2.2.1
        rw [g6]
        have g7 : zz_u (zz_u im (13 + c) 4 2) (13 + c) 6 (sc 2) 2 7 = sc 3 := by rw [zz_u_n _ _ (by omega), zz_u_n _ _ (by omega)]; exact hr.n.2.2.2
        rw [g7]
        refine zz_virtP S yy_X0_weight lX4_126 (ci := 0) (by decide) rfl (cx_weight (13 + c) (zz_u (zz_u im (13 + c) 4 2) (13 + c) 6 (sc 2)) hcE hck) rfl (Nat.le_of_ble_eq_true rfl) hcE hck (Nat.le_of_ble_eq_true rfl) rfl dX4_castMelt_68 (q := 71) rfl ?_
        have g8 : zz_u (zz_u im (13 + c) 4 2) (13 + c) 6 (sc 2) (13 + c) 2 = sc (38 + 8 * c + 2) := by rw [zz_u_n _ _ (by omega), zz_u_n _ _ (by omega)]; exact hr.com hcn (by omega) (by omega)
        rw [g8]
        refine zz_iadd S dX4_castMelt_71 (q := 72) rfl ?_
        refine zz_putI S fX4_58 rfl rfl (Nat.le_of_ble_eq_true rfl) rfl dX4_castMelt_72 (q := 75) rfl ?_
        refine zz_iinc_2 S rfl dX4_castMelt_75 (q := 78) rfl ?_
        refine zz_goto S dX4_castMelt_78 (t := 18) (by decide) ?_
        -- at 18
        refine ih (c + 1) _ _ _ (by omega) (by rw [hx]; exact nI_1 c) (((hf.u (by omega)).u (by omega)).u (by omega)) (r2.u_ca (k := 3) (Or.inr rfl)) ?_ (fun j hj => ?_) hT
        · rw [u_ne _ _ (by omega), u_ne _ _ (by omega), u_ne _ _ (by omega)]
          exact h1
        · rw [u_ne _ _ (by omega), u_ne _ _ (by omega), u_ne _ _ (by omega)]
          exact hs j (by omega)
set_option maxHeartbeats 2000000 in
theorem cx_castMelt (nw nc : Nat) (s : ZSt) (im : ZI) (hI : sI s nw nc) (hr : rS im 2 s nw nc) : zz_OI G l 3 mX4_castMelt [.ref 2] zE im (fun r im' => zA im im' r (op_cCas s nc) (op_ml s nc (op_st s)).1 (op_cas s nc) nw nc) := by
  have h1 : im 2 5 = nI nc := hr.n.2.1.trans hI.2.2.1
  have hn := hI.2.2.2.1
  have hpc := op_ml_pc s nc (op_st s)
  have hm0 := mk_0 (ch (op_ml s nc (op_st s)).2 (op_st s)) nc
  have hpl := pc_le (ch (op_ml s nc (op_st s)).2 (op_st s)) nc
  have hlt := mk_1024 (ch (op_ml s nc (op_st s)).2 (op_st s)) hn
  have hz : (op_ml s nc (op_st s)).1 = 0 ↔ nI (mk (ch (op_ml s nc (op_st s)).2 (op_st s)) nc) = 0 := by
    rw [hpc, show (nI (pc (ch (op_ml s nc (op_st s)).2 (op_st s)) nc) = 0 ↔ _) from nI_eq (a := pc (ch (op_ml s nc (op_st s)).2 (op_st s)) nc) (b := 0) (by omega) (by omega), show (nI (mk (ch (op_ml s nc (op_st s)).2 (op_st s)) nc) = 0 ↔ _) from nI_eq (a := mk (ch (op_ml s nc (op_st s)).2 (op_st s)) nc) (b := 0) (by omega) (by omega), hm0]
  refine zz_intro (isI := false) (by decide) rfl (Nat.le_of_ble_eq_true rfl) (fun h => by cases h) (fun w S => ?_)
  refine zz_aload_0 S dX4_castMelt_0 (q := 1) rfl ?_
  refine zz_aload_0 S dX4_castMelt_1 (q := 2) rfl ?_
  -- at 2: invokevirtual 119
  refine zz_virtP S yy_X4_acceptedOnes lX4_119 (ci := 4) (by decide) rfl (cx_ones nw nc s im h1 hn hr) rfl (Nat.le_of_ble_eq_true rfl) (Nat.le_of_ble_eq_true rfl) rfl (Nat.le_of_ble_eq_true rfl) rfl dX4_castMelt_2 (q := 5) rfl ?_
  refine zz_virtP S yy_X4_nextMelt lX4_123 (ci := 4) (by decide) rfl (cx_next _ nw nc s (op_st s) im rfl h1 hn hr) rfl (Nat.le_of_ble_eq_true rfl) (Nat.le_of_ble_eq_true rfl) rfl (Nat.le_of_ble_eq_true rfl) rfl dX4_castMelt_5 (q := 8) rfl ?_
  refine zz_istore_1 S rfl dX4_castMelt_8 (q := 9) rfl ?_
  refine zz_iload_1 S dX4_castMelt_9 (q := 10) rfl ?_
  refine zz_if_ne S dX4_castMelt_10 (t := 16) (by decide) (q := 13) rfl (fun b1 => ?_) (fun b1 => ?_)
  -- then 16 else 13
  · have hcd : op_cCas s nc = 0 := by rw [op_cCas, if_neg (fun e => b1 (hz.mp e))]
    refine zz_iconst S (v := 0) rfl dX4_castMelt_16 (q := 17) rfl ?_
    refine zz_istore_2 S rfl dX4_castMelt_17 (q := 18) rfl ?_
    -- at 18
    refine lx_cast (im0 := im) (st := (op_ml s nc (op_st s)).2) (T := op_caG (op_ml s nc (op_st s)).2 nc 0 s) S hI rfl (fun j hj => ?_) (fun im1 u hf hr1 => ?_) nc 0 0 im s (by omega) rfl zFr.rf hr hI.2.2.1 (fun _ _ => rfl) rfl
    · have := ch_sub s nc (op_st s) j hj
      unfold isA at this
      simpa using this
    · refine zz_aload_0 S dX4_castMelt_81 (q := 82) rfl ?_
      refine zz_dup S rfl dX4_castMelt_82 (q := 83) rfl ?_
      refine zz_getI S fX4_55 rfl (Nat.le_of_ble_eq_true rfl) rfl dX4_castMelt_83 (q := 86) rfl ?_
      refine zz_iconst S (v := 1) rfl dX4_castMelt_86 (q := 87) rfl ?_
      refine zz_iadd S dX4_castMelt_87 (q := 88) rfl ?_
      refine zz_putI S fX4_55 rfl rfl (Nat.le_of_ble_eq_true rfl) rfl dX4_castMelt_88 (q := 91) rfl ?_
      refine zz_iload_1 S dX4_castMelt_91 (q := 92) rfl ?_
      -- at 92: invokestatic 129
      refine zz_statP S yy_J6_bitCount_0f7a4 lX4_129 (cx_bitCount (nI (mk (ch (op_ml s nc (op_st s)).2 (op_st s)) nc)) zE (zz_u im1 2 6 (im1 2 6 + 1))) rfl (Nat.le_of_ble_eq_true rfl) (Nat.le_of_ble_eq_true rfl) rfl dX4_castMelt_92 (q := 95) rfl ?_
      refine zz_iret S dX4_castMelt_95 ⟨rfl, _, rfl, rfl, ?_⟩
      refine zA.yes (by rw [hcd]; decide) (hf.u (by omega)) ?_ ?_
      · rw [bcn_mk _ hn, hpc]
      · rw [op_cas, hr1.n.2.2.1]
        exact hr1.u_ca (k := 2) (Or.inl rfl)
  · have hcd : op_cCas s nc = -100002 := by rw [op_cCas, if_pos (hz.mpr b1)]
    refine zz_ldc S (v := (-100002)) kX4_114 dX4_castMelt_13 (q := 15) rfl ?_
    -- at 15: ireturn 
    refine zz_iret S dX4_castMelt_15 ⟨rfl, _, rfl, rfl, ?_⟩
    exact zA.no (by rw [hcd]; decide) (by rw [hcd])
end ZCA3
