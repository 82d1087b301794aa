/-! CONSTRUCTORS: the class, the reference -/
def zXs (a c j : Nat) : Option Nat := if c = 0 ∧ a ≤ j then none else zo_x c j
def zXi (im : ZI) : Prop := (im 2 = fun _ => 0) ∧ (im 4 = fun _ => 0) ∧ (∀ j, j < 4 → im 5 j = (zz_st 2).getD j 0) ∧ (im 24 = fun _ => 0) ∧ (im 67 = fun _ => 0) ∧ im 465 = fun _ => 0
theorem zXs_1 {a c : Nat} (hc : c < 66) : zk_x (1 + c) = zk_state c ∧ zXs a (1 + c) = zo_state 1 c := by
  refine ⟨?_, ?_⟩
  · unfold zk_x
    rw [if_neg (by omega), if_pos (by omega), show 1 + c - 1 = c by omega]
  · funext j
    unfold zXs zo_x
    rw [if_neg (by omega), if_neg (by omega), if_pos (by omega), show 1 + c - 1 = c by omega]
theorem zXs_2 {a c : Nat} (hc : c < 398) : zk_x (67 + c) = zHk c ∧ zXs a (67 + c) = zHo 67 1 6 c := by
  rcases (show c = 0 ∨ c = 1 ∨ 2 ≤ c by omega) with rfl | rfl | h2
  · refine ⟨rfl, ?_⟩
    funext j
    show (if j = 0 then some 68 else none) = (if j < 1 then some (67 + 1) else none)
    by_cases e : j = 0
    · rw [if_pos e, if_pos (by omega)]
    · rw [if_neg e, if_neg (by omega)]
  · refine ⟨rfl, ?_⟩
    funext j
    show (if j < 6 then some (69 + 66 * j) else none) = (if j < 6 then some (67 + 2 + 66 * j) else none)
    rfl
  · refine ⟨?_, ?_⟩
    · unfold zk_x zHk
      rw [if_neg (by omega), if_neg (by omega), if_neg (by omega), if_neg (by omega), if_pos (by omega), if_neg (by omega), if_neg (by omega), show 67 + c - 69 = c - 2 by omega]
    · funext j
      unfold zXs zo_x zHo
      rw [if_neg (by omega), if_neg (by omega), if_neg (by omega), if_neg (by omega), if_neg (by omega), if_pos (by omega), if_neg (by omega), if_neg (by omega), show 67 + c - 69 = c - 2 by omega]
theorem zXs_3 {a c : Nat} (hc : c < 3) : zk_x (465 + c) = zPk c ∧ zXs a (465 + c) = zPo 465 2 c := by
  rcases (show c = 0 ∨ c = 1 ∨ c = 2 by omega) with rfl | rfl | rfl
  · refine ⟨rfl, ?_⟩
    funext j
    show (if j = 0 then some 466 else if j = 1 then some 467 else none) = (if j < 2 then some (465 + 1 + j) else none)
    rcases (show j = 0 ∨ j = 1 ∨ 2 ≤ j by omega) with rfl | rfl | h
    · rfl
    · rfl
    · rw [if_neg (by omega), if_neg (by omega), if_neg (by omega)]
  · exact ⟨rfl, rfl⟩
  · exact ⟨rfl, rfl⟩
theorem zXs_4 {a c : Nat} (hc : c < 2) : zk_x (468 + c) = zDk c ∧ zXs a (468 + c) = zDo 468 1 c := by
  rcases (show c = 0 ∨ c = 1 by omega) with rfl | rfl
  · refine ⟨rfl, ?_⟩
    funext j
    show (if j = 0 then some 469 else none) = (if j < 1 then some (468 + 1) else none)
    by_cases e : j = 0
    · rw [if_pos e, if_pos (by omega)]
    · rw [if_neg e, if_neg (by omega)]
  · exact ⟨rfl, rfl⟩
section ZIN4
variable {G : ZG} {l : Launch}
set_option maxHeartbeats 4000000 in
theorem cx_init (E : ZE) (im : ZI) (hE : E.1 = 1) (hk : E.2.1 0 = (0, 7)) (ho : E.2.2 0 = fun _ => none) : zz_ON G l 5 mX7_init [.ref 0] E im 469 3702 (fun E' im' => zL E E' 0 470 zk_x zo_x ∧ zXi im') := by
  have hP0 : zL E E 0 1 zk_x (zXs 0) := ⟨hE, fun c hc => by
    have e : c = 0 := by omega
    subst e
    exact ⟨hk, by rw [show 0 + 0 = 0 from rfl, ho]; funext j; unfold zXs; rw [if_pos ⟨rfl, Nat.zero_le j⟩]⟩, fun _ _ => ⟨rfl, rfl⟩⟩
  refine zz_intro (isI := true) (by decide) rfl (Nat.le_of_ble_eq_true rfl) (fun _ => rfl) (fun w S => ?_)
  refine zz_aload_0 S dX7_init_0 (q := 1) rfl ?_
  -- at 1: invokespecial 1
  refine zz_obj S lX7_1 n_objIn n_objCo (Nat.le_of_ble_eq_true rfl) (Nat.le_of_ble_eq_true rfl) dX7_init_1 (q := 4) rfl ?_
  have hE0 := hE
  refine zz_aload_0 S dX7_init_4 (q := 5) rfl ?_
  -- at 5
  have hk1 : (zz_nE E (0, 5)).2.1 E.1 = (0, 5) := if_pos rfl
  have ho1 : (zz_nE E (0, 5)).2.2 E.1 = fun _ => none := if_pos rfl
  have hz1 : zz_nI E im 1 = fun _ => 0 := zz_nI_at (by omega)
  have hy1 : ∀ k, k < 1 → zz_nI E im k = im k := fun k hk => zz_nI_lt (by omega)
  refine zz_new S (c := 5) (by decide) nX7_7 n_inst5.1 n_inst5.2 (by omega) (fun _ => by show _ ≤ E.1 + 469; omega) (by decide) dX7_init_5 (q := 8) rfl ?_
  rw [hE0] at hk1 ho1 ⊢
  refine zz_dup S rfl dX7_init_8 (q := 9) rfl ?_
  -- at 9
  refine zz_initE S yy_X5_init lX7_9 (cx_stateInit 1 (zz_nE E (0, 5)) (zz_nI E im) (by show E.1 + 1 = _; omega) (by omega) hk1 ho1) rfl (Nat.le_of_ble_eq_true rfl) (fun _ => by show E.1 + 1 + 65 ≤ E.1 + 469; omega) (fun _ => by decide) (Nat.le_of_ble_eq_true rfl) rfl dX7_init_9 (q := 12) rfl (fun E1 im1 hF1 h1 => ?_)
  obtain ⟨h1, hq1⟩ := h1
  have hL1 : zL E E1 0 67 zk_x (zXs 0) := hP0.join h1 (fun c hc => (zXs_1 (a := 0) hc).1) (fun c hc => (zXs_1 (a := 0) hc).2)
  refine zz_putF S fX7_10 rfl (fun _ => ⟨rfl, rfl⟩) rfl rfl (hL1.lt (c := 0) (by omega)) (hL1.k (c := 0) (by omega) rfl) dX7_init_12 (q := 15) rfl ?_
  have hP1 := hL1.put (c := 0) (j := 0) (x := 1) (O' := zXs 1) (by omega) (fun c' _ j' => by
    unfold zXs
    by_cases e : c' = 0
    · subst e
      by_cases e2 : j' = 0
      · subst e2
        rfl
      · rw [if_neg (show ¬ (0 = 0 ∧ j' = 0) from fun q => e2 q.2)]
        by_cases e3 : 1 ≤ j'
        · rw [if_pos ⟨rfl, e3⟩, if_pos ⟨rfl, by omega⟩]
        · rw [if_neg (fun q => e3 q.2), if_neg (fun q => e3 (by omega))]
    · rw [if_neg (fun q => e q.1), if_neg (fun q => e q.1), if_neg (fun q => e q.1)])
  generalize (E1.1, E1.2.1, zz_ru E1.2.2 (0 + 0) 0 (some 1)) = F1 at hP1 ⊢
  have hE1 : F1.1 = 67 := by have := hP1.1; omega
  refine zz_aload_0 S dX7_init_15 (q := 16) rfl ?_
  -- at 16
  have hk2 : (zz_nE F1 (0, 2)).2.1 F1.1 = (0, 2) := if_pos rfl
  have ho2 : (zz_nE F1 (0, 2)).2.2 F1.1 = fun _ => none := if_pos rfl
  have hz2 : zz_nI F1 im1 67 = fun _ => 0 := zz_nI_at (by omega)
  have hy2 : ∀ k, k < 67 → zz_nI F1 im1 k = im1 k := fun k hk => zz_nI_lt (by omega)
  refine zz_new S (c := 2) (by decide) nX7_16 n_inst2.1 n_inst2.2 (by omega) (fun _ => by show _ ≤ E.1 + 469; omega) (by decide) dX7_init_16 (q := 19) rfl ?_
  rw [hE1] at hk2 ho2 ⊢
  refine zz_dup S rfl dX7_init_19 (q := 20) rfl ?_
  -- at 20
  refine zz_initE S yy_X2_init lX7_18 (cx_histInit 67 (zz_nE F1 (0, 2)) (zz_nI F1 im1) (by show F1.1 + 1 = _; omega) (by omega) hk2 ho2) rfl (Nat.le_of_ble_eq_true rfl) (fun _ => by show F1.1 + 1 + 397 ≤ E.1 + 469; omega) (fun _ => by decide) (Nat.le_of_ble_eq_true rfl) rfl dX7_init_20 (q := 23) rfl (fun E2 im2 hF2 h2 => ?_)
  obtain ⟨h2, hq2⟩ := h2
  have hL2 : zL E E2 0 465 zk_x (zXs 1) := hP1.join h2 (fun c hc => (zXs_2 (a := 0) hc).1) (fun c hc => (zXs_2 (a := 1) hc).2)
  refine zz_putF S fX7_19 rfl (fun _ => ⟨rfl, rfl⟩) rfl rfl (hL2.lt (c := 0) (by omega)) (hL2.k (c := 0) (by omega) rfl) dX7_init_23 (q := 26) rfl ?_
  have hP2 := hL2.put (c := 0) (j := 1) (x := 67) (O' := zXs 2) (by omega) (fun c' _ j' => by
    unfold zXs
    by_cases e : c' = 0
    · subst e
      by_cases e2 : j' = 1
      · subst e2
        rfl
      · rw [if_neg (show ¬ (0 = 0 ∧ j' = 1) from fun q => e2 q.2)]
        by_cases e3 : 2 ≤ j'
        · rw [if_pos ⟨rfl, e3⟩, if_pos ⟨rfl, by omega⟩]
        · rw [if_neg (fun q => e3 q.2), if_neg (fun q => e3 (by omega))]
    · rw [if_neg (fun q => e q.1), if_neg (fun q => e q.1), if_neg (fun q => e q.1)])
  generalize (E2.1, E2.2.1, zz_ru E2.2.2 (0 + 0) 1 (some 67)) = F2 at hP2 ⊢
  have hE2 : F2.1 = 465 := by have := hP2.1; omega
  refine zz_aload_0 S dX7_init_26 (q := 27) rfl ?_
  -- at 27
  have hk3 : (zz_nE F2 (0, 3)).2.1 F2.1 = (0, 3) := if_pos rfl
  have ho3 : (zz_nE F2 (0, 3)).2.2 F2.1 = fun _ => none := if_pos rfl
  have hz3 : zz_nI F2 im2 465 = fun _ => 0 := zz_nI_at (by omega)
  have hy3 : ∀ k, k < 465 → zz_nI F2 im2 k = im2 k := fun k hk => zz_nI_lt (by omega)
  refine zz_new S (c := 3) (by decide) nX7_23 n_inst3.1 n_inst3.2 (by omega) (fun _ => by show _ ≤ E.1 + 469; omega) (by decide) dX7_init_27 (q := 30) rfl ?_
  rw [hE2] at hk3 ho3 ⊢
  refine zz_dup S rfl dX7_init_30 (q := 31) rfl ?_
  -- at 31
  refine zz_initNE S yy_X3_init lX7_25 (cx_progInit 465 (zz_nE F2 (0, 3)) (zz_nI F2 im2) (by show F2.1 + 1 = _; omega) (by omega) hk3 ho3) rfl (Nat.le_of_ble_eq_true rfl) (fun _ => by show F2.1 + 1 + 2 ≤ E.1 + 469; omega) (fun _ => by decide) (Nat.le_of_ble_eq_true rfl) rfl dX7_init_31 (q := 34) rfl (fun E3 im3 hF3 h3 => ?_)
  obtain ⟨h3, hq3⟩ := h3
  have hL3 : zL E E3 0 468 zk_x (zXs 2) := hP2.join h3 (fun c hc => (zXs_3 (a := 0) hc).1) (fun c hc => (zXs_3 (a := 2) hc).2)
  refine zz_putF S fX7_26 rfl (fun _ => ⟨rfl, rfl⟩) rfl rfl (hL3.lt (c := 0) (by omega)) (hL3.k (c := 0) (by omega) rfl) dX7_init_34 (q := 37) rfl ?_
  have hP3 := hL3.put (c := 0) (j := 2) (x := 465) (O' := zXs 3) (by omega) (fun c' _ j' => by
    unfold zXs
    by_cases e : c' = 0
    · subst e
      by_cases e2 : j' = 2
      · subst e2
        rfl
      · rw [if_neg (show ¬ (0 = 0 ∧ j' = 2) from fun q => e2 q.2)]
        by_cases e3 : 3 ≤ j'
        · rw [if_pos ⟨rfl, e3⟩, if_pos ⟨rfl, by omega⟩]
        · rw [if_neg (fun q => e3 q.2), if_neg (fun q => e3 (by omega))]
    · rw [if_neg (fun q => e q.1), if_neg (fun q => e q.1), if_neg (fun q => e q.1)])
  generalize (E3.1, E3.2.1, zz_ru E3.2.2 (0 + 0) 2 (some 465)) = F3 at hP3 ⊢
  have hE3 : F3.1 = 468 := by have := hP3.1; omega
  refine zz_aload_0 S dX7_init_37 (q := 38) rfl ?_
  -- at 38
  have hk4 : (zz_nE F3 (0, 1)).2.1 F3.1 = (0, 1) := if_pos rfl
  have ho4 : (zz_nE F3 (0, 1)).2.2 F3.1 = fun _ => none := if_pos rfl
  have hz4 : zz_nI F3 im3 468 = fun _ => 0 := zz_nI_at (by omega)
  have hy4 : ∀ k, k < 468 → zz_nI F3 im3 k = im3 k := fun k hk => zz_nI_lt (by omega)
  refine zz_new S (c := 1) (by decide) nX7_30 n_inst1.1 n_inst1.2 (by omega) (fun _ => by show _ ≤ E.1 + 469; omega) (by decide) dX7_init_38 (q := 41) rfl ?_
  rw [hE3] at hk4 ho4 ⊢
  refine zz_dup S rfl dX7_init_41 (q := 42) rfl ?_
  -- at 42
  refine zz_initNE S yy_X1_init lX7_32 (cx_dialInit 468 (zz_nE F3 (0, 1)) (zz_nI F3 im3) (by show F3.1 + 1 = _; omega) (by omega) hk4 ho4) rfl (Nat.le_of_ble_eq_true rfl) (fun _ => by show F3.1 + 1 + 1 ≤ E.1 + 469; omega) (fun _ => by decide) (Nat.le_of_ble_eq_true rfl) rfl dX7_init_42 (q := 45) rfl (fun E4 im4 hF4 h4 => ?_)
  obtain ⟨h4, hq4⟩ := h4
  have hL4 : zL E E4 0 470 zk_x (zXs 3) := hP3.join h4 (fun c hc => (zXs_4 (a := 0) hc).1) (fun c hc => (zXs_4 (a := 3) hc).2)
  refine zz_putF S fX7_33 rfl (fun _ => ⟨rfl, rfl⟩) rfl rfl (hL4.lt (c := 0) (by omega)) (hL4.k (c := 0) (by omega) rfl) dX7_init_45 (q := 48) rfl ?_
  have hP4 := hL4.put (c := 0) (j := 3) (x := 468) (O' := zXs 4) (by omega) (fun c' _ j' => by
    unfold zXs
    by_cases e : c' = 0
    · subst e
      by_cases e2 : j' = 3
      · subst e2
        rfl
      · rw [if_neg (show ¬ (0 = 0 ∧ j' = 3) from fun q => e2 q.2)]
        by_cases e3 : 4 ≤ j'
        · rw [if_pos ⟨rfl, e3⟩, if_pos ⟨rfl, by omega⟩]
        · rw [if_neg (fun q => e3 q.2), if_neg (fun q => e3 (by omega))]
    · rw [if_neg (fun q => e q.1), if_neg (fun q => e q.1), if_neg (fun q => e q.1)])
  generalize (E4.1, E4.2.1, zz_ru E4.2.2 (0 + 0) 3 (some 468)) = F4 at hP4 ⊢
  have hE4 : F4.1 = 470 := by have := hP4.1; omega
  refine zz_aload_0 S dX7_init_48 (q := 49) rfl ?_
  refine zz_aload_0 S dX7_init_49 (q := 50) rfl ?_
  refine zz_getR S fX7_10 rfl (hP4.lt (c := 0) (by omega)) (hP4.k (c := 0) (by omega) rfl) (hP4.o (c := 0) (by omega) rfl) dX7_init_50 (q := 53) rfl ?_
  refine zz_getR S fX7_37 rfl (hP4.lt (c := 1) (by omega)) (hP4.k (c := 1) (by omega) rfl) (hP4.o (c := 1) (by omega) rfl) dX7_init_53 (q := 56) rfl ?_
  -- at 56
  refine zz_putF S fX7_41 rfl (fun _ => ⟨rfl, rfl⟩) rfl rfl (hP4.lt (c := 0) (by omega)) (hP4.k (c := 0) (by omega) rfl) dX7_init_56 (q := 59) rfl ?_
  have hP5 := hP4.put (c := 0) (j := 4) (x := 2) (O' := zXs 5) (by omega) (fun c' _ j' => by
    unfold zXs
    by_cases e : c' = 0
    · subst e
      by_cases e2 : j' = 4
      · subst e2
        rfl
      · rw [if_neg (show ¬ (0 = 0 ∧ j' = 4) from fun q => e2 q.2)]
        by_cases e3 : 5 ≤ j'
        · rw [if_pos ⟨rfl, e3⟩, if_pos ⟨rfl, by omega⟩]
        · rw [if_neg (fun q => e3 q.2), if_neg (fun q => e3 (by omega))]
    · rw [if_neg (fun q => e q.1), if_neg (fun q => e q.1), if_neg (fun q => e q.1)])
  generalize (F4.1, F4.2.1, zz_ru F4.2.2 (0 + 0) 4 (some 2)) = F5 at hP5 ⊢
  have o2 : ∀ k, k < 67 → im4 k = im1 k := fun k hk => by
    rw [hq4 k (by omega), hy4 k (by omega), hq3 k (by omega), hy3 k (by omega), hq2 k (by omega), hy2 k (by omega)]
  refine zz_vret S dX7_init_59 ⟨by show F5.1 = E.1 + 469; have := hP5.1; omega, rfl, hP5.cg (fun c hc j => ?_), ?_⟩
  · unfold zXs
    by_cases e : c = 0 ∧ 5 ≤ j
    · rw [if_pos e]
      obtain ⟨rfl, e⟩ := e
      unfold zo_x
      rw [if_pos rfl, if_neg (by omega), if_neg (by omega), if_neg (by omega), if_neg (by omega), if_neg (by omega)]
    · rw [if_neg e]
  · refine ⟨by rw [o2 2 (by omega)]; exact hq1.2.1, by rw [o2 4 (by omega)]; exact hq1.2.2.1, fun j hj => by rw [o2 5 (by omega)]; exact hq1.2.2.2.1 j hj, by rw [o2 24 (by omega)]; exact hq1.2.2.2.2, ?_, ?_⟩
    · rw [hq4 67 (by omega), hy4 67 (by omega), hq3 67 (by omega), hy3 67 (by omega), hq2 67 (by omega)]
      exact hz2
    · rw [hq4 465 (by omega), hy4 465 (by omega), hq3 465 (by omega)]
      exact hz3
def zMm (a c j : Nat) : Option Nat := if c = 0 ∧ a ≤ j then none else zo_m c j
def zS0 : ZSt := upd (upd (upd (upd (fun _ => 0) 4 2) 5 5) 6 10) 7 20
set_option maxHeartbeats 4000000 in
theorem co_init (E : ZE) (im : ZI) (hE : E.1 = 471) (hk : E.2.1 470 = (0, 8)) (ho : E.2.2 470 = fun _ => none) (hi : im 470 = fun _ => 0) : zz_ON G l 1 mX8_init [.ref 470] E im 8 4087 (fun E' im' => zL E E' 470 9 zk_m zo_m ∧ (∀ k, k < 470 → im' k = im k) ∧ im' 471 = zS0 ∧ ∀ j, im' 470 j = 0) := by
  have hP0 : zL E E 470 1 zk_m (zMm 0) := ⟨hE, fun c hc => by
    have e : c = 0 := by omega
    subst e
    exact ⟨hk, by rw [show 470 + 0 = 470 from rfl, ho]; funext j; unfold zMm; rw [if_pos ⟨rfl, Nat.zero_le j⟩]⟩, fun _ _ => ⟨rfl, rfl⟩⟩
  have hJ0 : (∀ k, k ≤ 470 → im k = im k) := fun _ _ => rfl
  have hE0 := hE
  refine zz_intro (isI := true) (by decide) rfl (Nat.le_of_ble_eq_true rfl) (fun _ => rfl) (fun w S => ?_)
  refine zz_aload_0 S dX8_init_0 (q := 1) rfl ?_
  -- at 1: invokespecial 1
  refine zz_obj S lX8_1 n_objIn n_objCo (Nat.le_of_ble_eq_true rfl) (Nat.le_of_ble_eq_true rfl) dX8_init_1 (q := 4) rfl ?_
  refine zz_aload_0 S dX8_init_4 (q := 5) rfl ?_
  refine zz_sipush S (v := 356) rfl dX8_init_5 (q := 8) rfl ?_
  -- at 8
  refine zz_newI S n_arrI (by decide) (N := 356) rfl (by decide) (by omega) (fun _ => by show _ ≤ E.1 + 8; omega) (by decide) dX8_init_8 (q := 10) rfl ?_
  have hL1 := hP0.new (kd := (1, 356)) rfl (by funext j; unfold zMm zo_m; (repeat' split) <;> first | rfl | (exfalso; omega))
  have hJ1 : ∀ k, k ≤ 470 → zz_nI E im k = im k := fun k hk => (zz_nI_lt (by omega)).trans (hJ0 k hk)
  have hz1 : zz_nI E im 471 = fun _ => 0 := zz_nI_at (by omega)
  rw [hE0]
  generalize zz_nE E (1, 356) = E1 at hL1 ⊢
  generalize zz_nI E im = im1 at hJ1 hz1 ⊢
  refine zz_putF S fX8_7 rfl (fun _ => ⟨rfl, rfl⟩) rfl rfl (hL1.lt (c := 0) (by omega)) (hL1.k (c := 0) (by omega) rfl) dX8_init_10 (q := 13) rfl ?_
  have hP1 : zL E _ 470 2 zk_m (zMm 2) := hL1.put (c := 0) (j := 1) (x := 471) (O' := zMm 2) (by omega) (fun c' _ j' => by
    unfold zMm
    by_cases e : c' = 0
    · subst e
      by_cases e2 : j' = 1
      · subst e2
        rfl
      · rw [if_neg (show ¬ (0 = 0 ∧ j' = 1) from fun q => e2 q.2)]
        by_cases e3 : 2 ≤ j'
        · rw [if_pos ⟨rfl, e3⟩, if_pos ⟨rfl, by omega⟩]
        · rw [if_neg (fun q => e3 q.2)]
          by_cases e4 : 0 ≤ j'
          · rw [if_pos ⟨rfl, e4⟩]
            rcases (show j' = 0 by omega) with rfl <;> rfl
          · rw [if_neg (fun q => e4 q.2)]
    · rw [if_neg (fun q => e q.1), if_neg (fun q => e q.1), if_neg (fun q => e q.1)])
  generalize (E1.1, E1.2.1, zz_ru E1.2.2 (470 + 0) 1 (some 471)) = F1 at hP1 ⊢
  have hE1 : F1.1 = 472 := by have := hP1.1; omega
  refine zz_aload_0 S dX8_init_13 (q := 14) rfl ?_
  refine zz_sipush S (v := 356) rfl dX8_init_14 (q := 17) rfl ?_
  -- at 17
  refine zz_newI S n_arrI (by decide) (N := 356) rfl (by decide) (by omega) (fun _ => by show _ ≤ E.1 + 8; omega) (by decide) dX8_init_17 (q := 19) rfl ?_
  have hL2 := hP1.new (kd := (1, 356)) rfl (by funext j; unfold zMm zo_m; (repeat' split) <;> first | rfl | (exfalso; omega))
  have hJ2 : ∀ k, k ≤ 470 → zz_nI F1 im1 k = im k := fun k hk => (zz_nI_lt (by omega)).trans (hJ1 k hk)
  have hz2 : zz_nI F1 im1 471 = fun _ => 0 := (zz_nI_lt (by omega)).trans hz1
  rw [hE1]
  generalize zz_nE F1 (1, 356) = E2 at hL2 ⊢
  generalize zz_nI F1 im1 = im2 at hJ2 hz2 ⊢
  refine zz_putF S fX8_13 rfl (fun _ => ⟨rfl, rfl⟩) rfl rfl (hL2.lt (c := 0) (by omega)) (hL2.k (c := 0) (by omega) rfl) dX8_init_19 (q := 22) rfl ?_
  have hP2 : zL E _ 470 3 zk_m (zMm 3) := hL2.put (c := 0) (j := 2) (x := 472) (O' := zMm 3) (by omega) (fun c' _ j' => by
    unfold zMm
    by_cases e : c' = 0
    · subst e
      by_cases e2 : j' = 2
      · subst e2
        rfl
      · rw [if_neg (show ¬ (0 = 0 ∧ j' = 2) from fun q => e2 q.2)]
        by_cases e3 : 3 ≤ j'
        · rw [if_pos ⟨rfl, e3⟩, if_pos ⟨rfl, by omega⟩]
        · rw [if_neg (fun q => e3 q.2)]
          by_cases e4 : 2 ≤ j'
          · rw [if_pos ⟨rfl, e4⟩]
            rcases (show False by omega) with ⟨⟩ <;> rfl
          · rw [if_neg (fun q => e4 q.2)]
    · rw [if_neg (fun q => e q.1), if_neg (fun q => e q.1), if_neg (fun q => e q.1)])
  generalize (E2.1, E2.2.1, zz_ru E2.2.2 (470 + 0) 2 (some 472)) = F2 at hP2 ⊢
  have hE2 : F2.1 = 473 := by have := hP2.1; omega
  refine zz_aload_0 S dX8_init_22 (q := 23) rfl ?_
  refine zz_sipush S (v := 1780) rfl dX8_init_23 (q := 26) rfl ?_
  -- at 26
  refine zz_newI S n_arrI (by decide) (N := 1780) rfl (by decide) (by omega) (fun _ => by show _ ≤ E.1 + 8; omega) (by decide) dX8_init_26 (q := 28) rfl ?_
  have hL3 := hP2.new (kd := (1, 1780)) rfl (by funext j; unfold zMm zo_m; (repeat' split) <;> first | rfl | (exfalso; omega))
  have hJ3 : ∀ k, k ≤ 470 → zz_nI F2 im2 k = im k := fun k hk => (zz_nI_lt (by omega)).trans (hJ2 k hk)
  have hz3 : zz_nI F2 im2 471 = fun _ => 0 := (zz_nI_lt (by omega)).trans hz2
  rw [hE2]
  generalize zz_nE F2 (1, 1780) = E3 at hL3 ⊢
  generalize zz_nI F2 im2 = im3 at hJ3 hz3 ⊢
  refine zz_putF S fX8_16 rfl (fun _ => ⟨rfl, rfl⟩) rfl rfl (hL3.lt (c := 0) (by omega)) (hL3.k (c := 0) (by omega) rfl) dX8_init_28 (q := 31) rfl ?_
  have hP3 : zL E _ 470 4 zk_m (zMm 4) := hL3.put (c := 0) (j := 3) (x := 473) (O' := zMm 4) (by omega) (fun c' _ j' => by
    unfold zMm
    by_cases e : c' = 0
    · subst e
      by_cases e2 : j' = 3
      · subst e2
        rfl
      · rw [if_neg (show ¬ (0 = 0 ∧ j' = 3) from fun q => e2 q.2)]
        by_cases e3 : 4 ≤ j'
        · rw [if_pos ⟨rfl, e3⟩, if_pos ⟨rfl, by omega⟩]
        · rw [if_neg (fun q => e3 q.2)]
          by_cases e4 : 3 ≤ j'
          · rw [if_pos ⟨rfl, e4⟩]
            rcases (show False by omega) with ⟨⟩ <;> rfl
          · rw [if_neg (fun q => e4 q.2)]
    · rw [if_neg (fun q => e q.1), if_neg (fun q => e q.1), if_neg (fun q => e q.1)])
  generalize (E3.1, E3.2.1, zz_ru E3.2.2 (470 + 0) 3 (some 473)) = F3 at hP3 ⊢
  have hE3 : F3.1 = 474 := by have := hP3.1; omega
  refine zz_aload_0 S dX8_init_31 (q := 32) rfl ?_
  refine zz_sipush S (v := 140) rfl dX8_init_32 (q := 35) rfl ?_
  -- at 35
  refine zz_newI S n_arrI (by decide) (N := 140) rfl (by decide) (by omega) (fun _ => by show _ ≤ E.1 + 8; omega) (by decide) dX8_init_35 (q := 37) rfl ?_
  have hL4 := hP3.new (kd := (1, 140)) rfl (by funext j; unfold zMm zo_m; (repeat' split) <;> first | rfl | (exfalso; omega))
  have hJ4 : ∀ k, k ≤ 470 → zz_nI F3 im3 k = im k := fun k hk => (zz_nI_lt (by omega)).trans (hJ3 k hk)
  have hz4 : zz_nI F3 im3 471 = fun _ => 0 := (zz_nI_lt (by omega)).trans hz3
  rw [hE3]
  generalize zz_nE F3 (1, 140) = E4 at hL4 ⊢
  generalize zz_nI F3 im3 = im4 at hJ4 hz4 ⊢
  refine zz_putF S fX8_19 rfl (fun _ => ⟨rfl, rfl⟩) rfl rfl (hL4.lt (c := 0) (by omega)) (hL4.k (c := 0) (by omega) rfl) dX8_init_37 (q := 40) rfl ?_
  have hP4 : zL E _ 470 5 zk_m (zMm 6) := hL4.put (c := 0) (j := 5) (x := 474) (O' := zMm 6) (by omega) (fun c' _ j' => by
    unfold zMm
    by_cases e : c' = 0
    · subst e
      by_cases e2 : j' = 5
      · subst e2
        rfl
      · rw [if_neg (show ¬ (0 = 0 ∧ j' = 5) from fun q => e2 q.2)]
        by_cases e3 : 6 ≤ j'
        · rw [if_pos ⟨rfl, e3⟩, if_pos ⟨rfl, by omega⟩]
        · rw [if_neg (fun q => e3 q.2)]
          by_cases e4 : 4 ≤ j'
          · rw [if_pos ⟨rfl, e4⟩]
            rcases (show j' = 4 by omega) with rfl <;> rfl
          · rw [if_neg (fun q => e4 q.2)]
    · rw [if_neg (fun q => e q.1), if_neg (fun q => e q.1), if_neg (fun q => e q.1)])
  generalize (E4.1, E4.2.1, zz_ru E4.2.2 (470 + 0) 5 (some 474)) = F4 at hP4 ⊢
  have hE4 : F4.1 = 475 := by have := hP4.1; omega
  refine zz_aload_0 S dX8_init_40 (q := 41) rfl ?_
  refine zz_iconst S (v := 3) rfl dX8_init_41 (q := 42) rfl ?_
  -- at 42
  refine zz_newI S n_arrI (by decide) (N := 3) rfl (by decide) (by omega) (fun _ => by show _ ≤ E.1 + 8; omega) (by decide) dX8_init_42 (q := 44) rfl ?_
  have hL5 := hP4.new (kd := (1, 3)) rfl (by funext j; unfold zMm zo_m; (repeat' split) <;> first | rfl | (exfalso; omega))
  have hJ5 : ∀ k, k ≤ 470 → zz_nI F4 im4 k = im k := fun k hk => (zz_nI_lt (by omega)).trans (hJ4 k hk)
  have hz5 : zz_nI F4 im4 471 = fun _ => 0 := (zz_nI_lt (by omega)).trans hz4
  rw [hE4]
  generalize zz_nE F4 (1, 3) = E5 at hL5 ⊢
  generalize zz_nI F4 im4 = im5 at hJ5 hz5 ⊢
  refine zz_putF S fX8_22 rfl (fun _ => ⟨rfl, rfl⟩) rfl rfl (hL5.lt (c := 0) (by omega)) (hL5.k (c := 0) (by omega) rfl) dX8_init_44 (q := 47) rfl ?_
  have hP5 : zL E _ 470 6 zk_m (zMm 8) := hL5.put (c := 0) (j := 7) (x := 475) (O' := zMm 8) (by omega) (fun c' _ j' => by
    unfold zMm
    by_cases e : c' = 0
    · subst e
      by_cases e2 : j' = 7
      · subst e2
        rfl
      · rw [if_neg (show ¬ (0 = 0 ∧ j' = 7) from fun q => e2 q.2)]
        by_cases e3 : 8 ≤ j'
        · rw [if_pos ⟨rfl, e3⟩, if_pos ⟨rfl, by omega⟩]
        · rw [if_neg (fun q => e3 q.2)]
          by_cases e4 : 6 ≤ j'
          · rw [if_pos ⟨rfl, e4⟩]
            rcases (show j' = 6 by omega) with rfl <;> rfl
          · rw [if_neg (fun q => e4 q.2)]
    · rw [if_neg (fun q => e q.1), if_neg (fun q => e q.1), if_neg (fun q => e q.1)])
  generalize (E5.1, E5.2.1, zz_ru E5.2.2 (470 + 0) 7 (some 475)) = F5 at hP5 ⊢
  have hE5 : F5.1 = 476 := by have := hP5.1; omega
  refine zz_aload_0 S dX8_init_47 (q := 48) rfl ?_
  refine zz_sipush S (v := 721) rfl dX8_init_48 (q := 51) rfl ?_
  -- at 51
  refine zz_newI S n_arrI (by decide) (N := 721) rfl (by decide) (by omega) (fun _ => by show _ ≤ E.1 + 8; omega) (by decide) dX8_init_51 (q := 53) rfl ?_
  have hL6 := hP5.new (kd := (1, 721)) rfl (by funext j; unfold zMm zo_m; (repeat' split) <;> first | rfl | (exfalso; omega))
  have hJ6 : ∀ k, k ≤ 470 → zz_nI F5 im5 k = im k := fun k hk => (zz_nI_lt (by omega)).trans (hJ5 k hk)
  have hz6 : zz_nI F5 im5 471 = fun _ => 0 := (zz_nI_lt (by omega)).trans hz5
  rw [hE5]
  generalize zz_nE F5 (1, 721) = E6 at hL6 ⊢
  generalize zz_nI F5 im5 = im6 at hJ6 hz6 ⊢
  refine zz_putF S fX8_25 rfl (fun _ => ⟨rfl, rfl⟩) rfl rfl (hL6.lt (c := 0) (by omega)) (hL6.k (c := 0) (by omega) rfl) dX8_init_53 (q := 56) rfl ?_
  have hP6 : zL E _ 470 7 zk_m (zMm 9) := hL6.put (c := 0) (j := 8) (x := 476) (O' := zMm 9) (by omega) (fun c' _ j' => by
    unfold zMm
    by_cases e : c' = 0
    · subst e
      by_cases e2 : j' = 8
      · subst e2
        rfl
      · rw [if_neg (show ¬ (0 = 0 ∧ j' = 8) from fun q => e2 q.2)]
        by_cases e3 : 9 ≤ j'
        · rw [if_pos ⟨rfl, e3⟩, if_pos ⟨rfl, by omega⟩]
        · rw [if_neg (fun q => e3 q.2)]
          by_cases e4 : 8 ≤ j'
          · rw [if_pos ⟨rfl, e4⟩]
            rcases (show False by omega) with ⟨⟩ <;> rfl
          · rw [if_neg (fun q => e4 q.2)]
    · rw [if_neg (fun q => e q.1), if_neg (fun q => e q.1), if_neg (fun q => e q.1)])
  generalize (E6.1, E6.2.1, zz_ru E6.2.2 (470 + 0) 8 (some 476)) = F6 at hP6 ⊢
  have hE6 : F6.1 = 477 := by have := hP6.1; omega
  refine zz_aload_0 S dX8_init_56 (q := 57) rfl ?_
  refine zz_sipush S (v := 721) rfl dX8_init_57 (q := 60) rfl ?_
  -- at 60
  refine zz_newZ S n_arrZ (by decide) (N := 721) rfl (by decide) (by omega) (fun _ => by show _ ≤ E.1 + 8; omega) (by decide) dX8_init_60 (q := 62) rfl ?_
  have hL7 := hP6.new (kd := (2, 721)) rfl (by funext j; unfold zMm zo_m; (repeat' split) <;> first | rfl | (exfalso; omega))
  have hJ7 : ∀ k, k ≤ 470 → zz_nI F6 im6 k = im k := fun k hk => (zz_nI_lt (by omega)).trans (hJ6 k hk)
  have hz7 : zz_nI F6 im6 471 = fun _ => 0 := (zz_nI_lt (by omega)).trans hz6
  rw [hE6]
  generalize zz_nE F6 (2, 721) = E7 at hL7 ⊢
  generalize zz_nI F6 im6 = im7 at hJ7 hz7 ⊢
  refine zz_putF S fX8_28 rfl (fun _ => ⟨rfl, rfl⟩) rfl rfl (hL7.lt (c := 0) (by omega)) (hL7.k (c := 0) (by omega) rfl) dX8_init_62 (q := 65) rfl ?_
  have hP7 : zL E _ 470 8 zk_m (zMm 10) := hL7.put (c := 0) (j := 9) (x := 477) (O' := zMm 10) (by omega) (fun c' _ j' => by
    unfold zMm
    by_cases e : c' = 0
    · subst e
      by_cases e2 : j' = 9
      · subst e2
        rfl
      · rw [if_neg (show ¬ (0 = 0 ∧ j' = 9) from fun q => e2 q.2)]
        by_cases e3 : 10 ≤ j'
        · rw [if_pos ⟨rfl, e3⟩, if_pos ⟨rfl, by omega⟩]
        · rw [if_neg (fun q => e3 q.2)]
          by_cases e4 : 9 ≤ j'
          · rw [if_pos ⟨rfl, e4⟩]
            rcases (show False by omega) with ⟨⟩ <;> rfl
          · rw [if_neg (fun q => e4 q.2)]
    · rw [if_neg (fun q => e q.1), if_neg (fun q => e q.1), if_neg (fun q => e q.1)])
  generalize (E7.1, E7.2.1, zz_ru E7.2.2 (470 + 0) 9 (some 477)) = F7 at hP7 ⊢
  have hE7 : F7.1 = 478 := by have := hP7.1; omega
  refine zz_aload_0 S dX8_init_65 (q := 66) rfl ?_
  refine zz_bipush S (v := 10) rfl dX8_init_66 (q := 68) rfl ?_
  -- at 68
  refine zz_newI S n_arrI (by decide) (N := 10) rfl (by decide) (by omega) (fun _ => by show _ ≤ E.1 + 8; omega) (by decide) dX8_init_68 (q := 70) rfl ?_
  have hL8 := hP7.new (kd := (1, 10)) rfl (by funext j; unfold zMm zo_m; (repeat' split) <;> first | rfl | (exfalso; omega))
  have hJ8 : ∀ k, k ≤ 470 → zz_nI F7 im7 k = im k := fun k hk => (zz_nI_lt (by omega)).trans (hJ7 k hk)
  have hz8 : zz_nI F7 im7 471 = fun _ => 0 := (zz_nI_lt (by omega)).trans hz7
  rw [hE7]
  generalize zz_nE F7 (1, 10) = E8 at hL8 ⊢
  generalize zz_nI F7 im7 = im8 at hJ8 hz8 ⊢
  refine zz_putF S fX8_32 rfl (fun _ => ⟨rfl, rfl⟩) rfl rfl (hL8.lt (c := 0) (by omega)) (hL8.k (c := 0) (by omega) rfl) dX8_init_70 (q := 73) rfl ?_
  have hP8 : zL E _ 470 9 zk_m (zMm 11) := hL8.put (c := 0) (j := 10) (x := 478) (O' := zMm 11) (by omega) (fun c' _ j' => by
    unfold zMm
    by_cases e : c' = 0
    · subst e
      by_cases e2 : j' = 10
      · subst e2
        rfl
      · rw [if_neg (show ¬ (0 = 0 ∧ j' = 10) from fun q => e2 q.2)]
        by_cases e3 : 11 ≤ j'
        · rw [if_pos ⟨rfl, e3⟩, if_pos ⟨rfl, by omega⟩]
        · rw [if_neg (fun q => e3 q.2)]
          by_cases e4 : 10 ≤ j'
          · rw [if_pos ⟨rfl, e4⟩]
            rcases (show False by omega) with ⟨⟩ <;> rfl
          · rw [if_neg (fun q => e4 q.2)]
    · rw [if_neg (fun q => e q.1), if_neg (fun q => e q.1), if_neg (fun q => e q.1)])
  generalize (E8.1, E8.2.1, zz_ru E8.2.2 (470 + 0) 10 (some 478)) = F8 at hP8 ⊢
  have hE8 : F8.1 = 479 := by have := hP8.1; omega
  refine zz_aload_0 S dX8_init_73 (q := 74) rfl ?_
  refine zz_iconst S (v := 0) rfl dX8_init_74 (q := 75) rfl ?_
  refine zz_putI S fX8_35 rfl rfl (hP8.lt (c := 0) (by omega)) (hP8.k (c := 0) (by omega) rfl) dX8_init_75 (q := 78) rfl ?_
  refine zz_aload_0 S dX8_init_78 (q := 79) rfl ?_
  refine zz_getR S fX8_7 rfl (hP8.lt (c := 0) (by omega)) (hP8.k (c := 0) (by omega) rfl) (hP8.o (c := 0) (by omega) rfl) dX8_init_79 (q := 82) rfl ?_
  refine zz_iconst S (v := 4) rfl dX8_init_82 (q := 83) rfl ?_
  refine zz_iconst S (v := 2) rfl dX8_init_83 (q := 84) rfl ?_
  refine zz_iaS S (j := 4) (hP8.lt (c := 1) (by omega)) (hP8.k (c := 1) (by omega) rfl) (by decide) rfl (by decide) dX8_init_84 (q := 85) rfl ?_
  refine zz_aload_0 S dX8_init_85 (q := 86) rfl ?_
  refine zz_getR S fX8_7 rfl (hP8.lt (c := 0) (by omega)) (hP8.k (c := 0) (by omega) rfl) (hP8.o (c := 0) (by omega) rfl) dX8_init_86 (q := 89) rfl ?_
  refine zz_iconst S (v := 5) rfl dX8_init_89 (q := 90) rfl ?_
  refine zz_iconst S (v := 5) rfl dX8_init_90 (q := 91) rfl ?_
  refine zz_iaS S (j := 5) (hP8.lt (c := 1) (by omega)) (hP8.k (c := 1) (by omega) rfl) (by decide) rfl (by decide) dX8_init_91 (q := 92) rfl ?_
  refine zz_aload_0 S dX8_init_92 (q := 93) rfl ?_
  refine zz_getR S fX8_7 rfl (hP8.lt (c := 0) (by omega)) (hP8.k (c := 0) (by omega) rfl) (hP8.o (c := 0) (by omega) rfl) dX8_init_93 (q := 96) rfl ?_
  refine zz_bipush S (v := 6) rfl dX8_init_96 (q := 98) rfl ?_
  refine zz_bipush S (v := 10) rfl dX8_init_98 (q := 100) rfl ?_
  refine zz_iaS S (j := 6) (hP8.lt (c := 1) (by omega)) (hP8.k (c := 1) (by omega) rfl) (by decide) rfl (by decide) dX8_init_100 (q := 101) rfl ?_
  refine zz_aload_0 S dX8_init_101 (q := 102) rfl ?_
  refine zz_getR S fX8_7 rfl (hP8.lt (c := 0) (by omega)) (hP8.k (c := 0) (by omega) rfl) (hP8.o (c := 0) (by omega) rfl) dX8_init_102 (q := 105) rfl ?_
  refine zz_bipush S (v := 7) rfl dX8_init_105 (q := 107) rfl ?_
  refine zz_bipush S (v := 20) rfl dX8_init_107 (q := 109) rfl ?_
  refine zz_iaS S (j := 7) (hP8.lt (c := 1) (by omega)) (hP8.k (c := 1) (by omega) rfl) (by decide) rfl (by decide) dX8_init_109 (q := 110) rfl ?_
  -- at 110
  refine zz_vret S dX8_init_110 ⟨by show F8.1 = E.1 + 8; omega, rfl, hP8.cg (fun c hc j => ?_), fun k hk => ?_, ?_, fun j => ?_⟩
  · unfold zMm
    by_cases e : c = 0 ∧ 11 ≤ j
    · rw [if_pos e]
      obtain ⟨rfl, e⟩ := e
      unfold zo_m
      rw [if_pos rfl, if_neg (by omega), if_neg (by omega), if_neg (by omega), if_neg (by omega), if_neg (by omega), if_neg (by omega), if_neg (by omega), if_neg (by omega)]
    · rw [if_neg e]
  · rw [zz_u_off _ _ _ _ (by omega), zz_u_off _ _ _ _ (by omega), zz_u_off _ _ _ _ (by omega), zz_u_off _ _ _ _ (by omega), zz_u_off _ _ _ _ (by omega)]
    exact hJ8 k (by omega)
  · rw [zz_u_row, zz_u_row, zz_u_row, zz_u_row, zz_u_off _ _ _ _ (by decide), hz8]
    rfl
  · rw [zz_u_off _ _ _ _ (by decide), zz_u_off _ _ _ _ (by decide), zz_u_off _ _ _ _ (by decide), zz_u_off _ _ _ _ (by decide)]
    by_cases e : j = 0
    · rw [e, zz_u_e]
    · rw [zz_u_n _ _ (Or.inr e), hJ8 470 (Nat.le_refl _), hi]
end ZIN4
