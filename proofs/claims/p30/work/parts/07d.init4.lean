/-! CONSTRUCTORS: the class, the reference -/
def zXs (a c j : Nat) : Option Nat := if c = 0 ∧ a ≤ j then none else zo_x c j
def zXi (im : ZI) : Prop := (im 2 = fun _ => 0) ∧ (im 4 = fun _ => 0) ∧ (∀ j, j < 4 → im 5 j = (zz_st 2).getD j 0) ∧ (im 24 = fun _ => 0) ∧ (im 67 = fun _ => 0) ∧ im 465 = fun _ => 0
theorem zXs_1 {a c : Nat} (hc : c < 66) : zk_x (1 + c) = zk_state c ∧ zXs a (1 + c) = zo_state 1 c := by
  refine ⟨?_, ?_⟩
  · unfold zk_x
    rw [if_neg (by omega), if_pos (by omega), show 1 + c - 1 = c by omega]
  · funext j
    unfold zXs zo_x
    rw [if_neg (by omega), if_neg (by omega), if_pos (by omega), show 1 + c - 1 = c by omega]
theorem zXs_2 {a c : Nat} (hc : c < 398) : zk_x (67 + c) = zHk c ∧ zXs a (67 + c) = zHo 67 1 6 c := by
  rcases (show c = 0 ∨ c = 1 ∨ 2 ≤ c by omega) with rfl | rfl | h2
  · refine ⟨rfl, ?_⟩
    funext j
    show (if j = 0 then some 68 else none) = (if j < 1 then some (67 + 1) else none)
    by_cases e : j = 0
    · rw [if_pos e, if_pos (by omega)]
    · rw [if_neg e, if_neg (by omega)]
  · refine ⟨rfl, ?_⟩
    funext j
    show (if j < 6 then some (69 + 66 * j) else none) = (if j < 6 then some (67 + 2 + 66 * j) else none)
    rfl
  · refine ⟨?_, ?_⟩
    · unfold zk_x zHk
      rw [if_neg (by omega), if_neg (by omega), if_neg (by omega), if_neg (by omega), if_pos (by omega), if_neg (by omega), if_neg (by omega), show 67 + c - 69 = c - 2 by omega]
    · funext j
      unfold zXs zo_x zHo
      rw [if_neg (by omega), if_neg (by omega), if_neg (by omega), if_neg (by omega), if_neg (by omega), if_pos (by omega), if_neg (by omega), if_neg (by omega), show 67 + c - 69 = c - 2 by omega]
theorem zXs_3 {a c : Nat} (hc : c < 3) : zk_x (465 + c) = zPk c ∧ zXs a (465 + c) = zPo 465 2 c := by
  rcases (show c = 0 ∨ c = 1 ∨ c = 2 by omega) with rfl | rfl | rfl
  · refine ⟨rfl, ?_⟩
    funext j
    show (if j = 0 then some 466 else if j = 1 then some 467 else none) = (if j < 2 then some (465 + 1 + j) else none)
    rcases (show j = 0 ∨ j = 1 ∨ 2 ≤ j by omega) with rfl | rfl | h
    · rfl
    · rfl
    · rw [if_neg (by omega), if_neg (by omega), if_neg (by omega)]
  · exact ⟨rfl, rfl⟩
  · exact ⟨rfl, rfl⟩
theorem zXs_4 {a c : Nat} (hc : c < 2) : zk_x (468 + c) = zDk c ∧ zXs a (468 + c) = zDo 468 1 c := by
  rcases (show c = 0 ∨ c = 1 by omega) with rfl | rfl
  · refine ⟨rfl, ?_⟩
    funext j
    show (if j = 0 then some 469 else none) = (if j < 1 then some (468 + 1) else none)
    by_cases e : j = 0
    · rw [if_pos e, if_pos (by omega)]
    · rw [if_neg e, if_neg (by omega)]
  · exact ⟨rfl, rfl⟩
section ZIN4
variable {G : ZG} {l : Launch}
set_option maxHeartbeats 4000000 in
theorem cx_init (E : ZE) (im : ZI) (hE : E.1 = 1) (hk : E.2.1 0 = (0, 7)) (ho : E.2.2 0 = fun _ => none) : zz_ON G l 5 mX7_init [.ref 0] E im 469 3702 (fun E' im' => zL E E' 0 470 zk_x zo_x ∧ zXi im') := by
  have hP0 : zL E E 0 1 zk_x (zXs 0) := ⟨hE, fun c hc => by
    have e : c = 0 := by omega
    subst e
    exact ⟨hk, by rw [show 0 + 0 = 0 from rfl, ho]; funext j; unfold zXs; rw [if_pos ⟨rfl, Nat.zero_le j⟩]⟩, fun _ _ => ⟨rfl, rfl⟩⟩
  refine zz_intro (isI := true) (by decide) rfl (Nat.le_of_ble_eq_true rfl) (fun _ => rfl) (fun w S => ?_)
  refine zz_aload_0 S dX7_init_0 (q := 1) rfl ?_
  -- at 1: invokespecial 1
  refine zz_obj S lX7_1 n_objIn n_objCo (Nat.le_of_ble_eq_true rfl) (Nat.le_of_ble_eq_true rfl) dX7_init_1 (q := 4) rfl ?_
  have hE0 := hE
  refine zz_aload_0 S dX7_init_4 (q := 5) rfl ?_
  -- at 5
  have hk1 : (zz_nE E (0, 5)).2.1 E.1 = (0, 5) := if_pos rfl
  have ho1 : (zz_nE E (0, 5)).2.2 E.1 = fun _ => none := if_pos rfl
  have hz1 : zz_nI E im 1 = fun _ => 0 := zz_nI_at (by omega)
  have hy1 : ∀ k, k < 1 → zz_nI E im k = im k := fun k hk => zz_nI_lt (by omega)
  refine zz_new S (c := 5) (by decide) nX7_7 n_inst5.1 n_inst5.2 (by omega) (fun _ => by show _ ≤ E.1 + 469; omega) (by decide) dX7_init_5 (q := 8) rfl ?_
  rw [hE0] at hk1 ho1 ⊢
  refine zz_dup S rfl dX7_init_8 (q := 9) rfl ?_
  -- at 9
  refine zz_initE S yy_X5_init lX7_9 (cx_stateInit 1 (zz_nE E (0, 5)) (zz_nI E im) (by show E.1 + 1 = _; omega) (by omega) hk1 ho1) rfl (Nat.le_of_ble_eq_true rfl) (fun _ => by show E.1 + 1 + 65 ≤ E.1 + 469; omega) (fun _ => by decide) (Nat.le_of_ble_eq_true rfl) rfl dX7_init_9 (q := 12) rfl (fun E1 im1 hF1 h1 => ?_)
  obtain ⟨h1, hq1⟩ := h1
  have hL1 : zL E E1 0 67 zk_x (zXs 0) := hP0.join h1 (fun c hc => (zXs_1 (a := 0) hc).1) (fun c hc => (zXs_1 (a := 0) hc).2)
  refine zz_putF S fX7_10 rfl (fun _ => ⟨rfl, rfl⟩) rfl rfl (hL1.lt (c := 0) (by omega)) (hL1.k (c := 0) (by omega) rfl) dX7_init_12 (q := 15) rfl ?_
  have hP1 := hL1.put (c := 0) (j := 0) (x := 1) (O' := zXs 1) (by omega) (fun c' _ j' => by
    unfold zXs
    by_cases e : c' = 0
    · subst e
      by_cases e2 : j' = 0
      · subst e2
        rfl
      · rw [if_neg (show ¬ (0 = 0 ∧ j' = 0) from fun q => e2 q.2)]
        by_cases e3 : 1 ≤ j'
        · rw [if_pos ⟨rfl, e3⟩, if_pos ⟨rfl, by omega⟩]
        · rw [if_neg (fun q => e3 q.2), if_neg (fun q => e3 (by omega))]
    · rw [if_neg (fun q => e q.1), if_neg (fun q => e q.1), if_neg (fun q => e q.1)])
  generalize (E1.1, E1.2.1, zz_ru E1.2.2 (0 + 0) 0 (some 1)) = F1 at hP1 ⊢
  have hE1 : F1.1 = 67 := by have := hP1.1; omega
  refine zz_aload_0 S dX7_init_15 (q := 16) rfl ?_
  -- at 16
  have hk2 : (zz_nE F1 (0, 2)).2.1 F1.1 = (0, 2) := if_pos rfl
  have ho2 : (zz_nE F1 (0, 2)).2.2 F1.1 = fun _ => none := if_pos rfl
  have hz2 : zz_nI F1 im1 67 = fun _ => 0 := zz_nI_at (by omega)
  have hy2 : ∀ k, k < 67 → zz_nI F1 im1 k = im1 k := fun k hk => zz_nI_lt (by omega)
  refine zz_new S (c := 2) (by decide) nX7_16 n_inst2.1 n_inst2.2 (by omega) (fun _ => by show _ ≤ E.1 + 469; omega) (by decide) dX7_init_16 (q := 19) rfl ?_
  rw [hE1] at hk2 ho2 ⊢
  refine zz_dup S rfl dX7_init_19 (q := 20) rfl ?_
  -- at 20
  refine zz_initE S yy_X2_init lX7_18 (cx_histInit 67 (zz_nE F1 (0, 2)) (zz_nI F1 im1) (by show F1.1 + 1 = _; omega) (by omega) hk2 ho2) rfl (Nat.le_of_ble_eq_true rfl) (fun _ => by show F1.1 + 1 + 397 ≤ E.1 + 469; omega) (fun _ => by decide) (Nat.le_of_ble_eq_true rfl) rfl dX7_init_20 (q := 23) rfl (fun E2 im2 hF2 h2 => ?_)
  obtain ⟨h2, hq2⟩ := h2
  have hL2 : zL E E2 0 465 zk_x (zXs 1) := hP1.join h2 (fun c hc => (zXs_2 (a := 0) hc).1) (fun c hc => (zXs_2 (a := 1) hc).2)
  refine zz_putF S fX7_19 rfl (fun _ => ⟨rfl, rfl⟩) rfl rfl (hL2.lt (c := 0) (by omega)) (hL2.k (c := 0) (by omega) rfl) dX7_init_23 (q := 26) rfl ?_
  have hP2 := hL2.put (c := 0) (j := 1) (x := 67) (O' := zXs 2) (by omega) (fun c' _ j' => by
    unfold zXs
    by_cases e : c' = 0
    · subst e
      by_cases e2 : j' = 1
      · subst e2
        rfl
      · rw [if_neg (show ¬ (0 = 0 ∧ j' = 1) from fun q => e2 q.2)]
        by_cases e3 : 2 ≤ j'
        · rw [if_pos ⟨rfl, e3⟩, if_pos ⟨rfl, by omega⟩]
        · rw [if_neg (fun q => e3 q.2), if_neg (fun q => e3 (by omega))]
    · rw [if_neg (fun q => e q.1), if_neg (fun q => e q.1), if_neg (fun q => e q.1)])
  generalize (E2.1, E2.2.1, zz_ru E2.2.2 (0 + 0) 1 (some 67)) = F2 at hP2 ⊢
  have hE2 : F2.1 = 465 := by have := hP2.1; omega
  refine zz_aload_0 S dX7_init_26 (q := 27) rfl ?_
  -- at 27
  have hk3 : (zz_nE F2 (0, 3)).2.1 F2.1 = (0, 3) := if_pos rfl
  have ho3 : (zz_nE F2 (0, 3)).2.2 F2.1 = fun _ => none := if_pos rfl
  have hz3 : zz_nI F2 im2 465 = fun _ => 0 := zz_nI_at (by omega)
  have hy3 : ∀ k, k < 465 → zz_nI F2 im2 k = im2 k := fun k hk => zz_nI_lt (by omega)
  refine zz_new S (c := 3) (by decide) nX7_23 n_inst3.1 n_inst3.2 (by omega) (fun _ => by show _ ≤ E.1 + 469; omega) (by decide) dX7_init_27 (q := 30) rfl ?_
  rw [hE2] at hk3 ho3 ⊢
  refine zz_dup S rfl dX7_init_30 (q := 31) rfl ?_
  -- at 31
  refine zz_initNE S yy_X3_init lX7_25 (cx_progInit 465 (zz_nE F2 (0, 3)) (zz_nI F2 im2) (by show F2.1 + 1 = _; omega) (by omega) hk3 ho3) rfl (Nat.le_of_ble_eq_true rfl) (fun _ => by show F2.1 + 1 + 2 ≤ E.1 + 469; omega) (fun _ => by decide) (Nat.le_of_ble_eq_true rfl) rfl dX7_init_31 (q := 34) rfl (fun E3 im3 hF3 h3 => ?_)
  obtain ⟨h3, hq3⟩ := h3
  have hL3 : zL E E3 0 468 zk_x (zXs 2) := hP2.join h3 (fun c hc => (zXs_3 (a := 0) hc).1) (fun c hc => (zXs_3 (a := 2) hc).2)
  refine zz_putF S fX7_26 rfl (fun _ => ⟨rfl, rfl⟩) rfl rfl (hL3.lt (c := 0) (by omega)) (hL3.k (c := 0) (by omega) rfl) dX7_init_34 (q := 37) rfl ?_
  have hP3 := hL3.put (c := 0) (j := 2) (x := 465) (O' := zXs 3) (by omega) (fun c' _ j' => by
    unfold zXs
    by_cases e : c' = 0
    · subst e
      by_cases e2 : j' = 2
      · subst e2
        rfl
      · rw [if_neg (show ¬ (0 = 0 ∧ j' = 2) from fun q => e2 q.2)]
        by_cases e3 : 3 ≤ j'
        · rw [if_pos ⟨rfl, e3⟩, if_pos ⟨rfl, by omega⟩]
        · rw [if_neg (fun q => e3 q.2), if_neg (fun q => e3 (by omega))]
    · rw [if_neg (fun q => e q.1), if_neg (fun q => e q.1), if_neg (fun q => e q.1)])
  generalize (E3.1, E3.2.1, zz_ru E3.2.2 (0 + 0) 2 (some 465)) = F3 at hP3 ⊢
  have hE3 : F3.1 = 468 := by have := hP3.1; omega
  refine zz_aload_0 S dX7_init_37 (q := 38) rfl ?_
  -- at 38
  have hk4 : (zz_nE F3 (0, 1)).2.1 F3.1 = (0, 1) := if_pos rfl
  have ho4 : (zz_nE F3 (0, 1)).2.2 F3.1 = fun _ => none := if_pos rfl
  have hz4 : zz_nI F3 im3 468 = fun _ => 0 := zz_nI_at (by omega)
  have hy4 : ∀ k, k < 468 → zz_nI F3 im3 k = im3 k := fun k hk => zz_nI_lt (by omega)
  refine zz_new S (c := 1) (by decide) nX7_30 n_inst1.1 n_inst1.2 (by omega) (fun _ => by show _ ≤ E.1 + 469; omega) (by decide) dX7_init_38 (q := 41) rfl ?_
  rw [hE3] at hk4 ho4 ⊢
  refine zz_dup S rfl dX7_init_41 (q := 42) rfl ?_
  -- at 42
  refine zz_initNE S yy_X1_init lX7_32 (cx_dialInit 468 (zz_nE F3 (0, 1)) (zz_nI F3 im3) (by show F3.1 + 1 = _; omega) (by omega) hk4 ho4) rfl (Nat.le_of_ble_eq_true rfl) (fun _ => by show F3.1 + 1 + 1 ≤ E.1 + 469; omega) (fun _ => by decide) (Nat.le_of_ble_eq_true rfl) rfl dX7_init_42 (q := 45) rfl (fun E4 im4 hF4 h4 => ?_)
  obtain ⟨h4, hq4⟩ := h4
  have hL4 : zL E E4 0 470 zk_x (zXs 3) := hP3.join h4 (fun c hc => (zXs_4 (a := 0) hc).1) (fun c hc => (zXs_4 (a := 3) hc).2)
  refine zz_putF S fX7_33 rfl (fun _ => ⟨rfl, rfl⟩) rfl rfl (hL4.lt (c := 0) (by omega)) (hL4.k (c := 0) (by omega) rfl) dX7_init_45 (q := 48) rfl ?_
  have hP4 := hL4.put (c := 0) (j := 3) (x := 468) (O' := zXs 4) (by omega) (fun c' _ j' => by
    unfold zXs
    by_cases e : c' = 0
    · subst e
      by_cases e2 : j' = 3
      · subst e2
        rfl
      · rw [if_neg (show ¬ (0 = 0 ∧ j' = 3) from fun q => e2 q.2)]
        by_cases e3 : 4 ≤ j'
        · rw [if_pos ⟨rfl, e3⟩, if_pos ⟨rfl, by omega⟩]
        · rw [if_neg (fun q => e3 q.2), if_neg (fun q => e3 (by omega))]
    · rw [if_neg (fun q => e q.1), if_neg (fun q => e q.1), if_neg (fun q => e q.1)])
  generalize (E4.1, E4.2.1, zz_ru E4.2.2 (0 + 0) 3 (some 468)) = F4 at hP4 ⊢
  have hE4 : F4.1 = 470 := by have := hP4.1; omega
  refine zz_aload_0 S dX7_init_48 (q := 49) rfl ?_
  refine zz_aload_0 S dX7_init_49 (q := 50) rfl ?_
  refine zz_getR S fX7_10 rfl (hP4.lt (c := 0) (by omega)) (hP4.k (c := 0) (by omega) rfl) (hP4.o (c := 0) (by omega) rfl) dX7_init_50 (q := 53) rfl ?_
  refine zz_getR S fX7_37 rfl (hP4.lt (c := 1) (by omega)) (hP4.k (c := 1) (by omega) rfl) (hP4.o (c := 1) (by omega) rfl) dX7_init_53 (q := 56) rfl ?_
  -- at 56
  refine zz_putF S fX7_41 rfl (fun _ => ⟨rfl, rfl⟩) rfl rfl (hP4.lt (c := 0) (by omega)) (hP4.k (c := 0) (by omega) rfl) dX7_init_56 (q := 59) rfl ?_
  have hP5 := hP4.put (c := 0) (j := 4) (x := 2) (O' := zXs 5) (by omega) (fun c' _ j' => by
    unfold zXs
    by_cases e : c' = 0
    · subst e
      by_cases e2 : j' = 4
      · subst e2
        rfl
      · rw [if_neg (show ¬ (0 = 0 ∧ j' = 4) from fun q => e2 q.2)]
        by_cases e3 : 5 ≤ j'
        · rw [if_pos ⟨rfl, e3⟩, if_pos ⟨rfl, by omega⟩]
        · rw [if_neg (fun q => e3 q.2), if_neg (fun q => e3 (by omega))]
    · rw [if_neg (fun q => e q.1), if_neg (fun q => e q.1), if_neg (fun q => e q.1)])
  generalize (F4.1, F4.2.1, zz_ru F4.2.2 (0 + 0) 4 (some 2)) = F5 at hP5 ⊢
  have o2 : ∀ k, k < 67 → im4 k = im1 k := fun k hk => by
    rw [hq4 k (by omega), hy4 k (by omega), hq3 k (by omega), hy3 k (by omega), hq2 k (by omega), hy2 k (by omega)]
  refine zz_vret S dX7_init_59 ⟨by show F5.1 = E.1 + 469; have := hP5.1; omega, rfl, hP5.cg (fun c hc j => ?_), ?_⟩
  · unfold zXs
    by_cases e : c = 0 ∧ 5 ≤ j
    · rw [if_pos e]
      obtain ⟨rfl, e⟩ := e
      unfold zo_x
      rw [if_pos rfl, if_neg (by omega), if_neg (by omega), if_neg (by omega), if_neg (by omega), if_neg (by omega)]
    · rw [if_neg e]
  · refine ⟨by rw [o2 2 (by omega)]; exact hq1.2.1, by rw [o2 4 (by omega)]; exact hq1.2.2.1, fun j hj => by rw [o2 5 (by omega)]; exact hq1.2.2.2.1 j hj, by rw [o2 24 (by omega)]; exact hq1.2.2.2.2, ?_, ?_⟩
    · rw [hq4 67 (by omega), hy4 67 (by omega), hq3 67 (by omega), hy3 67 (by omega), hq2 67 (by omega)]
      exact hz2
    · rw [hq4 465 (by omega), hy4 465 (by omega), hq3 465 (by omega)]
      exact hz3
def zS0 : ZSt := upd (upd (upd (upd (fun _ => 0) 4 2) 5 5) 6 10) 7 20
end ZIN4
