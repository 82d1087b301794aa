/-! CONSTRUCTORS: history, program, dial -/
def zHk (c : Nat) : Nat × Nat := if c = 0 then (0, 2) else if c = 1 then (7, 6) else zk_state ((c - 2) % 66)
def zHo (b a i c j : Nat) : Option Nat := if c = 0 then (if j < a then some (b + 1) else none) else if c = 1 then (if j < i then some (b + 2 + 66 * j) else none) else zo_state (b + 2 + 66 * ((c - 2) / 66)) ((c - 2) % 66) j
theorem zHk_1 {i c : Nat} (hc : c < 66) : zHk (2 + 66 * i + c) = zk_state c := by
  unfold zHk
  rw [if_neg (by omega), if_neg (by omega), show (2 + 66 * i + c - 2) % 66 = c by omega]
theorem zHo_1 {b a i' i c : Nat} (hc : c < 66) : zHo b a i' (2 + 66 * i + c) = zo_state (b + (2 + 66 * i)) c := by
  funext j
  unfold zHo
  rw [if_neg (by omega), if_neg (by omega), show (2 + 66 * i + c - 2) % 66 = c by omega, show b + 2 + 66 * ((2 + 66 * i + c - 2) / 66) = b + (2 + 66 * i) by omega]
def zPk (c : Nat) : Nat × Nat := if c = 0 then (0, 3) else if c = 1 then (3, 140) else (1, 3)
def zPo (b a c j : Nat) : Option Nat := if c = 0 then (if j < a then some (b + 1 + j) else none) else none
def zDk (c : Nat) : Nat × Nat := if c = 0 then (0, 1) else (1, 721)
def zDo (b a c j : Nat) : Option Nat := if c = 0 then (if j < a then some (b + 1) else none) else none
section ZIN3
variable {G : ZG} {l : Launch}
set_option maxHeartbeats 4000000 in
theorem lx_hist {n0 mcT b : Nat} {Qf : Option Value → ZE → ZI → Prop} {w : Nat → ZL → List Value → Nat → ZE → ZI → Prop} {E0 : ZE} {im0 : ZI} (S : zz_S G l RX2 cX2_init 2 4 n0 mcT 2424 true none Qf w) (hn0 : b + 398 ≤ n0 + mcT) (hb : b + 398 ≤ 1000)
    (hQ : ∀ (E : ZE) (im : ZI), zL E0 E b 398 zHk (zHo b 1 6) → (∀ k, k ≤ b → im k = im0 k) → Qf none E im) :
    ∀ (n i z : Nat) (x : Int32) (E : ZE) (im : ZI), i + n = 6 → x = nI i → z = 6 + 403 * i → zL E0 E b (2 + 66 * i) zHk (zHo b 1 i) → (∀ k, k ≤ b → im k = im0 k) → w 15 [some (.ref b), some (.int x)] [] z E im := by
  intro n
  induction n with
  | zero =>
    intro i z x E im hi hx hz hL hS
    have hi : i = 6 := by omega
    subst hi
    refine zz_iload_1 S dX2_init_15 (q := 16) rfl ?_
    refine zz_iconst S (v := 5) rfl dX2_init_16 (q := 17) rfl ?_
    refine zz_icmp_gt S dX2_init_17 (t := 39) (by decide) (q := 20) rfl (fun a1 => ?_) (fun a1 => ?_)
    -- then 39 else 20
    · exact zz_vret S dX2_init_39 (hQ E im hL hS)
    · exact absurd (by rw [hx]; exact nI_lt (a := 5) (by omega) (by omega)) a1
  | succ n ih =>
    intro i z x E im hi hx hz hL hS
    have hE := hL.1
    refine zz_iload_1 S dX2_init_15 (q := 16) rfl ?_
    refine zz_iconst S (v := 5) rfl dX2_init_16 (q := 17) rfl ?_
    refine zz_icmp_gt S dX2_init_17 (t := 39) (by decide) (q := 20) rfl (fun a1 => ?_) (fun a1 => ?_)
    -- then 39 else 20
    · exact absurd a1 (by rw [hx]; exact nI_nlt (b := i) (a := 5) (by omega) (by omega))
    · refine zz_aload_0 S dX2_init_20 (q := 21) rfl ?_
      refine zz_getR S fX2_11 rfl (hL.lt (c := 0) (by omega)) (hL.k (c := 0) (by omega) rfl) (hL.o (c := 0) (by omega) rfl) dX2_init_21 (q := 24) rfl ?_
      refine zz_iload_1 S dX2_init_24 (q := 25) rfl ?_
      -- at 25
      refine zz_new S (c := 5) (by decide) nX2_9 n_inst5.1 n_inst5.2 (by omega) (fun _ => by omega) (by show z + 3 ≤ 2424; omega) dX2_init_25 (q := 28) rfl ?_
      have hk1 : (zz_nE E (0, 5)).2.1 E.1 = (0, 5) := if_pos rfl
      have ho1 : (zz_nE E (0, 5)).2.2 E.1 = fun _ => none := if_pos rfl
      have hS1 : ∀ k, k ≤ b → zz_nI E im k = im0 k := fun k hk => (zz_nI_lt (by omega)).trans (hS k hk)
      rw [hE] at hk1 ho1 ⊢
      refine zz_dup S rfl dX2_init_28 (q := 29) rfl ?_
      -- at 29
      refine zz_initE S yy_X5_init lX2_17 (cx_stateInit (b + (2 + 66 * i)) (zz_nE E (0, 5)) (zz_nI E im) (by show E.1 + 1 = _; omega) (by omega) hk1 ho1) rfl (Nat.le_of_ble_eq_true rfl) (fun _ => by show E.1 + 1 + 65 ≤ _; omega) (fun _ => by show z + 3 + 400 ≤ 2424; omega) (Nat.le_of_ble_eq_true rfl) rfl dX2_init_29 (q := 32) rfl (fun E2 im2 hE2 h2 => ?_)
      obtain ⟨h2, hq2⟩ := h2
      have hL2 := hL.join h2 (fun c hc => zHk_1 hc) (fun c hc => zHo_1 hc)
      have hS2 : ∀ k, k ≤ b → im2 k = im0 k := fun k hk => (hq2.1 k (by omega)).trans (hS1 k hk)
      refine zz_aaT S (c := 5) (hL2.lt (c := 1) (by omega)) (hL2.k (c := 1) (by omega) rfl) (by decide) (by decide) hx (by omega) (hL2.lt (c := 2 + 66 * i) (by omega)) (hL2.k (c := 2 + 66 * i) (by omega) (zHk_1 (c := 0) (by omega))) dX2_init_32 (q := 33) rfl ?_
      have hL3 := hL2.put (c := 1) (j := i) (x := b + (2 + 66 * i)) (O' := zHo b 1 (i + 1)) (by omega) (fun c' _ j' => by
        unfold zHo
        by_cases e0 : c' = 0
        · rw [if_pos e0, if_neg (show ¬ (c' = 1 ∧ j' = i) by omega), if_pos e0]
        · by_cases e1 : c' = 1
          · rw [if_neg e0, if_pos e1, if_neg e0, if_pos e1]
            by_cases e2 : j' = i
            · rw [if_pos (by omega), if_pos ⟨e1, e2⟩]
              congr 1
              omega
            · rw [if_neg (show ¬ (c' = 1 ∧ j' = i) from fun q => e2 q.2)]
              by_cases e3 : j' < i
              · rw [if_pos (by omega), if_pos e3]
              · rw [if_neg (by omega), if_neg e3]
          · rw [if_neg e0, if_neg e1, if_neg (show ¬ (c' = 1 ∧ j' = i) from fun q => e1 q.1), if_neg e0, if_neg e1])
      generalize (E2.1, E2.2.1, zz_ru E2.2.2 (b + 1) i (some (b + (2 + 66 * i)))) = E3 at hL3 ⊢
      refine zz_iinc_1 S rfl dX2_init_33 (q := 36) rfl ?_
      refine zz_goto S dX2_init_36 (t := 15) (by decide) ?_
      -- at 15
      exact ih (i + 1) _ _ E3 im2 (by omega) (by rw [hx]; exact nI_1 i) (by rw [hz]; show 6 + 403 * i + 3 + 400 = _; omega) hL3 hS2
set_option maxHeartbeats 4000000 in
theorem cx_histInit (b : Nat) (E : ZE) (im : ZI) (hE : E.1 = b + 1) (hb : b + 398 ≤ 1000) (hk : E.2.1 b = (0, 2)) (ho : E.2.2 b = fun _ => none) : zz_ON G l 4 mX2_init [.ref b] E im 397 2424 (fun E' im' => zL E E' b 398 zHk (zHo b 1 6) ∧ ∀ k, k ≤ b → im' k = im k) := by
  have hP0 : zL E E b 1 zHk (zHo b 0 0) := ⟨hE, fun c hc => by
    have e : c = 0 := by omega
    subst e
    exact ⟨hk, by rw [show b + 0 = b from rfl, ho]; rfl⟩, fun _ _ => ⟨rfl, rfl⟩⟩
  refine zz_intro (isI := true) (by decide) rfl (Nat.le_of_ble_eq_true rfl) (fun _ => rfl) (fun w S => ?_)
  refine zz_aload_0 S dX2_init_0 (q := 1) rfl ?_
  -- at 1: invokespecial 3
  refine zz_obj S lX2_3 n_objIn n_objCo (Nat.le_of_ble_eq_true rfl) (Nat.le_of_ble_eq_true rfl) dX2_init_1 (q := 4) rfl ?_
  refine zz_aload_0 S dX2_init_4 (q := 5) rfl ?_
  refine zz_bipush S (v := 6) rfl dX2_init_5 (q := 7) rfl ?_
  -- at 7
  refine zz_newT S nX2_9 (by decide) (N := 6) rfl (by decide) (by omega) (fun _ => by show _ ≤ E.1 + 397; omega) (by decide) dX2_init_7 (q := 10) rfl ?_
  have hL1 := hP0.new (kd := (7, 6)) rfl (by funext j; rfl)
  have hJ1 : ∀ k, k ≤ b → zz_nI E im k = im k := fun k hk => zz_nI_lt (by omega)
  rw [hE]
  generalize zz_nE E (7, 6) = E1 at hL1 ⊢
  generalize zz_nI E im = im1 at hJ1 ⊢
  refine zz_putF S fX2_11 rfl (fun _ => ⟨rfl, rfl⟩) rfl rfl (hL1.lt (c := 0) (by omega)) (hL1.k (c := 0) (by omega) rfl) dX2_init_10 (q := 13) rfl ?_
  have hP1 := hL1.put (c := 0) (j := 0) (x := b + 1) (O' := zHo b 1 0) (by omega) (fun c' _ j' => by unfold zHo; (repeat' split) <;> first | rfl | omega | (exfalso; omega) | (congr 1; omega))
  generalize (E1.1, E1.2.1, zz_ru E1.2.2 (b + 0) 0 (some (b + 1))) = F1 at hP1 ⊢
  refine zz_iconst S (v := 0) rfl dX2_init_13 (q := 14) rfl ?_
  refine zz_istore_1 S rfl dX2_init_14 (q := 15) rfl ?_
  -- at 15
  exact lx_hist (E0 := E) (im0 := im) S (by show _ ≤ E.1 + 397; omega) hb (fun E4 im4 hL4 h4 => ⟨by show E4.1 = E.1 + 397; have := hL4.1; omega, rfl, hL4, h4⟩) 6 0 _ _ F1 im1 (by omega) rfl rfl hP1 hJ1
set_option maxHeartbeats 4000000 in
theorem cx_progInit (b : Nat) (E : ZE) (im : ZI) (hE : E.1 = b + 1) (hb : b + 3 ≤ 1000) (hk : E.2.1 b = (0, 3)) (ho : E.2.2 b = fun _ => none) : zz_ON G l 1 mX3_init [.ref b] E im 2 143 (fun E' im' => zL E E' b 3 zPk (zPo b 2) ∧ ∀ k, k ≤ b → im' k = im k) := by
  have hP0 : zL E E b 1 zPk (zPo b 0) := ⟨hE, fun c hc => by
    have e : c = 0 := by omega
    subst e
    exact ⟨hk, by rw [show b + 0 = b from rfl, ho]; rfl⟩, fun _ _ => ⟨rfl, rfl⟩⟩
  have hJ0 : ∀ k, k ≤ b → im k = im k := fun _ _ => rfl
  have hE0 := hE
  refine zz_intro (isI := true) (by decide) rfl (Nat.le_of_ble_eq_true rfl) (fun _ => rfl) (fun w S => ?_)
  refine zz_aload_0 S dX3_init_0 (q := 1) rfl ?_
  -- at 1: invokespecial 3
  refine zz_obj S lX3_3 n_objIn n_objCo (Nat.le_of_ble_eq_true rfl) (Nat.le_of_ble_eq_true rfl) dX3_init_1 (q := 4) rfl ?_
  refine zz_aload_0 S dX3_init_4 (q := 5) rfl ?_
  refine zz_sipush S (v := 140) rfl dX3_init_5 (q := 8) rfl ?_
  -- at 8
  refine zz_newC S n_arrC (by decide) (N := 140) rfl (by decide) (by omega) (fun _ => by show _ ≤ E.1 + 2; omega) (by decide) dX3_init_8 (q := 10) rfl ?_
  have hL1 := hP0.new (kd := (3, 140)) rfl (by funext j; rfl)
  have hJ1 : ∀ k, k ≤ b → zz_nI E im k = im k := fun k hk => (zz_nI_lt (by omega)).trans (hJ0 k hk)
  rw [hE0]
  generalize zz_nE E (3, 140) = E1 at hL1 ⊢
  generalize zz_nI E im = im1 at hJ1 ⊢
  refine zz_putF S fX3_9 rfl (fun _ => ⟨rfl, rfl⟩) rfl rfl (hL1.lt (c := 0) (by omega)) (hL1.k (c := 0) (by omega) rfl) dX3_init_10 (q := 13) rfl ?_
  have hP1 := hL1.put (c := 0) (j := 0) (x := b + (1)) (O' := zPo b 1) (by omega) (fun c' _ j' => by unfold zPo; (repeat' split) <;> first | rfl | omega | (exfalso; omega) | (congr 1; omega))
  generalize (E1.1, E1.2.1, zz_ru E1.2.2 (b + 0) 0 (some (b + (1)))) = F1 at hP1 ⊢
  have hE1 := hP1.1
  refine zz_aload_0 S dX3_init_13 (q := 14) rfl ?_
  refine zz_iconst S (v := 3) rfl dX3_init_14 (q := 15) rfl ?_
  -- at 15
  refine zz_newI S n_arrI (by decide) (N := 3) rfl (by decide) (by omega) (fun _ => by show _ ≤ E.1 + 2; omega) (by decide) dX3_init_15 (q := 17) rfl ?_
  have hL2 := hP1.new (kd := (1, 3)) rfl (by funext j; rfl)
  have hJ2 : ∀ k, k ≤ b → zz_nI F1 im1 k = im k := fun k hk => (zz_nI_lt (by omega)).trans (hJ1 k hk)
  rw [hE1]
  generalize zz_nE F1 (1, 3) = E2 at hL2 ⊢
  generalize zz_nI F1 im1 = im2 at hJ2 ⊢
  refine zz_putF S fX3_15 rfl (fun _ => ⟨rfl, rfl⟩) rfl rfl (hL2.lt (c := 0) (by omega)) (hL2.k (c := 0) (by omega) rfl) dX3_init_17 (q := 20) rfl ?_
  have hP2 := hL2.put (c := 0) (j := 1) (x := b + (1 + 1)) (O' := zPo b 2) (by omega) (fun c' _ j' => by unfold zPo; (repeat' split) <;> first | rfl | omega | (exfalso; omega) | (congr 1; omega))
  generalize (E2.1, E2.2.1, zz_ru E2.2.2 (b + 0) 1 (some (b + (1 + 1)))) = F2 at hP2 ⊢
  have hE2 := hP2.1
  exact zz_vret S dX3_init_20 ⟨by show F2.1 = E.1 + 2; omega, rfl, hP2, hJ2⟩
set_option maxHeartbeats 4000000 in
theorem cx_dialInit (b : Nat) (E : ZE) (im : ZI) (hE : E.1 = b + 1) (hb : b + 2 ≤ 1000) (hk : E.2.1 b = (0, 1)) (ho : E.2.2 b = fun _ => none) : zz_ON G l 1 mX1_init [.ref b] E im 1 721 (fun E' im' => zL E E' b 2 zDk (zDo b 1) ∧ ∀ k, k ≤ b → im' k = im k) := by
  have hP0 : zL E E b 1 zDk (zDo b 0) := ⟨hE, fun c hc => by
    have e : c = 0 := by omega
    subst e
    exact ⟨hk, by rw [show b + 0 = b from rfl, ho]; rfl⟩, fun _ _ => ⟨rfl, rfl⟩⟩
  have hJ0 : ∀ k, k ≤ b → im k = im k := fun _ _ => rfl
  have hE0 := hE
  refine zz_intro (isI := true) (by decide) rfl (Nat.le_of_ble_eq_true rfl) (fun _ => rfl) (fun w S => ?_)
  refine zz_aload_0 S dX1_init_0 (q := 1) rfl ?_
  -- at 1: invokespecial 3
  refine zz_obj S lX1_3 n_objIn n_objCo (Nat.le_of_ble_eq_true rfl) (Nat.le_of_ble_eq_true rfl) dX1_init_1 (q := 4) rfl ?_
  refine zz_aload_0 S dX1_init_4 (q := 5) rfl ?_
  refine zz_sipush S (v := 721) rfl dX1_init_5 (q := 8) rfl ?_
  -- at 8
  refine zz_newI S n_arrI (by decide) (N := 721) rfl (by decide) (by omega) (fun _ => by show _ ≤ E.1 + 1; omega) (by decide) dX1_init_8 (q := 10) rfl ?_
  have hL1 := hP0.new (kd := (1, 721)) rfl (by funext j; rfl)
  have hJ1 : ∀ k, k ≤ b → zz_nI E im k = im k := fun k hk => (zz_nI_lt (by omega)).trans (hJ0 k hk)
  rw [hE0]
  generalize zz_nE E (1, 721) = E1 at hL1 ⊢
  generalize zz_nI E im = im1 at hJ1 ⊢
  refine zz_putF S fX1_9 rfl (fun _ => ⟨rfl, rfl⟩) rfl rfl (hL1.lt (c := 0) (by omega)) (hL1.k (c := 0) (by omega) rfl) dX1_init_10 (q := 13) rfl ?_
  have hP1 := hL1.put (c := 0) (j := 0) (x := b + (1)) (O' := zDo b 1) (by omega) (fun c' _ j' => by unfold zDo; (repeat' split) <;> first | rfl | omega | (exfalso; omega) | (congr 1; omega))
  generalize (E1.1, E1.2.1, zz_ru E1.2.2 (b + 0) 0 (some (b + (1)))) = F1 at hP1 ⊢
  have hE1 := hP1.1
  exact zz_vret S dX1_init_13 ⟨by show F1.1 = E.1 + 1; omega, rfl, hP1, hJ1⟩
end ZIN3
