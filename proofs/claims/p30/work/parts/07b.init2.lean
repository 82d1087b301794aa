/-! CONSTRUCTORS: states, history, program, dial -/
def zTs (b a i c j : Nat) : Option Nat := if (c = 0 ∧ a ≤ j) ∨ (c = 22 ∧ i ≤ j) then none else zo_state b c j
theorem zTs_0 {b a i c : Nat} (hc : c < 21) : zTs b a i (1 + c) = zo_shop (b + 1) c := by
  funext j
  unfold zTs zo_state
  rw [if_neg (by omega), if_neg (by omega), if_pos (by omega), show 1 + c - 1 = c by omega]
theorem zTs_1 {b a i' i c : Nat} (hc : c < 21) (hi : i < 2) : zTs b a i' (24 + 21 * i + c) = zo_shop (b + (24 + 21 * i)) c := by
  funext j
  unfold zTs zo_state
  rcases (show i = 0 ∨ i = 1 by omega) with rfl | rfl
  · rw [if_neg (by omega), if_neg (by omega), if_neg (by omega), if_neg (by omega), if_neg (by omega), if_pos (by omega), show 24 + 21 * 0 + c - 24 = c by omega]
  · rw [if_neg (by omega), if_neg (by omega), if_neg (by omega), if_neg (by omega), if_neg (by omega), if_neg (by omega), show 24 + 21 * 1 + c - 45 = c by omega]
theorem zTk_0 {c : Nat} (hc : c < 21) : zk_state (1 + c) = zk_shop c := by
  unfold zk_state
  rw [if_neg (by omega), if_pos (by omega), show 1 + c - 1 = c by omega]
theorem zTk_1 {i c : Nat} (hc : c < 21) (hi : i < 2) : zk_state (24 + 21 * i + c) = zk_shop c := by
  unfold zk_state
  rcases (show i = 0 ∨ i = 1 by omega) with rfl | rfl
  · rw [if_neg (by omega), if_neg (by omega), if_neg (by omega), if_neg (by omega), if_pos (by omega), show 24 + 21 * 0 + c - 24 = c by omega]
  · rw [if_neg (by omega), if_neg (by omega), if_neg (by omega), if_neg (by omega), if_neg (by omega), show 24 + 21 * 1 + c - 45 = c by omega]
/-- a state's ints as it is made -/
def zTq (b : Nat) (im im' : ZI) : Prop := (∀ k, k ≤ b → im' k = im k) ∧ (im' (b + 1) = fun _ => 0) ∧ (im' (b + 3) = fun _ => 0) ∧ (∀ j, j < 4 → im' (b + 4) j = (zz_st 2).getD j 0) ∧ im' (b + 23) = fun _ => 0
theorem zTq.keep {b : Nat} {im0 im im' : ZI} (h : zTq b im0 im) (hk : ∀ k, k < b + 24 → im' k = im k) : zTq b im0 im' := by
  obtain ⟨h1, h2, h3, h4, h5⟩ := h
  exact ⟨fun k hk2 => by rw [hk k (by omega)]; exact h1 k hk2, by rw [hk _ (by omega)]; exact h2, by rw [hk _ (by omega)]; exact h3, fun j hj => by rw [hk _ (by omega)]; exact h4 j hj, by rw [hk _ (by omega)]; exact h5⟩
section ZIN2
variable {G : ZG} {l : Launch}
set_option maxHeartbeats 4000000 in
theorem lx_state {n0 mcT b : Nat} {Qf : Option Value → ZE → ZI → Prop} {w : Nat → ZL → List Value → Nat → ZE → ZI → Prop} {E0 : ZE} {im0 : ZI} (S : zz_S G l RX5 cX5_init 2 3 n0 mcT 400 true none Qf w) (hn0 : b + 66 ≤ n0 + mcT) (hb : b + 66 ≤ 1000)
    (hQ : ∀ (E : ZE) (im : ZI), zL E0 E b 66 zk_state (zTs b 3 2) → zTq b im0 im → Qf none E im) :
    ∀ (n i z : Nat) (x : Int32) (E : ZE) (im : ZI), i + n = 2 → x = nI i → z = 136 + 132 * i → zL E0 E b (24 + 21 * i) zk_state (zTs b 3 i) → zTq b im0 im → w 32 [some (.ref b), some (.int x)] [] z E im := by
  intro n
  induction n with
  | zero =>
    intro i z x E im hi hx hz hL hS
    have hi : i = 2 := by omega
    subst hi
    refine zz_iload_1 S dX5_init_32 (q := 33) rfl ?_
    refine zz_iconst S (v := 2) rfl dX5_init_33 (q := 34) rfl ?_
    refine zz_icmp_ge S dX5_init_34 (t := 56) (by decide) (q := 37) rfl (fun a1 => ?_) (fun a1 => ?_)
    -- then 56 else 37
    · exact zz_vret S dX5_init_56 (hQ E im hL hS)
    · exact absurd (by rw [hx]; exact nI_le (a := 2) (by omega) (by omega)) a1
  | succ n ih =>
    intro i z x E im hi hx hz hL hS
    have hE := hL.1
    refine zz_iload_1 S dX5_init_32 (q := 33) rfl ?_
    refine zz_iconst S (v := 2) rfl dX5_init_33 (q := 34) rfl ?_
    refine zz_icmp_ge S dX5_init_34 (t := 56) (by decide) (q := 37) rfl (fun a1 => ?_) (fun a1 => ?_)
    -- then 56 else 37
    · exact absurd a1 (by rw [hx]; exact nI_ge (b := 2) (by omega) (by omega))
    · refine zz_aload_0 S dX5_init_37 (q := 38) rfl ?_
      refine zz_getR S fX5_18 rfl (hL.lt (c := 0) (by omega)) (hL.k (c := 0) (by omega) rfl) (hL.o (c := 0) (by omega) rfl) dX5_init_38 (q := 41) rfl ?_
      refine zz_iload_1 S dX5_init_41 (q := 42) rfl ?_
      -- at 42
      refine zz_new S (c := 4) (by decide) nX5_9 n_inst4.1 n_inst4.2 (by omega) (fun _ => by omega) (by show z + 8 ≤ 400; omega) dX5_init_42 (q := 45) rfl ?_
      have hk1 : (zz_nE E (0, 4)).2.1 E.1 = (0, 4) := if_pos rfl
      have ho1 : (zz_nE E (0, 4)).2.2 E.1 = fun _ => none := if_pos rfl
      have hS1 : zTq b im0 (zz_nI E im) := hS.keep (fun k hk => zz_nI_lt (by omega))
      rw [hE] at hk1 ho1 ⊢
      refine zz_dup S rfl dX5_init_45 (q := 46) rfl ?_
      -- at 46
      refine zz_initE S yy_X4_init lX5_11 (cx_shopInit (b + (24 + 21 * i)) (zz_nE E (0, 4)) (zz_nI E im) (by show E.1 + 1 = _; omega) (by omega) hk1 ho1) rfl (Nat.le_of_ble_eq_true rfl) (fun _ => by show E.1 + 1 + 20 ≤ _; omega) (fun _ => by show z + 8 + 124 ≤ 400; omega) (Nat.le_of_ble_eq_true rfl) rfl dX5_init_46 (q := 49) rfl (fun E2 im2 hE2 h2 => ?_)
      obtain ⟨h2, hq2⟩ := h2
      have hL2 := hL.join h2 (fun c hc => zTk_1 hc (by omega)) (fun c hc => zTs_1 hc (by omega))
      have hS2 : zTq b im0 im2 := hS1.keep (fun k hk => hq2.1 k (by omega))
      refine zz_aaT S (c := 4) (hL2.lt (c := 22) (by omega)) (hL2.k (c := 22) (by omega) rfl) (by decide) (by decide) hx (by omega) (hL2.lt (c := 24 + 21 * i) (by omega)) (hL2.k (c := 24 + 21 * i) (by omega) (zTk_1 (c := 0) (by omega) (by omega))) dX5_init_49 (q := 50) rfl ?_
      have hL3 := hL2.put (c := 22) (j := i) (x := b + (24 + 21 * i)) (O' := zTs b 3 (i + 1)) (by omega) (fun c' _ j' => by unfold zTs zo_state; (repeat' split) <;> first | rfl | omega | (exfalso; omega) | (congr 1; omega))
      generalize (E2.1, E2.2.1, zz_ru E2.2.2 (b + 22) i (some (b + (24 + 21 * i)))) = E3 at hL3 ⊢
      refine zz_iinc_1 S rfl dX5_init_50 (q := 53) rfl ?_
      refine zz_goto S dX5_init_53 (t := 32) (by decide) ?_
      -- at 32
      exact ih (i + 1) _ _ E3 im2 (by omega) (by rw [hx]; exact nI_1 i) (by rw [hz]; show 136 + 132 * i + 8 + 124 = _; omega) hL3 hS2
set_option maxHeartbeats 4000000 in
theorem cx_stateInit (b : Nat) (E : ZE) (im : ZI) (hE : E.1 = b + 1) (hb : b + 66 ≤ 1000) (hk : E.2.1 b = (0, 5)) (ho : E.2.2 b = fun _ => none) : zz_ON G l 3 mX5_init [.ref b] E im 65 400 (fun E' im' => zL E E' b 66 zk_state (zo_state b) ∧ zTq b im im') := by
  have hP0 : zL E E b 1 zk_state (zTs b 0 0) := ⟨hE, fun c hc => by
    have e : c = 0 := by omega
    subst e
    exact ⟨hk, by rw [show b + 0 = b from rfl, ho]; funext j; unfold zTs; rw [if_pos (Or.inl ⟨rfl, Nat.zero_le j⟩)]⟩, fun _ _ => ⟨rfl, rfl⟩⟩

  refine zz_intro (isI := true) (by decide) rfl (Nat.le_of_ble_eq_true rfl) (fun _ => rfl) (fun w S => ?_)
  refine zz_aload_0 S dX5_init_0 (q := 1) rfl ?_
  -- at 1: invokespecial 3
  refine zz_obj S lX5_3 n_objIn n_objCo (Nat.le_of_ble_eq_true rfl) (Nat.le_of_ble_eq_true rfl) dX5_init_1 (q := 4) rfl ?_
  refine zz_aload_0 S dX5_init_4 (q := 5) rfl ?_
  -- at 5
  refine zz_new S (c := 4) (by decide) nX5_9 n_inst4.1 n_inst4.2 (by omega) (fun _ => by show _ ≤ E.1 + 65; omega) (by decide) dX5_init_5 (q := 8) rfl ?_
  have hk1 : (zz_nE E (0, 4)).2.1 E.1 = (0, 4) := if_pos rfl
  have ho1 : (zz_nE E (0, 4)).2.2 E.1 = fun _ => none := if_pos rfl
  have hi1 : ∀ k, k ≤ b → zz_nI E im k = im k := fun k hk => zz_nI_lt (by omega)
  have hi1' : zz_nI E im (b + 1) = fun _ => 0 := zz_nI_at (by omega)
  rw [hE] at hk1 ho1 ⊢
  refine zz_dup S rfl dX5_init_8 (q := 9) rfl ?_
  -- at 9
  refine zz_initE S yy_X4_init lX5_11 (cx_shopInit (b + 1) (zz_nE E (0, 4)) (zz_nI E im) (by show E.1 + 1 = _; omega) (by omega) hk1 ho1) rfl (Nat.le_of_ble_eq_true rfl) (fun _ => by show E.1 + 1 + 20 ≤ E.1 + 65; omega) (fun _ => by decide) (Nat.le_of_ble_eq_true rfl) rfl dX5_init_9 (q := 12) rfl (fun E1 im1 hE1 h1 => ?_)
  obtain ⟨h1, hq1⟩ := h1
  have hL1 := hP0.join h1 (fun c hc => zTk_0 hc) (fun c hc => zTs_0 hc)
  have hJ1 : (∀ k, k ≤ b → im1 k = im k) ∧ (im1 (b + 1) = fun _ => 0) ∧ (im1 (b + 3) = fun _ => 0) ∧ (∀ j, j < 4 → im1 (b + 4) j = (zz_st 2).getD j 0) := ⟨fun k hk => (hq1.1 k (by omega)).trans (hi1 k hk), (hq1.1 (b + 1) (Nat.le_refl _)).trans hi1', hq1.2.1, hq1.2.2⟩
  clear hk1 ho1 hi1 hi1' h1 hq1
  refine zz_putF S fX5_12 rfl (fun _ => ⟨rfl, rfl⟩) rfl rfl (hL1.lt (c := 0) (by omega)) (hL1.k (c := 0) (by omega) rfl) dX5_init_12 (q := 15) rfl ?_
  have hP1 := hL1.put (c := 0) (j := 0) (x := b + 1) (O' := zTs b 1 0) (by omega) (fun c' _ j' => by unfold zTs zo_state; (repeat' split) <;> first | rfl | omega | (exfalso; omega) | (congr 1; omega))
  generalize (E1.1, E1.2.1, zz_ru E1.2.2 (b + 0) 0 (some (b + 1))) = F1 at hP1 ⊢
  have hE1 := hP1.1
  refine zz_aload_0 S dX5_init_15 (q := 16) rfl ?_
  refine zz_iconst S (v := 2) rfl dX5_init_16 (q := 17) rfl ?_
  -- at 17
  refine zz_newP S nX5_9 (by decide) (N := 2) rfl (by decide) (by omega) (fun _ => by show _ ≤ E.1 + 65; omega) (by decide) dX5_init_17 (q := 20) rfl ?_
  have hL2 := hP1.new (kd := (6, 2)) rfl (by funext j; unfold zTs zo_state; (repeat' split) <;> first | rfl | (exfalso; omega))
  have hJ2 : (∀ k, k ≤ b → zz_nI F1 im1 k = im k) ∧ (zz_nI F1 im1 (b + 1) = fun _ => 0) ∧ (zz_nI F1 im1 (b + 3) = fun _ => 0) ∧ (∀ j, j < 4 → zz_nI F1 im1 (b + 4) j = (zz_st 2).getD j 0) := ⟨fun k hk => (zz_nI_lt (by have := hE1; omega)).trans (hJ1.1 k hk), (zz_nI_lt (by have := hE1; omega)).trans hJ1.2.1, (zz_nI_lt (by have := hE1; omega)).trans hJ1.2.2.1, fun j hj => by rw [zz_nI_lt (by have := hE1; omega)]; exact hJ1.2.2.2 j hj⟩
  rw [hE1]
  generalize zz_nE F1 (6, 2) = E2 at hL2 ⊢
  generalize zz_nI F1 im1 = im2 at hJ2 ⊢
  refine zz_putF S fX5_18 rfl (fun _ => ⟨rfl, rfl⟩) rfl rfl (hL2.lt (c := 0) (by omega)) (hL2.k (c := 0) (by omega) rfl) dX5_init_20 (q := 23) rfl ?_
  have hP2 := hL2.put (c := 0) (j := 1) (x := b + (1 + 21)) (O' := zTs b 2 0) (by omega) (fun c' _ j' => by unfold zTs zo_state; (repeat' split) <;> first | rfl | omega | (exfalso; omega) | (congr 1; omega))
  generalize (E2.1, E2.2.1, zz_ru E2.2.2 (b + 0) 1 (some (b + (1 + 21)))) = F2 at hP2 ⊢
  have hE2 := hP2.1
  refine zz_aload_0 S dX5_init_23 (q := 24) rfl ?_
  refine zz_iconst S (v := 2) rfl dX5_init_24 (q := 25) rfl ?_
  -- at 25
  refine zz_newZ S n_arrZ (by decide) (N := 2) rfl (by decide) (by omega) (fun _ => by show _ ≤ E.1 + 65; omega) (by decide) dX5_init_25 (q := 27) rfl ?_
  have hL3 := hP2.new (kd := (2, 2)) rfl (by funext j; unfold zTs zo_state; (repeat' split) <;> first | rfl | (exfalso; omega))
  have hJ3 : (∀ k, k ≤ b → zz_nI F2 im2 k = im k) ∧ (zz_nI F2 im2 (b + 1) = fun _ => 0) ∧ (zz_nI F2 im2 (b + 3) = fun _ => 0) ∧ (∀ j, j < 4 → zz_nI F2 im2 (b + 4) j = (zz_st 2).getD j 0) := ⟨fun k hk => (zz_nI_lt (by have := hE2; omega)).trans (hJ2.1 k hk), (zz_nI_lt (by have := hE2; omega)).trans hJ2.2.1, (zz_nI_lt (by have := hE2; omega)).trans hJ2.2.2.1, fun j hj => by rw [zz_nI_lt (by have := hE2; omega)]; exact hJ2.2.2.2 j hj⟩
  have hz : zz_nI F2 im2 (b + 23) = fun _ => 0 := zz_nI_at (by omega)
  rw [hE2]
  generalize zz_nE F2 (2, 2) = E3 at hL3 ⊢
  generalize zz_nI F2 im2 = im3 at hJ3 hz ⊢
  refine zz_putF S fX5_22 rfl (fun _ => ⟨rfl, rfl⟩) rfl rfl (hL3.lt (c := 0) (by omega)) (hL3.k (c := 0) (by omega) rfl) dX5_init_27 (q := 30) rfl ?_
  have hP3 := hL3.put (c := 0) (j := 2) (x := b + (1 + 21 + 1)) (O' := zTs b 3 0) (by omega) (fun c' _ j' => by unfold zTs zo_state; (repeat' split) <;> first | rfl | omega | (exfalso; omega) | (congr 1; omega))
  generalize (E3.1, E3.2.1, zz_ru E3.2.2 (b + 0) 2 (some (b + (1 + 21 + 1)))) = F3 at hP3 ⊢
  have hE3 := hP3.1
  refine zz_iconst S (v := 0) rfl dX5_init_30 (q := 31) rfl ?_
  refine zz_istore_1 S rfl dX5_init_31 (q := 32) rfl ?_
  -- at 32
  exact lx_state (E0 := E) (im0 := im) S (by show _ ≤ E.1 + 65; omega) hb (fun E4 im4 hL4 h4 => ⟨by show E4.1 = E.1 + 65; have := hL4.1; omega, rfl, hL4.cg (fun c hc j => by unfold zTs zo_state; (repeat' split) <;> first | rfl | (exfalso; omega)), h4⟩) 2 0 _ _ F3 im3 (by omega) rfl rfl hP3 ⟨hJ3.1, hJ3.2.1, hJ3.2.2.1, hJ3.2.2.2, hz⟩
end ZIN2
