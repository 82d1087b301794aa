/-! THE LAW: from its entry to its loop -/
theorem zz_wE {G : ZG} {l : Launch} {own : String} {cc : ByteArray} {nL d n0 mcT msT : Nat} {isI : Bool} {rt : Option FieldType} {Qf : Option Value → ZE → ZI → Prop} {w : zL_w} {pc z : Nat} {Lc : ZL} {st : List Value} {E E2 : ZE} {im : ZI}
    (S : zz_S G l own cc nL d n0 mcT msT isI rt Qf w) (h1 : E.1 = E2.1) (h2 : ∀ k, k < E.1 → E.2.1 k = E2.2.1 k ∧ E.2.2 k = E2.2.2 k) (kk : w pc Lc st z E2 im) : w pc Lc st z E im := by
  obtain ⟨p, e, R, s, m, args, below, meth, c0, Q, hfix, hR, hI, hK, hsz, hret, rfl⟩ := S
  intro H locs ls g1 g2 g3 g4 g5 g6
  have hw : zz_w G E im = zz_w G E2 im := by
    unfold zz_w
    rw [← h1]
    exact List.map_congr_left fun k hk => by
      have hk' := List.mem_range.mp hk
      rw [(h2 k hk').1, (h2 k hk').2]
  have key := kk H locs ls ⟨by rw [← h1]; exact g1.1, by rw [← hw]; exact g1.2⟩ (by rw [← h1]; exact g2) (by rw [← h1]; exact g3) g4 g5 g6
  rw [← h1] at key
  exact key
theorem zE_x {k : Nat} (hk : k < 470) : zE.2.1 k = zk_x k ∧ zE.2.2 k = zo_x k := by
  refine ⟨if_pos hk, ?_⟩
  funext j
  exact if_pos hk
theorem zE_m {k : Nat} (hk : ¬ k < 470) : zE.2.1 k = zk_m (k - 470) ∧ zE.2.2 k = zo_m (k - 470) := by
  refine ⟨if_neg hk, ?_⟩
  funext j
  exact if_neg hk
theorem sI_0 : sI zS0 0 0 := ⟨rfl, by omega, rfl, by omega, by
  refine ⟨⟨by decide, by decide⟩, ⟨by decide, by decide⟩, ⟨by decide, by decide⟩, by decide, by decide⟩, fun m hm => by
  have e : zS0 (8 + m) = 0 := by
    unfold zS0
    rw [u_ne _ _ (by omega), u_ne _ _ (by omega), u_ne _ _ (by omega), u_ne _ _ (by omega)]
  rw [e]
  exact ⟨by decide, by decide⟩, fun w hw => absurd hw (by omega), fun c hc => absurd hc (by omega)⟩
theorem zS0_far {j : Nat} (h : 8 ≤ j) : zS0 j = 0 := by
  unfold zS0
  rw [u_ne _ _ (by omega), u_ne _ _ (by omega), u_ne _ _ (by omega), u_ne _ _ (by omega)]
/-- class and reference at their start -/
theorem zLW_0 {im : ZI} (hX : zXi im) (h471 : im 471 = zS0) (h470 : ∀ j, im 470 j = 0) : zLW im zS0 0 (fun _ => zS0) 0 (im 474) := by
  obtain ⟨x2, x4, x5, x24, x67, x465⟩ := hX
  refine ⟨⟨⟨⟨0, 0, sI_0, ⟨?_, ?_, ?_, ?_⟩, fun j hj => ?_, fun m hm => ?_, fun w hw => absurd hw (by omega), fun c hc => absurd hc (by omega)⟩, fun b hb => ?_⟩, ⟨0, by omega, ?_, by omega, ?_, fun i hi => absurd hi (by omega)⟩, ?_, by omega, fun j hj => absurd hj (by omega), fun j hj => absurd hj (by omega)⟩, h471, ⟨by omega, h470 4, fun i k hi => absurd hi (by omega)⟩, h470 6, rfl⟩
  · show im 2 4 = _
    rw [x2]; rfl
  · show im 2 5 = _
    rw [x2]; rfl
  · show im 2 6 = _
    rw [x2]; rfl
  · show im 2 7 = _
    rw [x2]; rfl
  · show im 5 j = _
    rw [x5 j hj]
    rcases (show j = 0 ∨ j = 1 ∨ j = 2 ∨ j = 3 by omega) with rfl | rfl | rfl | rfl <;> rfl
  · show im 4 m = _
    rw [x4, zS0_far (by omega)]
  · have e : zS0 (118 + 119 * b) = 0 := zS0_far (by omega)
    refine ⟨?_, Or.inl e⟩
    show im 24 b = _
    rw [x24, e]
  · rw [x67]; rfl
  · rw [x67]; rfl
  · rw [x465]; rfl
def zE00 : ZE := (0, fun _ => (0, 0), fun _ _ => none)
section ZBEG
variable {G : ZG} {l : Launch} {L : Nat} {xs : Nat → Int32} {w : zL_w}
set_option maxHeartbeats 4000000 in
theorem lz_begin (SX : zz_SX G l L xs w) (hL : L ≤ 2560) : w 0 [some (.ref 1050), none, none, none] [] 0 zE00 (fun _ _ => 0) := by
  have S := SX.1
  refine zz_new S (c := 7) (by decide) nL_7 n_inst7.1 n_inst7.2 (by decide) (fun _ => by decide) (by decide) dL_law_0 (q := 3) rfl ?_
  have hk1 : (zz_nE zE00 (0, 7)).2.1 0 = (0, 7) := rfl
  have ho1 : (zz_nE zE00 (0, 7)).2.2 0 = fun _ => none := rfl
  have hE1 : (zz_nE zE00 (0, 7)).1 = 1 := rfl
  generalize zz_nE zE00 (0, 7) = E1 at hk1 ho1 hE1 ⊢
  generalize zz_nI zE00 (fun _ _ => 0) = im1
  refine zz_dup S rfl dL_law_3 (q := 4) rfl ?_
  -- at 4
  refine zz_initE S yy_X7_init lL_9 (cx_init E1 im1 hE1 hk1 ho1) rfl (Nat.le_of_ble_eq_true rfl) (fun _ => by omega) (fun _ => by decide) (Nat.le_of_ble_eq_true rfl) rfl dL_law_4 (q := 7) rfl (fun E2 im2 hE2 h2 => ?_)
  obtain ⟨hL2, hX2⟩ := h2
  have hE2' : E2.1 = 470 := by omega
  refine zz_astore_1 S rfl dL_law_7 (q := 8) rfl ?_
  -- at 8
  refine zz_new S (c := 8) (by decide) nL_10 n_inst8.1 n_inst8.2 (by omega) (fun _ => by omega) (by decide) dL_law_8 (q := 11) rfl ?_
  have hk3 : (zz_nE E2 (0, 8)).2.1 E2.1 = (0, 8) := if_pos rfl
  have ho3 : (zz_nE E2 (0, 8)).2.2 E2.1 = fun _ => none := if_pos rfl
  have hi3 : zz_nI E2 im2 E2.1 = fun _ => 0 := if_pos rfl
  have hE3 : (zz_nE E2 (0, 8)).1 = 471 := by show E2.1 + 1 = 471; omega
  have hb3 : ∀ k, k < 470 → (zz_nE E2 (0, 8)).2.1 k = zk_x k ∧ (zz_nE E2 (0, 8)).2.2 k = zo_x k := fun k hk => by
    have h := hL2.2.1 k hk
    rw [Nat.zero_add] at h
    exact ⟨(if_neg (by omega)).trans h.1, (if_neg (by omega)).trans h.2⟩
  have hm3 : ∀ k, k < 470 → zz_nI E2 im2 k = im2 k := fun k hk => if_neg (by omega)
  rw [hE2'] at hk3 ho3 hi3 ⊢
  generalize zz_nE E2 (0, 8) = E3 at hk3 ho3 hE3 hb3 ⊢
  generalize zz_nI E2 im2 = im3 at hi3 hm3 ⊢
  refine zz_dup S rfl dL_law_11 (q := 12) rfl ?_
  -- at 12
  refine zz_initE S yy_X8_init lL_12 (co_init E3 im3 hE3 hk3 ho3 hi3) rfl (Nat.le_of_ble_eq_true rfl) (fun _ => by omega) (fun _ => by decide) (Nat.le_of_ble_eq_true rfl) rfl dL_law_12 (q := 15) rfl (fun E4 im4 hE4 h4 => ?_)
  obtain ⟨hL4, hlo4, h471, h470⟩ := h4
  have hX4 : zXi im4 := by
    obtain ⟨x2, x4, x5, x24, x67, x465⟩ := hX2
    have o : ∀ k, k < 470 → im4 k = im2 k := fun k hk => (hlo4 k hk).trans (hm3 k hk)
    exact ⟨(o 2 (by decide)).trans x2, (o 4 (by decide)).trans x4, fun j hj => by rw [o 5 (by decide)]; exact x5 j hj, (o 24 (by decide)).trans x24, (o 67 (by decide)).trans x67, (o 465 (by decide)).trans x465⟩
  refine zz_astore_2 S rfl dL_law_15 (q := 16) rfl ?_
  refine zz_iconst S (v := 0) rfl dL_law_16 (q := 17) rfl ?_
  refine zz_istore_3 S rfl dL_law_17 (q := 18) rfl ?_
  -- at 18
  refine zz_wE S (E2 := zE) (by have := hL4.1; show E4.1 = 479; omega) (fun k hk => ?_) ?_
  · have hk9 : k < 479 := by have := hL4.1; omega
    by_cases h : k < 470
    · obtain ⟨a1, a2⟩ := hL4.2.2 k h
      rw [(zE_x h).1, (zE_x h).2]
      exact ⟨a1.trans (hb3 k h).1, a2.trans (hb3 k h).2⟩
    · obtain ⟨a1, a2⟩ := hL4.2.1 (k - 470) (by omega)
      rw [show 470 + (k - 470) = k by omega] at a1 a2
      rw [(zE_m h).1, (zE_m h).2]
      exact ⟨a1, a2⟩
  · exact lz_loop SX hL L 0 0 0 (fun _ => zS0) zS0 (im4 474) im4 (by omega) (by omega) (zLW_0 hX4 h471 h470)
end ZBEG
