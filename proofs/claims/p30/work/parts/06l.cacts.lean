/-! THE CLASS: what its shop does -/
def zFr (im im' : ZI) : Prop := ∀ k, k < 2 ∨ 23 ≤ k → im' k = im k
theorem zFr.rf {im : ZI} : zFr im im := fun _ _ => rfl
theorem zFr.u {im im' : ZI} (h : zFr im im') {k j : Nat} {v : Int32} (hk : 2 ≤ k ∧ k < 23) : zFr im (zz_u im' k j v) := fun q hq => by
  rw [zz_u_off _ _ _ _ (by omega)]
  exact h q hq
def zA (im im' : ZI) (r cd ans : Int32) (s' : ZSt) (nw' nc' : Nat) : Prop := zFr im im' ∧ if cd ≥ 0 then r = ans ∧ rS im' 2 s' nw' nc' else r = cd ∧ im' = im
theorem zA.no {im : ZI} {r cd ans : Int32} {s' : ZSt} {nw' nc' : Nat} (h : ¬ cd ≥ 0) (hr : r = cd) : zA im im r cd ans s' nw' nc' := ⟨zFr.rf, by rw [if_neg h]; exact ⟨hr, rfl⟩⟩
theorem zA.yes {im im' : ZI} {r cd ans : Int32} {s' : ZSt} {nw' nc' : Nat} (h : cd ≥ 0) (hf : zFr im im') (hr : r = ans) (hs : rS im' 2 s' nw' nc') : zA im im' r cd ans s' nw' nc' := ⟨hf, by rw [if_pos h]; exact ⟨hr, hs⟩⟩
section ZRU
variable {im : ZI} {s : ZSt} {nw nc : Nat}
theorem rS.u_set (h : rS im 2 s nw nc) (hw : nw ≤ 6) {k : Nat} {v : Int32} (hk : k < 4) : rS (zz_u im 5 k v) 2 (upd s (4 + k) v) nw nc := by
  obtain ⟨⟨a1, a2, a3, a4⟩, b, c, d, e⟩ := h
  refine ⟨⟨?_, ?_, ?_, ?_⟩, fun j hj => ?_, fun m hm => ?_, fun w hw2 => ?_, fun c1 hc f hf e5 => ?_⟩
  · rw [zz_u_n _ _ (by omega), u_ne _ _ (by omega)]; exact a1
  · rw [zz_u_n _ _ (by omega), u_ne _ _ (by omega)]; exact a2
  · rw [zz_u_n _ _ (by omega), u_ne _ _ (by omega)]; exact a3
  · rw [zz_u_n _ _ (by omega), u_ne _ _ (by omega)]; exact a4
  · by_cases hjk : j = k
    · subst hjk
      rw [zz_u_e, u_eq]
    · rw [zz_u_n _ _ (by omega), u_ne _ _ (by omega)]; exact b j hj
  · rw [zz_u_n _ _ (by omega), u_ne _ _ (by omega)]; exact c m hm
  · rw [zz_u_n _ _ (by omega), zz_u_n _ _ (by omega), u_ne _ _ (by omega), u_ne _ _ (by omega)]; exact d w hw2
  · rw [zz_u_n _ _ (by omega), u_ne _ _ (by omega)]
    exact e c1 hc f hf (fun q => by have := e5 q; rw [u_ne _ _ (by omega)] at this; exact this)
theorem rS.u_cor (h : rS im 2 s nw nc) {k : Nat} {v : Int32} (hk : k < 12) : rS (zz_u im 4 k v) 2 (upd s (8 + k) v) nw nc := by
  obtain ⟨⟨a1, a2, a3, a4⟩, b, c, d, e⟩ := h
  refine ⟨⟨?_, ?_, ?_, ?_⟩, fun j hj => ?_, fun m hm => ?_, fun w hw2 => ?_, fun c1 hc f hf e5 => ?_⟩
  · rw [zz_u_n _ _ (by omega), u_ne _ _ (by omega)]; exact a1
  · rw [zz_u_n _ _ (by omega), u_ne _ _ (by omega)]; exact a2
  · rw [zz_u_n _ _ (by omega), u_ne _ _ (by omega)]; exact a3
  · rw [zz_u_n _ _ (by omega), u_ne _ _ (by omega)]; exact a4
  · rw [zz_u_n _ _ (by omega), u_ne _ _ (by omega)]; exact b j hj
  · by_cases hjk : m = k
    · subst hjk
      rw [zz_u_e, u_eq]
    · rw [zz_u_n _ _ (by omega), u_ne _ _ (by omega)]; exact c m hm
  · rw [zz_u_n _ _ (by omega), zz_u_n _ _ (by omega), u_ne _ _ (by omega), u_ne _ _ (by omega)]; exact d w hw2
  · rw [zz_u_n _ _ (by omega), u_ne _ _ (by omega)]
    exact e c1 hc f hf (fun q => by have := e5 q; rw [u_ne _ _ (by omega)] at this; exact this)
/-- castings, kilograms -/
theorem rS.u_ca (h : rS im 2 s nw nc) {k : Nat} {v : Int32} (hk : k = 2 ∨ k = 3) : rS (zz_u im 2 (4 + k) v) 2 (upd s k v) nw nc := by
  obtain ⟨⟨a1, a2, a3, a4⟩, b, c, d, e⟩ := h
  refine ⟨⟨?_, ?_, ?_, ?_⟩, fun j hj => ?_, fun m hm => ?_, fun w hw2 => ?_, fun c1 hc f hf e5 => ?_⟩
  · rw [zz_u_n _ _ (by omega), u_ne _ _ (by omega)]; exact a1
  · rw [zz_u_n _ _ (by omega), u_ne _ _ (by omega)]; exact a2
  · rcases hk with rfl | rfl
    · rw [zz_u_e, u_eq]
    · rw [zz_u_n _ _ (by omega), u_ne _ _ (by omega)]; exact a3
  · rcases hk with rfl | rfl
    · rw [zz_u_n _ _ (by omega), u_ne _ _ (by omega)]; exact a4
    · rw [zz_u_e, u_eq]
  · rw [zz_u_n _ _ (by omega), u_ne _ _ (by omega)]; exact b j hj
  · rw [zz_u_n _ _ (by omega), u_ne _ _ (by omega)]; exact c m hm
  · rw [zz_u_n _ _ (by omega), zz_u_n _ _ (by omega), u_ne _ _ (by omega), u_ne _ _ (by omega)]; exact d w hw2
  · rw [zz_u_n _ _ (by omega), u_ne _ _ (by omega)]
    exact e c1 hc f hf (fun q => by have := e5 q; rw [u_ne _ _ (by omega)] at this; exact this)
theorem rS.u_com (h : rS im 2 s nw nc) (hw : nw ≤ 6) {c f : Nat} {v : Int32} (hf : f < 8) (h4 : f = 4 → sB 1 3 v → im (13 + c) 5 = s (38 + 8 * c + 5)) : rS (zz_u im (13 + c) f v) 2 (upd s (38 + 8 * c + f) v) nw nc := by
  obtain ⟨⟨a1, a2, a3, a4⟩, b, c', d, e⟩ := h
  refine ⟨⟨?_, ?_, ?_, ?_⟩, fun j hj => ?_, fun m hm => ?_, fun w hw2 => ?_, fun c1 hc f1 hf1 e5 => ?_⟩
  · rw [zz_u_n _ _ (by omega), u_ne _ _ (by omega)]; exact a1
  · rw [zz_u_n _ _ (by omega), u_ne _ _ (by omega)]; exact a2
  · rw [zz_u_n _ _ (by omega), u_ne _ _ (by omega)]; exact a3
  · rw [zz_u_n _ _ (by omega), u_ne _ _ (by omega)]; exact a4
  · rw [zz_u_n _ _ (by omega), u_ne _ _ (by omega)]; exact b j hj
  · rw [zz_u_n _ _ (by omega), u_ne _ _ (by omega)]; exact c' m hm
  · rw [zz_u_n _ _ (by omega), zz_u_n _ _ (by omega), u_ne _ _ (by omega), u_ne _ _ (by omega)]; exact d w hw2
  · by_cases hcf : c1 = c ∧ f1 = f
    · obtain ⟨rfl, rfl⟩ := hcf
      rw [show (2 + 11 + c1 : Nat) = 13 + c1 by omega, zz_u_e, u_eq]
    · rw [zz_u_n _ _ (by omega), u_ne _ _ (by omega)]
      by_cases hc4 : c1 = c ∧ f = 4 ∧ f1 = 5
      · obtain ⟨rfl, rfl, rfl⟩ := hc4
        have q := e5 rfl
        rw [u_eq] at q
        have := h4 rfl q
        rw [show (2 + 11 + c1 : Nat) = 13 + c1 by omega]
        exact this
      · exact e c1 hc f1 hf1 (fun q => by have := e5 q; rw [u_ne _ _ (by omega)] at this; exact this)
end ZRU
section ZCAC
variable {G : ZG} {l : Launch}
theorem cx_handOver (x : Int32) (nw nc : Nat) (s : ZSt) (im : ZI) (hI : sI s nw nc) (hr : rS im 2 s nw nc) : zz_OI G l 1 mX4_handOver [.ref 2, .int x] zE im (fun r im' => zA im im' r (op_cSt s x 2) (op_in (op_del s x.toNatClampNeg) nc 3) (op_del s x.toNatClampNeg) nw nc) := by
  have h1 : im 2 5 = nI nc := hr.n.2.1.trans hI.2.2.1
  have hn := hI.2.2.2.1
  have hw := hI.2.1
  have e1 : s 1 = nI nc := hI.2.2.1
  have hcd : op_cSt s x 2 = if x ≥ 0 ∧ x ≤ nI nc - 1 then (if s (38 + 8 * x.toNatClampNeg + 4) = 2 then 0 else -100002) else -100001 := by rw [op_cSt, e1]
  refine zz_intro (isI := false) (by decide) rfl (Nat.le_of_ble_eq_true rfl) (fun h => by cases h) (fun w S => ?_)
  refine zz_aload_0 S dX4_handOver_0 (q := 1) rfl ?_
  refine zz_iload_1 S dX4_handOver_1 (q := 2) rfl ?_
  -- at 2: invokevirtual 111
  refine zz_virtP S yy_X4_hasCommission lX4_111 (ci := 4) (by decide) rfl (cx_hasCom x nc im h1 hn) rfl (Nat.le_of_ble_eq_true rfl) (Nat.le_of_ble_eq_true rfl) rfl (Nat.le_of_ble_eq_true rfl) rfl dX4_handOver_2 (q := 5) rfl ?_
  refine zz_if_ne S dX4_handOver_5 (t := 11) (by decide) (q := 8) rfl (fun b1 => ?_) (fun b1 => ?_)
  -- then 11 else 8
  · have b1' := zs_ne0 b1
    rw [if_pos b1'] at hcd
    obtain ⟨c, hc, hx⟩ := zs_within (n := nc) (by omega) b1'
    have hcl : x.toNatClampNeg = c := zs_cl hx (by omega)
    have hck := zc_k c (by omega)
    have hcr := zc_ref c (by omega)
    have hcE : 13 + c < 470 := by omega
    have e4 : im (13 + c) 4 = s (38 + 8 * c + 4) := hr.com hc (by omega) (by omega)
    rw [hcl] at hcd
    refine zz_aload_0 S dX4_handOver_11 (q := 12) rfl ?_
    refine zz_getR S fX4_26 rfl (Nat.le_of_ble_eq_true rfl) rfl rfl dX4_handOver_12 (q := 15) rfl ?_
    refine zz_iload_1 S dX4_handOver_15 (q := 16) rfl ?_
    refine zz_aaN S (j := c) (Nat.le_of_ble_eq_true rfl) rfl ⟨Nat.le_of_ble_eq_true rfl, Nat.le_of_ble_eq_true rfl⟩ (Nat.le_of_ble_eq_true rfl) hx (by omega) hcr dX4_handOver_16 (q := 17) rfl ?_
    refine zz_getI S fX4_99 rfl hcE hck dX4_handOver_17 (q := 20) rfl ?_
    refine zz_iconst S (v := 2) rfl dX4_handOver_20 (q := 21) rfl ?_
    refine zz_icmp_eq S dX4_handOver_21 (t := 27) (by decide) (q := 24) rfl (fun b2 => ?_) (fun b2 => ?_)
    -- then 27 else 24
    · rw [e4] at b2
      rw [if_pos b2] at hcd
      refine zz_aload_0 S dX4_handOver_27 (q := 28) rfl ?_
      refine zz_getR S fX4_26 rfl (Nat.le_of_ble_eq_true rfl) rfl rfl dX4_handOver_28 (q := 31) rfl ?_
      refine zz_iload_1 S dX4_handOver_31 (q := 32) rfl ?_
      refine zz_aaN S (j := c) (Nat.le_of_ble_eq_true rfl) rfl ⟨Nat.le_of_ble_eq_true rfl, Nat.le_of_ble_eq_true rfl⟩ (Nat.le_of_ble_eq_true rfl) hx (by omega) hcr dX4_handOver_32 (q := 33) rfl ?_
      refine zz_iconst S (v := 3) rfl dX4_handOver_33 (q := 34) rfl ?_
      refine zz_putI S fX4_99 rfl rfl hcE hck dX4_handOver_34 (q := 37) rfl ?_
      refine zz_aload_0 S dX4_handOver_37 (q := 38) rfl ?_
      refine zz_iconst S (v := 3) rfl dX4_handOver_38 (q := 39) rfl ?_
      -- at 39: invokevirtual 134
      have hr2 : rS (zz_u im (13 + c) 4 3) 2 (op_del s c) nw nc := hr.u_com hw (f := 4) (v := 3) (by omega) (fun _ _ => hr.com5 hc (by rw [b2]; exact ⟨by decide, by decide⟩))
      refine zz_virtP S yy_X4_commissionsInState lX4_134 (ci := 4) (by decide) rfl (cx_inState 3 nc (op_del s c) (zz_u im (13 + c) 4 3) (by rw [zz_u_n _ _ (by omega)]; exact h1) hn (fun k hk => hr2.com hk (by omega) (by omega))) rfl (Nat.le_of_ble_eq_true rfl) (Nat.le_of_ble_eq_true rfl) rfl (Nat.le_of_ble_eq_true rfl) rfl dX4_handOver_39 (q := 42) rfl ?_
      refine zz_iret S dX4_handOver_42 ⟨rfl, _, rfl, rfl, ?_⟩
      rw [hcl]
      exact zA.yes (by rw [hcd]; decide) (zFr.rf.u (by omega)) rfl hr2
    · rw [e4] at b2
      rw [if_neg b2] at hcd
      refine zz_ldc S (v := (-100002)) kX4_114 dX4_handOver_24 (q := 26) rfl ?_
      -- at 26: ireturn 
      refine zz_iret S dX4_handOver_26 ⟨rfl, _, rfl, rfl, ?_⟩
      exact zA.no (by rw [hcd]; decide) (by rw [hcd])
  · rw [if_neg (zs_b1.mp b1)] at hcd
    refine zz_ldc S (v := (-100001)) kX4_65 dX4_handOver_8 (q := 10) rfl ?_
    -- at 10: ireturn 
    refine zz_iret S dX4_handOver_10 ⟨rfl, _, rfl, rfl, ?_⟩
    exact zA.no (by rw [hcd]; decide) (by rw [hcd])
theorem cx_reopen (x y : Int32) (nw nc : Nat) (s : ZSt) (im : ZI) (hI : sI s nw nc) (hr : rS im 2 s nw nc) : zz_OI G l 1 mX4_reopen [.ref 2, .int x, .int y] zE im (fun r im' => zA im im' r (op_cSt s x 4) y (op_again s x.toNatClampNeg) nw nc) := by
  have h1 : im 2 5 = nI nc := hr.n.2.1.trans hI.2.2.1
  have hn := hI.2.2.2.1
  have hw := hI.2.1
  have e1 : s 1 = nI nc := hI.2.2.1
  have hcd : op_cSt s x 4 = if x ≥ 0 ∧ x ≤ nI nc - 1 then (if s (38 + 8 * x.toNatClampNeg + 4) = 4 then 0 else -100002) else -100001 := by rw [op_cSt, e1]
  refine zz_intro (isI := false) (by decide) rfl (Nat.le_of_ble_eq_true rfl) (fun h => by cases h) (fun w S => ?_)
  refine zz_aload_0 S dX4_reopen_0 (q := 1) rfl ?_
  refine zz_iload_1 S dX4_reopen_1 (q := 2) rfl ?_
  -- at 2: invokevirtual 111
  refine zz_virtP S yy_X4_hasCommission lX4_111 (ci := 4) (by decide) rfl (cx_hasCom x nc im h1 hn) rfl (Nat.le_of_ble_eq_true rfl) (Nat.le_of_ble_eq_true rfl) rfl (Nat.le_of_ble_eq_true rfl) rfl dX4_reopen_2 (q := 5) rfl ?_
  refine zz_if_ne S dX4_reopen_5 (t := 11) (by decide) (q := 8) rfl (fun b1 => ?_) (fun b1 => ?_)
  -- then 11 else 8
  · have b1' := zs_ne0 b1
    rw [if_pos b1'] at hcd
    obtain ⟨c, hc, hx⟩ := zs_within (n := nc) (by omega) b1'
    have hcl : x.toNatClampNeg = c := zs_cl hx (by omega)
    have hck := zc_k c (by omega)
    have hcr := zc_ref c (by omega)
    have hcE : 13 + c < 470 := by omega
    have e4 : im (13 + c) 4 = s (38 + 8 * c + 4) := hr.com hc (by omega) (by omega)
    rw [hcl] at hcd
    refine zz_aload_0 S dX4_reopen_11 (q := 12) rfl ?_
    refine zz_getR S fX4_26 rfl (Nat.le_of_ble_eq_true rfl) rfl rfl dX4_reopen_12 (q := 15) rfl ?_
    refine zz_iload_1 S dX4_reopen_15 (q := 16) rfl ?_
    refine zz_aaN S (j := c) (Nat.le_of_ble_eq_true rfl) rfl ⟨Nat.le_of_ble_eq_true rfl, Nat.le_of_ble_eq_true rfl⟩ (Nat.le_of_ble_eq_true rfl) hx (by omega) hcr dX4_reopen_16 (q := 17) rfl ?_
    refine zz_getI S fX4_99 rfl hcE hck dX4_reopen_17 (q := 20) rfl ?_
    refine zz_iconst S (v := 4) rfl dX4_reopen_20 (q := 21) rfl ?_
    refine zz_icmp_eq S dX4_reopen_21 (t := 27) (by decide) (q := 24) rfl (fun b2 => ?_) (fun b2 => ?_)
    -- then 27 else 24
    · rw [e4] at b2
      rw [if_pos b2] at hcd
      refine zz_aload_0 S dX4_reopen_27 (q := 28) rfl ?_
      refine zz_getR S fX4_26 rfl (Nat.le_of_ble_eq_true rfl) rfl rfl dX4_reopen_28 (q := 31) rfl ?_
      refine zz_iload_1 S dX4_reopen_31 (q := 32) rfl ?_
      refine zz_aaN S (j := c) (Nat.le_of_ble_eq_true rfl) rfl ⟨Nat.le_of_ble_eq_true rfl, Nat.le_of_ble_eq_true rfl⟩ (Nat.le_of_ble_eq_true rfl) hx (by omega) hcr dX4_reopen_32 (q := 33) rfl ?_
      refine zz_iconst S (v := 0) rfl dX4_reopen_33 (q := 34) rfl ?_
      refine zz_putI S fX4_99 rfl rfl hcE hck dX4_reopen_34 (q := 37) rfl ?_
      refine zz_iload_2 S dX4_reopen_37 (q := 38) rfl ?_
      -- at 38: ireturn 
      have hr2 : rS (zz_u im (13 + c) 4 0) 2 (op_again s c) nw nc := hr.u_com hw (f := 4) (v := 0) (by omega) (fun _ h => absurd h.1 (by decide))
      refine zz_iret S dX4_reopen_38 ⟨rfl, _, rfl, rfl, ?_⟩
      rw [hcl]
      exact zA.yes (by rw [hcd]; decide) (zFr.rf.u (by omega)) rfl hr2
    · rw [e4] at b2
      rw [if_neg b2] at hcd
      refine zz_ldc S (v := (-100002)) kX4_114 dX4_reopen_24 (q := 26) rfl ?_
      -- at 26: ireturn 
      refine zz_iret S dX4_reopen_26 ⟨rfl, _, rfl, rfl, ?_⟩
      exact zA.no (by rw [hcd]; decide) (by rw [hcd])
  · rw [if_neg (zs_b1.mp b1)] at hcd
    refine zz_ldc S (v := (-100001)) kX4_65 dX4_reopen_8 (q := 10) rfl ?_
    -- at 10: ireturn 
    refine zz_iret S dX4_reopen_10 ⟨rfl, _, rfl, rfl, ?_⟩
    exact zA.no (by rw [hcd]; decide) (by rw [hcd])
theorem cx_conclude (x y : Int32) (nw nc : Nat) (s : ZSt) (im : ZI) (hI : sI s nw nc) (hr : rS im 2 s nw nc) (hy : y = ol_reason s x) : zz_OI G l 4 mX4_conclude [.ref 2, .int x, .int y] zE im (fun r im' => zA im im' r (op_cSt s x 0) (sp_re s x.toNatClampNeg) (op_dec s x.toNatClampNeg) nw nc) := by
  have h1 : im 2 5 = nI nc := hr.n.2.1.trans hI.2.2.1
  have hn := hI.2.2.2.1
  have hw := hI.2.1
  have e1 : s 1 = nI nc := hI.2.2.1
  have hcd : op_cSt s x 0 = if x ≥ 0 ∧ x ≤ nI nc - 1 then (if s (38 + 8 * x.toNatClampNeg + 4) = 0 then 0 else -100002) else -100001 := by rw [op_cSt, e1]
  refine zz_intro (isI := false) (by decide) rfl (Nat.le_of_ble_eq_true rfl) (fun h => by cases h) (fun w S => ?_)
  refine zz_aload_0 S dX4_conclude_0 (q := 1) rfl ?_
  refine zz_iload_1 S dX4_conclude_1 (q := 2) rfl ?_
  -- at 2: invokevirtual 111
  refine zz_virtP S yy_X4_hasCommission lX4_111 (ci := 4) (by decide) rfl (cx_hasCom x nc im h1 hn) rfl (Nat.le_of_ble_eq_true rfl) (Nat.le_of_ble_eq_true rfl) rfl (Nat.le_of_ble_eq_true rfl) rfl dX4_conclude_2 (q := 5) rfl ?_
  refine zz_if_ne S dX4_conclude_5 (t := 11) (by decide) (q := 8) rfl (fun b1 => ?_) (fun b1 => ?_)
  -- then 11 else 8
  · have b1' := zs_ne0 b1
    rw [if_pos b1'] at hcd
    obtain ⟨c, hc, hx⟩ := zs_within (n := nc) (by omega) b1'
    have hcl : x.toNatClampNeg = c := zs_cl hx (by omega)
    have hck := zc_k c (by omega)
    have hcr := zc_ref c (by omega)
    have hcE : 13 + c < 470 := by omega
    have e4 : im (13 + c) 4 = s (38 + 8 * c + 4) := hr.com hc (by omega) (by omega)
    rw [hcl] at hcd
    have hy2 : y = sp_re s c := by rw [hy, ol_reason, e1, if_pos b1', hcl]
    refine zz_aload_0 S dX4_conclude_11 (q := 12) rfl ?_
    refine zz_getR S fX4_26 rfl (Nat.le_of_ble_eq_true rfl) rfl rfl dX4_conclude_12 (q := 15) rfl ?_
    refine zz_iload_1 S dX4_conclude_15 (q := 16) rfl ?_
    refine zz_aaN S (j := c) (Nat.le_of_ble_eq_true rfl) rfl ⟨Nat.le_of_ble_eq_true rfl, Nat.le_of_ble_eq_true rfl⟩ (Nat.le_of_ble_eq_true rfl) hx (by omega) hcr dX4_conclude_16 (q := 17) rfl ?_
    refine zz_astore_3 S rfl dX4_conclude_17 (q := 18) rfl ?_
    refine zz_aload_3 S dX4_conclude_18 (q := 19) rfl ?_
    refine zz_getI S fX4_99 rfl hcE hck dX4_conclude_19 (q := 22) rfl ?_
    refine zz_if_eq S dX4_conclude_22 (t := 28) (by decide) (q := 25) rfl (fun b2 => ?_) (fun b2 => ?_)
    -- then 28 else 25
    · rw [e4] at b2
      rw [if_pos b2] at hcd
      refine zz_iload_2 S dX4_conclude_28 (q := 29) rfl ?_
      refine zz_if_ne S dX4_conclude_29 (t := 49) (by decide) (q := 32) rfl (fun b3 => ?_) (fun b3 => ?_)
      -- then 49 else 32
      · have b3' : ¬ sp_re s c = 0 := fun e => b3 (by rw [hy2, e])
        refine zz_aload_3 S dX4_conclude_49 (q := 50) rfl ?_
        refine zz_iload_2 S dX4_conclude_50 (q := 51) rfl ?_
        refine zz_putI S fX4_108 rfl rfl hcE hck dX4_conclude_51 (q := 54) rfl ?_
        refine zz_aload_3 S dX4_conclude_54 (q := 55) rfl ?_
        refine zz_iconst S (v := 4) rfl dX4_conclude_55 (q := 56) rfl ?_
        refine zz_putI S fX4_99 rfl rfl hcE hck dX4_conclude_56 (q := 59) rfl ?_
        refine zz_iload_2 S dX4_conclude_59 (q := 60) rfl ?_
        -- at 60: ireturn 
        refine zz_iret S dX4_conclude_60 ⟨rfl, _, rfl, rfl, ?_⟩
        rw [hcl]
        refine zA.yes (by rw [hcd]; decide) ((zFr.rf.u (by omega)).u (by omega)) hy2 ?_
        rw [op_dec, if_neg b3', hy2]
        exact (hr.u_com hw (f := 7) (by omega) (fun e => absurd e (by decide))).u_com hw (f := 4) (v := 4) (by omega) (fun _ h => absurd h.2 (by decide))
      · have b3' : sp_re s c = 0 := by rw [← hy2]; exact b3
        refine zz_aload_3 S dX4_conclude_32 (q := 33) rfl ?_
        refine zz_aload_0 S dX4_conclude_33 (q := 34) rfl ?_
        refine zz_iload_1 S dX4_conclude_34 (q := 35) rfl ?_
        -- at 35: invokevirtual 115
        refine zz_virtP S yy_X4_declinationOfDial lX4_115 (ci := 4) (by decide) rfl (cx_declD x c nw nc s im hx hc hI hr) rfl (Nat.le_of_ble_eq_true rfl) (Nat.le_of_ble_eq_true rfl) rfl (Nat.le_of_ble_eq_true rfl) rfl dX4_conclude_35 (q := 38) rfl ?_
        refine zz_putI S fX4_102 rfl rfl hcE hck dX4_conclude_38 (q := 41) rfl ?_
        refine zz_aload_3 S dX4_conclude_41 (q := 42) rfl ?_
        refine zz_iconst S (v := 1) rfl dX4_conclude_42 (q := 43) rfl ?_
        refine zz_putI S fX4_99 rfl rfl hcE hck dX4_conclude_43 (q := 46) rfl ?_
        refine zz_goto S dX4_conclude_46 (t := 59) (by decide) ?_
        refine zz_iload_2 S dX4_conclude_59 (q := 60) rfl ?_
        -- at 60: ireturn 
        refine zz_iret S dX4_conclude_60 ⟨rfl, _, rfl, rfl, ?_⟩
        rw [hcl]
        refine zA.yes (by rw [hcd]; decide) ((zFr.rf.u (by omega)).u (by omega)) hy2 ?_
        rw [op_dec, if_pos b3']
        exact (hr.u_com hw (f := 5) (by omega) (fun e => absurd e (by decide))).u_com hw (f := 4) (v := 1) (by omega) (fun _ _ => by rw [zz_u_e, u_eq])
    · rw [e4] at b2
      rw [if_neg b2] at hcd
      refine zz_ldc S (v := (-100002)) kX4_114 dX4_conclude_25 (q := 27) rfl ?_
      -- at 27: ireturn 
      refine zz_iret S dX4_conclude_27 ⟨rfl, _, rfl, rfl, ?_⟩
      exact zA.no (by rw [hcd]; decide) (by rw [hcd])
  · rw [if_neg (zs_b1.mp b1)] at hcd
    refine zz_ldc S (v := (-100001)) kX4_65 dX4_conclude_8 (q := 10) rfl ?_
    -- at 10: ireturn 
    refine zz_iret S dX4_conclude_10 ⟨rfl, _, rfl, rfl, ?_⟩
    exact zA.no (by rw [hcd]; decide) (by rw [hcd])
theorem cx_chCor (x v : Int32) (nw nc : Nat) (s : ZSt) (im : ZI) (hI : sI s nw nc) (hr : rS im 2 s nw nc) : zz_OI G l 1 mX4_changeCorrection [.ref 2, .int x, .int v] zE im (fun r im' => zA im im' r (if (x ≥ 0 ∧ x ≤ 11) ∧ v ≥ -20 ∧ v ≤ 20 then 0 else -100001) (s (8 + x.toNatClampNeg)) (upd s (8 + x.toNatClampNeg) v) nw nc) := by
  refine zz_intro (isI := false) (by decide) rfl (Nat.le_of_ble_eq_true rfl) (fun h => by cases h) (fun w S => ?_)
  refine zz_iload_1 S dX4_changeCorrection_0 (q := 1) rfl ?_
  refine zz_iconst S (v := 0) rfl dX4_changeCorrection_1 (q := 2) rfl ?_
  refine zz_bipush S (v := 11) rfl dX4_changeCorrection_2 (q := 4) rfl ?_
  -- at 4: invokestatic 61
  refine zz_statNP S yy_X7_isWithin lX4_61 (cx_within x 0 11 zE im) rfl (Nat.le_of_ble_eq_true rfl) (Nat.le_of_ble_eq_true rfl) rfl dX4_changeCorrection_4 (q := 7) rfl ?_
  refine zz_if_eq S dX4_changeCorrection_7 (t := 21) (by decide) (q := 10) rfl (fun b1 => ?_) (fun b1 => ?_)
  -- then 21 else 10
  · refine zz_ldc S (v := (-100001)) kX4_65 dX4_changeCorrection_21 (q := 23) rfl ?_
    -- at 23: ireturn 
    refine zz_iret S dX4_changeCorrection_23 ⟨rfl, _, rfl, rfl, ?_⟩
    rw [if_neg (fun e => zs_b1.mp b1 e.1)]
    exact zA.no (by decide) rfl
  have b1' := zs_ne0 b1
  obtain ⟨k, hk, hx⟩ := zs_inr (k := 11) (by omega) b1'
  refine zz_iload_2 S dX4_changeCorrection_10 (q := 11) rfl ?_
  refine zz_bipush S (v := (-20)) rfl dX4_changeCorrection_11 (q := 13) rfl ?_
  refine zz_bipush S (v := 20) rfl dX4_changeCorrection_13 (q := 15) rfl ?_
  -- at 15: invokestatic 61
  refine zz_statNP S yy_X7_isWithin lX4_61 (cx_within v (-20) 20 zE im) rfl (Nat.le_of_ble_eq_true rfl) (Nat.le_of_ble_eq_true rfl) rfl dX4_changeCorrection_15 (q := 18) rfl ?_
  refine zz_if_ne S dX4_changeCorrection_18 (t := 24) (by decide) (q := 21) rfl (fun b2 => ?_) (fun b2 => ?_)
  -- then 24 else 21
  · have b2' := zs_ne0 b2
    refine zz_aload_0 S dX4_changeCorrection_24 (q := 25) rfl ?_
    refine zz_getR S fX4_17 rfl (Nat.le_of_ble_eq_true rfl) rfl rfl dX4_changeCorrection_25 (q := 28) rfl ?_
    refine zz_iload_1 S dX4_changeCorrection_28 (q := 29) rfl ?_
    refine zz_iaN S (j := k) (Nat.le_of_ble_eq_true rfl) rfl (Nat.le_of_ble_eq_true rfl) hx (by omega) dX4_changeCorrection_29 (q := 30) rfl ?_
    refine zz_istore_3 S rfl dX4_changeCorrection_30 (q := 31) rfl ?_
    refine zz_aload_0 S dX4_changeCorrection_31 (q := 32) rfl ?_
    refine zz_getR S fX4_17 rfl (Nat.le_of_ble_eq_true rfl) rfl rfl dX4_changeCorrection_32 (q := 35) rfl ?_
    refine zz_iload_1 S dX4_changeCorrection_35 (q := 36) rfl ?_
    refine zz_iload_2 S dX4_changeCorrection_36 (q := 37) rfl ?_
    refine zz_iaS S (j := k) (Nat.le_of_ble_eq_true rfl) rfl (Nat.le_of_ble_eq_true rfl) hx (by omega) dX4_changeCorrection_37 (q := 38) rfl ?_
    refine zz_iload_3 S dX4_changeCorrection_38 (q := 39) rfl ?_
    -- at 39: ireturn 
    refine zz_iret S dX4_changeCorrection_39 ⟨rfl, _, rfl, rfl, ?_⟩
    rw [if_pos ⟨b1', b2'⟩, zs_cl hx (by omega)]
    exact zA.yes (by decide) (zFr.rf.u (by omega)) (hr.cor (by omega)) (hr.u_cor (by omega))
  · refine zz_ldc S (v := (-100001)) kX4_65 dX4_changeCorrection_21 (q := 23) rfl ?_
    -- at 23: ireturn 
    refine zz_iret S dX4_changeCorrection_23 ⟨rfl, _, rfl, rfl, ?_⟩
    rw [if_neg (fun e => zs_b1.mp b2 e.2)]
    exact zA.no (by decide) rfl
theorem st_least {k : Nat} (hk : k < 4) : (zz_st 0).getD k 0 = sp_least (nI k) := by
  rcases (show k = 0 ∨ k = 1 ∨ k = 2 ∨ k = 3 by omega) with rfl | rfl | rfl | rfl <;> decide
theorem st_most {k : Nat} (hk : k < 4) : (zz_st 1).getD k 0 = sp_most (nI k) := by
  rcases (show k = 0 ∨ k = 1 ∨ k = 2 ∨ k = 3 by omega) with rfl | rfl | rfl | rfl <;> decide
theorem cx_chSet (x v : Int32) (nw nc : Nat) (s : ZSt) (im : ZI) (hI : sI s nw nc) (hr : rS im 2 s nw nc) : zz_OI G l 1 mX4_changeSetting [.ref 2, .int x, .int v] zE im (fun r im' => zA im im' r (if (x ≥ 0 ∧ x ≤ 3) ∧ v ≥ sp_least x ∧ v ≤ sp_most x then 0 else -100001) (s (4 + x.toNatClampNeg)) (upd s (4 + x.toNatClampNeg) v) nw nc) := by
  refine zz_intro (isI := false) (by decide) rfl (Nat.le_of_ble_eq_true rfl) (fun h => by cases h) (fun w S => ?_)
  refine zz_iload_1 S dX4_changeSetting_0 (q := 1) rfl ?_
  refine zz_iconst S (v := 0) rfl dX4_changeSetting_1 (q := 2) rfl ?_
  refine zz_iconst S (v := 3) rfl dX4_changeSetting_2 (q := 3) rfl ?_
  -- at 3: invokestatic 61
  refine zz_statNP S yy_X7_isWithin lX4_61 (cx_within x 0 3 zE im) rfl (Nat.le_of_ble_eq_true rfl) (Nat.le_of_ble_eq_true rfl) rfl dX4_changeSetting_3 (q := 6) rfl ?_
  refine zz_if_eq S dX4_changeSetting_6 (t := 26) (by decide) (q := 9) rfl (fun b1 => ?_) (fun b1 => ?_)
  -- then 26 else 9
  · refine zz_ldc S (v := (-100001)) kX4_65 dX4_changeSetting_26 (q := 28) rfl ?_
    -- at 28: ireturn 
    refine zz_iret S dX4_changeSetting_28 ⟨rfl, _, rfl, rfl, ?_⟩
    rw [if_neg (fun e => zs_b1.mp b1 e.1)]
    exact zA.no (by decide) rfl
  have b1' := zs_ne0 b1
  obtain ⟨k, hk, hx⟩ := zs_inr (k := 3) (by omega) b1'
  refine zz_iload_2 S dX4_changeSetting_9 (q := 10) rfl ?_
  refine zz_gets S (i := 0) (by decide) fX4_66 dX4_changeSetting_10 (q := 13) rfl ?_
  refine zz_iload_1 S dX4_changeSetting_13 (q := 14) rfl ?_
  refine zz_saN S (by decide) hx (show k < 4 by omega) dX4_changeSetting_14 (q := 15) rfl ?_
  refine zz_gets S (i := 1) (by decide) fX4_69 dX4_changeSetting_15 (q := 18) rfl ?_
  refine zz_iload_1 S dX4_changeSetting_18 (q := 19) rfl ?_
  refine zz_saN S (by decide) hx (show k < 4 by omega) dX4_changeSetting_19 (q := 20) rfl ?_
  -- at 20: invokestatic 61
  rw [st_least (by omega), st_most (by omega), ← hx]
  refine zz_statNP S yy_X7_isWithin lX4_61 (cx_within v (sp_least x) (sp_most x) zE im) rfl (Nat.le_of_ble_eq_true rfl) (Nat.le_of_ble_eq_true rfl) rfl dX4_changeSetting_20 (q := 23) rfl ?_
  refine zz_if_ne S dX4_changeSetting_23 (t := 29) (by decide) (q := 26) rfl (fun b2 => ?_) (fun b2 => ?_)
  -- then 29 else 26
  · have b2' := zs_ne0 b2
    refine zz_aload_0 S dX4_changeSetting_29 (q := 30) rfl ?_
    refine zz_getR S fX4_21 rfl (Nat.le_of_ble_eq_true rfl) rfl rfl dX4_changeSetting_30 (q := 33) rfl ?_
    refine zz_iload_1 S dX4_changeSetting_33 (q := 34) rfl ?_
    refine zz_iaN S (j := k) (Nat.le_of_ble_eq_true rfl) rfl (Nat.le_of_ble_eq_true rfl) hx (by omega) dX4_changeSetting_34 (q := 35) rfl ?_
    refine zz_istore_3 S rfl dX4_changeSetting_35 (q := 36) rfl ?_
    refine zz_aload_0 S dX4_changeSetting_36 (q := 37) rfl ?_
    refine zz_getR S fX4_21 rfl (Nat.le_of_ble_eq_true rfl) rfl rfl dX4_changeSetting_37 (q := 40) rfl ?_
    refine zz_iload_1 S dX4_changeSetting_40 (q := 41) rfl ?_
    refine zz_iload_2 S dX4_changeSetting_41 (q := 42) rfl ?_
    refine zz_iaS S (j := k) (Nat.le_of_ble_eq_true rfl) rfl (Nat.le_of_ble_eq_true rfl) hx (by omega) dX4_changeSetting_42 (q := 43) rfl ?_
    refine zz_iload_3 S dX4_changeSetting_43 (q := 44) rfl ?_
    -- at 44: ireturn 
    refine zz_iret S dX4_changeSetting_44 ⟨rfl, _, rfl, rfl, ?_⟩
    rw [if_pos ⟨b1', b2'⟩, zs_cl hx (by omega)]
    exact zA.yes (by decide) (zFr.rf.u (by omega)) (hr.set (by omega)) (hr.u_set hI.2.1 (by omega))
  · refine zz_ldc S (v := (-100001)) kX4_65 dX4_changeSetting_26 (q := 28) rfl ?_
    -- at 28: ireturn 
    refine zz_iret S dX4_changeSetting_28 ⟨rfl, _, rfl, rfl, ?_⟩
    rw [if_neg (fun e => zs_b1.mp b2 e.2)]
    exact zA.no (by decide) rfl
end ZCAC
