/-! THE START: what the statement gives of the tables, the arrays that nobody writes, the script -/
theorem zst_arrI {s : State} {args : Array Value} {ty : FieldType} (h : (Cond.arrayClass ty).before args s = true) : ∃ cA : ClassId, ArrOfT s cA ty ∧ s.vm.findClass ("[" ++ ty.toString) = some cA := by
  obtain ⟨c, k, comp, h1, h2, h3⟩ := Cond.arrayClass_spec h
  exact ⟨c, fun n z => ⟨fun k h => (by cases h), k, h2, comp, h3⟩, h1⟩
theorem zst_arrO {s : State} {args : Array Value} {C : String} (h : (Cond.arrayOver (.object C)).before args s = true) : ∃ cA : ClassId, ArrOfT s cA (.object C) ∧ va_RA s cA (.object C) := by
  obtain ⟨comp, c, k, h1, h2, h3, h4, h5⟩ := Cond.arrayOver_spec h
  exact ⟨c, fun n z => ⟨fun k h => (by cases h), k, h3, comp, h4⟩, k, comp, h3, h4, h1, h5⟩
theorem zst_inst : ∀ c, c < 8 → Cond.instantiable (zz_cn c) (zz_n c) ∈ zz_t := by
  intro c hc
  rcases (show c = 0 ∨ c = 1 ∨ c = 2 ∨ c = 3 ∨ c = 4 ∨ c = 5 ∨ c = 6 ∨ c = 7 by omega) with rfl | rfl | rfl | rfl | rfl | rfl | rfl | rfl
  · exact n_inst0.1
  · exact n_inst1.1
  · exact n_inst2.1
  · exact n_inst3.1
  · exact n_inst4.1
  · exact n_inst5.1
  · exact n_inst6.1
  · exact n_inst7.1
theorem zz_b_ge {G : ZG} {k : Nat} (h : ¬ k < 1000) : zz_b G k = G.2.2.2.1 (k - 1000) := by
  unfold zz_b
  rw [if_neg h]
abbrev zst_fl : List Cond := flatC (Jvm.Cond.and given_1 narrow_1)
abbrev zst_tm (i : Nat) : Term := .static "SundialWorks" (zz_sn i) "[I"
theorem zst_f1 : ∀ i, i < 3 → Cond.arrayOf (zst_tm i) .int ∈ zst_fl ∧ Cond.eq (.length (zst_tm i)) (.int (Int32.ofNat (zz_st i).length)) ∈ zst_fl := by decide +kernel
theorem zst_f2 : ∀ i, i < 3 → ∀ j, j < (zz_st i).length → Cond.eq (.elem (zst_tm i) (.int (Int32.ofNat j))) (.int ((zz_st i).getD j 0)) ∈ zst_fl := by decide +kernel
theorem zst_f7 : ∀ i, i < 3 → Cond.laysStatic "SundialWorks" (zz_sn i) "[I" ∈ lw_tbl := by
  intro i hi
  rcases (show i = 0 ∨ i = 1 ∨ i = 2 by omega) with rfl | rfl | rfl
  · exact List.mem_of_getElem? (i := 287) (by decide +kernel)
  · exact List.mem_of_getElem? (i := 289) (by decide +kernel)
  · exact List.mem_of_getElem? (i := 103) (by decide +kernel)
set_option maxHeartbeats 4000000 in
theorem zst_K {s : State} {b L : Nat} {xs : Nat → Int32} (hts : ∀ w ∈ lw_tbl, w.before #[Value.ref b] s = true) (hgv : (Jvm.Cond.and given_1 narrow_1).before #[Value.ref b] s = true) (hX : va_X b L xs s s.heap) (hbl : b < s.heap.size) : ∃ G : ZG, G.2.2.1 = s.heap.size ∧ zz_b G 1050 = b ∧ zz_sL G = L ∧ zz_K G s s.heap := by
  have hs := flat_of_before _ hgv
  have hzt : ∀ w ∈ zz_t, w.before #[Value.ref b] s = true := fun w hw => hts w (List.mem_filter.mp hw).1
  have hA : ∀ a : Nat, a < s.heap.size → ¬ (fun q : Nat => s.heap.size ≤ q) a := fun a h => Nat.not_le.mpr h
  -- classes
  have hcl : ∀ k : Nat, ∃ q : ClassId × (Nat → Nat), k < 8 → u_Kn s (zz_cn k) (zz_T k) (zz_n k) q.1 q.2 := by
    intro k
    by_cases hk : k < 8
    · obtain ⟨c0, i0, h0⟩ := u_known hzt (zz_cls hk).2.1 (hzt _ (zst_inst k hk))
      exact ⟨(c0, i0), fun _ => h0⟩
    · exact ⟨(0, fun _ => 0), fun h => absurd h hk⟩
  obtain ⟨D, hD⟩ := Classical.axiomOfChoice hcl
  -- arrays
  obtain ⟨a1, a1o, a1n⟩ := zst_arrI (ty := .int) (hzt _ n_arrI)
  obtain ⟨a2, a2o, a2n⟩ := zst_arrI (ty := .boolean) (hzt _ n_arrZ)
  obtain ⟨a3, a3o, a3n⟩ := zst_arrI (ty := .char) (hzt _ n_arrC)
  have o4 : (Cond.arrayOver (.object RX6)).before #[Value.ref b] s = true := hts _ (List.mem_of_getElem? (i := 36) (by decide +kernel))
  have o5 : (Cond.arrayOver (.object RX0)).before #[Value.ref b] s = true := hts _ (List.mem_of_getElem? (i := 38) (by decide +kernel))
  have o6 : (Cond.arrayOver (.object RX4)).before #[Value.ref b] s = true := hts _ (List.mem_of_getElem? (i := 138) (by decide +kernel))
  have o7 : (Cond.arrayOver (.object RX5)).before #[Value.ref b] s = true := hts _ (List.mem_of_getElem? (i := 158) (by decide +kernel))
  obtain ⟨a4, a4o, a4n⟩ := zst_arrO o4
  obtain ⟨a5, a5o, a5n⟩ := zst_arrO o5
  obtain ⟨a6, a6o, a6n⟩ := zst_arrO o6
  obtain ⟨a7, a7o, a7n⟩ := zst_arrO o7
  -- statics
  have hsi : (Cond.initialized "SundialWorks").before #[Value.ref b] s = true := hts _ (List.mem_of_getElem? (i := 4) (by decide +kernel))
  have hst : ∀ i : Nat, ∃ t : Nat, i < 3 → va_Z "SundialWorks" (zz_sn i) "[I" (.ref t) (fun q : Nat => s.heap.size ≤ q) s s.heap ∧ va_T .int t (zz_st i).length (fun j => .int ((zz_st i).getD j 0)) (fun q : Nat => s.heap.size ≤ q) s s.heap := by
    intro i
    by_cases hi : i < 3
    · have hN : (zz_st i).length < 2 ^ 31 := by
        rcases (show i = 0 ∨ i = 1 ∨ i = 2 by omega) with rfl | rfl | rfl <;> decide
      obtain ⟨t, ht, hT⟩ := va_Tof (tm := zst_tm i) (f := fun j => .int ((zz_st i).getD j 0)) (A := fun q : Nat => s.heap.size ≤ q) hN (hs _ (zst_f1 i hi).1) (va_eqt (hs _ (zst_f1 i hi).2)) (fun j hj => va_eqt (hs _ (zst_f2 i hi j hj))) hA
      exact ⟨t, fun _ => ⟨va_Zref (hts _ (zst_f7 i hi)) hsi ht hA, hT⟩⟩
    · exact ⟨0, fun h => absurd h hi⟩
  obtain ⟨T, hT⟩ := Classical.axiomOfChoice hst
  -- the script
  have hScr : va_T .int b L (fun j => .int (xs j)) (fun q : Nat => s.heap.size ≤ q) s s.heap := by
    obtain ⟨scr, h1, h2, h3, h4, h5⟩ := hX
    exact ⟨scr, h1, h2, h3, by omega, by rw [h4], h5, hA b hbl⟩
  let G : ZG := ((fun k => (D k).1, fun k => (D k).2), fun k => if k = 0 then a1 else if k = 1 then a1 else if k = 2 then a2 else if k = 3 then a3 else if k = 4 then a4 else if k = 5 then a5 else if k = 6 then a6 else a7, s.heap.size, fun k => if k < 10 then T k else b, L, xs)
  have x0 : ∀ i, i < 3 → zz_b G (1000 + i) = T i := fun i hi => by
    rw [zz_b_ge (by omega), show 1000 + i - 1000 = i by omega]
    show (if i < 10 then T i else b) = T i
    rw [if_pos (by omega)]
  refine ⟨G, rfl, rfl, rfl, ⟨⟨fun c q hq => ?_, fun k q hk => ?_⟩, fun w hw => ?_, va_AO.of o4, va_AO.of o5, va_AO.of o6, va_AO.of o7⟩, fun i hi => ?_, hScr⟩
  · have hc : c < 8 := (List.getElem?_eq_some_iff.mp hq).1
    rw [(zz_cls hc).1] at hq
    cases hq
    exact hD c hc
  · match k, hk with
    | 0, hk => cases hk; exact ⟨a1o, a1n⟩
    | 1, hk => cases hk; exact ⟨a1o, a1n⟩
    | 2, hk => cases hk; exact ⟨a2o, a2n⟩
    | 3, hk => cases hk; exact ⟨a3o, a3n⟩
    | 4, hk => cases hk; exact ⟨a4o, a4n⟩
    | 5, hk => cases hk; exact ⟨a5o, a5n⟩
    | 6, hk => cases hk; exact ⟨a6o, a6n⟩
    | 7, hk => cases hk; exact ⟨a7o, a7n⟩
    | k + 8, hk => exact absurd (List.getElem?_eq_some_iff.mp hk).1 (by show ¬ k + 8 < 8; omega)
  · have hb := hts w (List.mem_filter.mp hw).1
    rcases zz_nw_cases hw with ⟨a, i, x, d, rfl⟩ | ⟨a, i, b', n, d, e, rfl⟩
    · exact va_Nw.of rfl hb
    · exact va_Nw.of rfl hb
  · rw [x0 i hi]
    exact hT i hi
