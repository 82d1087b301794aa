/-! CONSTRUCTORS: what is made -/
/-- the cells from b on, n of them, are laid by K and O; those below are E0's -/
def zL (E0 E : ZE) (b n : Nat) (K : Nat → Nat × Nat) (O : Nat → Nat → Option Nat) : Prop := E.1 = b + n ∧ (∀ c, c < n → E.2.1 (b + c) = K c ∧ E.2.2 (b + c) = O c) ∧ ∀ k, k < b → E.2.1 k = E0.2.1 k ∧ E.2.2 k = E0.2.2 k
section ZLY
variable {E0 E E' : ZE} {b n m c j x : Nat} {K K2 : Nat → Nat × Nat} {O O' O2 : Nat → Nat → Option Nat} {kd : Nat × Nat}
theorem zL.new (h : zL E0 E b n K O) (hk : K n = kd) (ho : O n = fun _ => none) : zL E0 (zz_nE E kd) b (n + 1) K O := by
  obtain ⟨h1, h2, h3⟩ := h
  refine ⟨by show E.1 + 1 = _; omega, fun c hc => ?_, fun k hk2 => ?_⟩
  · by_cases e : c = n
    · subst e
      exact ⟨by show (if b + c = E.1 then kd else _) = _; rw [if_pos h1.symm, hk], by show (if b + c = E.1 then (fun _ => none) else _) = _; rw [if_pos h1.symm, ho]⟩
    · have h4 := h2 c (by omega)
      exact ⟨by show (if b + c = E.1 then kd else _) = _; rw [if_neg (by omega)]; exact h4.1, by show (if b + c = E.1 then (fun _ => none) else _) = _; rw [if_neg (by omega)]; exact h4.2⟩
  · have h4 := h3 k hk2
    exact ⟨by show (if k = E.1 then kd else _) = _; rw [if_neg (by omega)]; exact h4.1, by show (if k = E.1 then (fun _ => none) else _) = _; rw [if_neg (by omega)]; exact h4.2⟩
theorem zL.put (h : zL E0 E b n K O) (hc : c < n) (hO : ∀ c', c' < n → ∀ j', O' c' j' = if c' = c ∧ j' = j then some x else O c' j') : zL E0 (E.1, E.2.1, zz_ru E.2.2 (b + c) j (some x)) b n K O' := by
  obtain ⟨h1, h2, h3⟩ := h
  refine ⟨h1, fun c' hc' => ⟨(h2 c' hc').1, ?_⟩, fun k hk => ⟨(h3 k hk).1, ?_⟩⟩
  · funext j'
    show zz_ru E.2.2 (b + c) j (some x) (b + c') j' = _
    rw [hO c' hc' j', zz_ru]
    by_cases e : c' = c ∧ j' = j
    · rw [if_pos e, if_pos ⟨by omega, e.2⟩]
    · rw [if_neg e, if_neg (fun q => e ⟨by omega, q.2⟩), (h2 c' hc').2]
  · show zz_ru E.2.2 (b + c) j (some x) k = _
    rw [zz_ru_off _ _ _ _ (by omega)]
    exact (h3 k hk).2
/-- a part that was made by itself -/
theorem zL.join (h : zL E0 E b n K O) (h2 : zL (zz_nE E kd) E' (b + n) m K2 O2) (hK : ∀ c, c < m → K (n + c) = K2 c) (hO : ∀ c, c < m → O (n + c) = O2 c) : zL E0 E' b (n + m) K O := by
  obtain ⟨a1, a2, a3⟩ := h
  obtain ⟨b1, b2, b3⟩ := h2
  refine ⟨by omega, fun c hc => ?_, fun k hk => ?_⟩
  · by_cases e : c < n
    · obtain ⟨u1, u2⟩ := a2 c e
      obtain ⟨v1, v2⟩ := b3 (b + c) (by omega)
      refine ⟨v1.trans ?_, v2.trans ?_⟩
      · show (if b + c = E.1 then kd else _) = _
        rw [if_neg (by omega)]
        exact u1
      · show (if b + c = E.1 then (fun _ => none) else _) = _
        rw [if_neg (by omega)]
        exact u2
    · obtain ⟨v1, v2⟩ := b2 (c - n) (by omega)
      have e1 : b + n + (c - n) = b + c := by omega
      have e2 : n + (c - n) = c := by omega
      have k1 := hK (c - n) (by omega)
      have o1 := hO (c - n) (by omega)
      rw [e1] at v1 v2
      rw [e2] at k1 o1
      exact ⟨v1.trans k1.symm, v2.trans o1.symm⟩
  · obtain ⟨u1, u2⟩ := a3 k hk
    obtain ⟨v1, v2⟩ := b3 k (by omega)
    refine ⟨v1.trans ?_, v2.trans ?_⟩
    · show (if k = E.1 then kd else _) = _
      rw [if_neg (by omega)]
      exact u1
    · show (if k = E.1 then (fun _ => none) else _) = _
      rw [if_neg (by omega)]
      exact u2
theorem zL.cg (h : zL E0 E b n K O) (hO : ∀ c, c < n → ∀ j, O c j = O' c j) : zL E0 E b n K O' := ⟨h.1, fun c hc => ⟨(h.2.1 c hc).1, (h.2.1 c hc).2.trans (funext (hO c hc))⟩, h.2.2⟩
theorem zL.k (h : zL E0 E b n K O) (hc : c < n) (hk : K c = kd) : E.2.1 (b + c) = kd := (h.2.1 c hc).1.trans hk
theorem zL.o (h : zL E0 E b n K O) (hc : c < n) (ho : O c j = some x) : E.2.2 (b + c) j = some x := by rw [(h.2.1 c hc).2]; exact ho
theorem zL.lt (h : zL E0 E b n K O) (hc : c < n) : b + c < E.1 := by have := h.1; omega
theorem zz_nI_lt {im : ZI} {k : Nat} (h : k < E.1) : zz_nI E im k = im k := if_neg (by omega)
theorem zz_nI_at {im : ZI} {k : Nat} (h : k = E.1) : zz_nI E im k = fun _ => 0 := if_pos h
end ZLY
def zz_ON (G : ZG) (l : Launch) (d : Nat) (y : ZY) (as : List Value) (E : ZE) (im : ZI) (mc ms : Nat) (q : ZE → ZI → Prop) : Prop := zz_O G l d y as E im mc ms (fun v E' im' => v = none ∧ q E' im')
section ZCN
variable {G : ZG} {l : Launch} {own : String} {cc : ByteArray} {nL d n0 mcT msT : Nat} {isI : Bool} {rt : Option FieldType} {Qf : Option Value → ZE → ZI → Prop} {w : Nat → ZL → List Value → Nat → ZE → ZI → Prop}
variable {pc q : Nat} {L : ZL} {st rest as : List Value} {z k idx d2 mc ms n : Nat} {E : ZE} {im : ZI} {y : ZY} {host : String}
theorem zz_initNV {q2 : ZI → Prop} (S : zz_S G l own cc nL d n0 mcT msT isI rt Qf w) (hy : zz_YI y n) (hlk : Cond.methodLinkNest own idx y.1 host ∈ zz_nw) (hO : zz_OV G l d2 y (.ref k :: as) E im q2) (hn : as.length = n) (hdd : d2 + 1 ≤ d) (hrs : (rest.map fun v => v.category).sum ≤ 8) (hst : as.reverse ++ .ref k :: rest = st) (hd : decode cc pc = .ok (.invokespecial idx, 3)) (hq : pc + 3 = q)
    (kk : ∀ im' : ZI, q2 im' → w q L rest z E im') : w pc L st z E im :=
  zz_initN S (hn ▸ hy) hlk hO hdd (fun h => h) (fun h => h) hrs hst hd hq (fun v E' im' h1 h2 => by obtain ⟨rfl, rfl, h⟩ := h2; exact kk im' h)
theorem zz_initNE {q2 : ZE → ZI → Prop} (S : zz_S G l own cc nL d n0 mcT msT isI rt Qf w) (hy : zz_YI y n) (hlk : Cond.methodLinkNest own idx y.1 host ∈ zz_nw) (hO : zz_ON G l d2 y (.ref k :: as) E im mc ms q2) (hn : as.length = n) (hdd : d2 + 1 ≤ d) (hm : E.1 ≤ n0 + mcT → E.1 + mc ≤ n0 + mcT) (hz : z ≤ msT → z + ms ≤ msT) (hrs : (rest.map fun v => v.category).sum ≤ 8) (hst : as.reverse ++ .ref k :: rest = st) (hd : decode cc pc = .ok (.invokespecial idx, 3)) (hq : pc + 3 = q)
    (kk : ∀ (E' : ZE) (im' : ZI), E'.1 = E.1 + mc → q2 E' im' → w q L rest (z + ms) E' im') : w pc L st z E im :=
  zz_initN S (hn ▸ hy) hlk hO hdd hm hz hrs hst hd hq (fun v E' im' h1 h2 => by obtain ⟨rfl, h⟩ := h2; exact kk E' im' h1 h)
theorem zz_initE {q2 : ZE → ZI → Prop} (S : zz_S G l own cc nL d n0 mcT msT isI rt Qf w) (hy : zz_YI y n) (hlk : Cond.methodLink own idx y.1 ∈ zz_t) (hO : zz_ON G l d2 y (.ref k :: as) E im mc ms q2) (hn : as.length = n) (hdd : d2 + 1 ≤ d) (hm : E.1 ≤ n0 + mcT → E.1 + mc ≤ n0 + mcT) (hz : z ≤ msT → z + ms ≤ msT) (hrs : (rest.map fun v => v.category).sum ≤ 8) (hst : as.reverse ++ .ref k :: rest = st) (hd : decode cc pc = .ok (.invokespecial idx, 3)) (hq : pc + 3 = q)
    (kk : ∀ (E' : ZE) (im' : ZI), E'.1 = E.1 + mc → q2 E' im' → w q L rest (z + ms) E' im') : w pc L st z E im :=
  zz_init S (hn ▸ hy) hlk hO hdd hm hz hrs hst hd hq (fun v E' im' h1 h2 => by obtain ⟨rfl, h⟩ := h2; exact kk E' im' h1 h)
theorem zz_aaT (S : zz_S G l own cc nL d n0 mcT msT isI rt Qf w) {t0 c N x j : Nat} {i : Int32} (hk : k < E.1) (hkd : E.2.1 k = (t0, N)) (ht0 : (t0, c) ∈ [(4, 6), (5, 0), (6, 4), (7, 5)]) (hn : N < 2 ^ 31) (hij : i = nI j) (hj : j < N) (hkx : x < E.1) (hkdx : E.2.1 x = (0, c)) (hd : decode cc pc = .ok (.aastore, 1)) (hq : pc + 1 = q) (kk : w q L st z (E.1, E.2.1, zz_ru E.2.2 k j (some x)) im) : w pc L (.ref x :: .int i :: .ref k :: st) z E im := by
  obtain ⟨h1, h2⟩ := zz_vpn hij hj hn
  exact zz_aast S hk hkd ht0 h1 hkx hkdx hd hq (by rw [h2]; exact kk)
end ZCN
section ZIN
variable {G : ZG} {l : Launch}
theorem cx_wallInit (k : Nat) (E : ZE) (im : ZI) (hk : k < E.1) (hkd : E.2.1 k = (0, 6)) : zz_OV G l 1 mX6_init [.ref k] E im (fun im' => ∀ q, q ≠ k → im' q = im q) := by
  refine zz_intro (isI := true) (by decide) rfl (Nat.le_of_ble_eq_true rfl) (fun _ => rfl) (fun w S => ?_)
  refine zz_aload_0 S dX6_init_0 (q := 1) rfl ?_
  -- at 1: invokespecial 3
  refine zz_obj S lX6_3 n_objIn n_objCo (Nat.le_of_ble_eq_true rfl) (Nat.le_of_ble_eq_true rfl) dX6_init_1 (q := 4) rfl ?_
  refine zz_aload_0 S dX6_init_4 (q := 5) rfl ?_
  refine zz_ldc S (v := (-100009)) kX6_9 dX6_init_5 (q := 7) rfl ?_
  refine zz_putI S fX6_10 rfl rfl hk hkd dX6_init_7 (q := 10) rfl ?_
  refine zz_aload_0 S dX6_init_10 (q := 11) rfl ?_
  refine zz_ldc S (v := (-100009)) kX6_9 dX6_init_11 (q := 13) rfl ?_
  refine zz_putI S fX6_16 rfl rfl hk hkd dX6_init_13 (q := 16) rfl ?_
  -- at 16: return_ 
  refine zz_vret S dX6_init_16 ⟨rfl, rfl, rfl, ?_⟩
  intro q hq
  rw [zz_u_off _ _ _ _ hq, zz_u_off _ _ _ _ hq]
theorem cx_comInit (k : Nat) (E : ZE) (im : ZI) : zz_OV G l 1 mX0_init [.ref k] E im (fun im' => im' = im) := by
  refine zz_intro (isI := true) (by decide) rfl (Nat.le_of_ble_eq_true rfl) (fun _ => rfl) (fun w S => ?_)
  refine zz_aload_0 S dX0_init_0 (q := 1) rfl ?_
  -- at 1: invokespecial 3
  refine zz_obj S lX0_3 n_objIn n_objCo (Nat.le_of_ble_eq_true rfl) (Nat.le_of_ble_eq_true rfl) dX0_init_1 (q := 4) rfl ?_
  -- at 4: return_ 
  refine zz_vret S dX0_init_4 ⟨rfl, rfl, rfl, ?_⟩
  rfl
/-- what is made of a shop's layout so far: the fields below a, the walls below i, the commissions below k -/
def zMs (b a i k c j : Nat) : Option Nat := if (c = 0 ∧ a ≤ j) ∨ (c = 1 ∧ i ≤ j) ∨ (c = 4 ∧ k ≤ j) then none else zo_shop b c j
def zSh (b n : Nat) (im0 im : ZI) : Prop := (∀ k, k ≤ b → im k = im0 k) ∧ (2 < n → im (b + 2) = fun _ => 0)
theorem zSh.new {b n : Nat} {im0 im : ZI} {E : ZE} (h : zSh b n im0 im) (hE : E.1 = b + n) (hn : 1 ≤ n) : zSh b (n + 1) im0 (zz_nI E im) := by
  refine ⟨fun k hk => by rw [zz_nI_lt (by omega)]; exact h.1 k hk, fun h2 => ?_⟩
  by_cases e : n = 2
  · exact zz_nI_at (by omega)
  · rw [zz_nI_lt (by omega)]
    exact h.2 (by omega)
theorem zSh.w {b n c : Nat} {im0 im im' : ZI} (h : zSh b n im0 im) (hc : 3 ≤ c) (hw : ∀ q, q ≠ b + c → im' q = im q) : zSh b n im0 im' :=
  ⟨fun k hk => by rw [hw k (by omega)]; exact h.1 k hk, fun h2 => by rw [hw _ (by omega)]; exact h.2 h2⟩
set_option maxHeartbeats 4000000 in
theorem lx_shop1 {n0 mcT b : Nat} {Qf : Option Value → ZE → ZI → Prop} {w : Nat → ZL → List Value → Nat → ZE → ZI → Prop} {E0 : ZE} {im0 : ZI} (S : zz_S G l RX4 cX4_init 2 2 n0 mcT 124 true none Qf w) (hn0 : b + 21 ≤ n0 + mcT) (hb : b + 21 ≤ 1000)
    (hQ : ∀ (x : Int32) (E : ZE) (im : ZI), zL E0 E b 11 zk_shop (zMs b 4 6 0) → zSh b 11 im0 im → w 64 [some (.ref b), some (.int x)] [] 44 E im) :
    ∀ (n i z : Nat) (x : Int32) (E : ZE) (im : ZI), i + n = 6 → x = nI i → z = 32 + 2 * i → zL E0 E b (5 + i) zk_shop (zMs b 4 i 0) → zSh b (5 + i) im0 im → w 39 [some (.ref b), some (.int x)] [] z E im := by
  intro n
  induction n with
  | zero =>
    intro i z x E im hi hx hz hL hS
    have hi : i = 6 := by omega
    subst hi
    refine zz_iload_1 S dX4_init_39 (q := 40) rfl ?_
    refine zz_bipush S (v := 6) rfl dX4_init_40 (q := 42) rfl ?_
    refine zz_icmp_ge S dX4_init_42 (t := 64) (by decide) (q := 45) rfl (fun a1 => ?_) (fun a1 => ?_)
    -- then 64 else 45
    · rw [hz]
      exact hQ x E im hL hS
    · exact absurd (by rw [hx]; exact nI_le (a := 6) (by omega) (by omega)) a1
  | succ n ih =>
    intro i z x E im hi hx hz hL hS
    have hE := hL.1
    refine zz_iload_1 S dX4_init_39 (q := 40) rfl ?_
    refine zz_bipush S (v := 6) rfl dX4_init_40 (q := 42) rfl ?_
    refine zz_icmp_ge S dX4_init_42 (t := 64) (by decide) (q := 45) rfl (fun a1 => ?_) (fun a1 => ?_)
    -- then 64 else 45
    · exact absurd a1 (by rw [hx]; exact nI_ge (b := 6) (by omega) (by omega))
    · refine zz_aload_0 S dX4_init_45 (q := 46) rfl ?_
      refine zz_getR S fX4_11 rfl (hL.lt (c := 0) (by omega)) (hL.k (c := 0) (by omega) rfl) (hL.o (c := 0) (by omega) rfl) dX4_init_46 (q := 49) rfl ?_
      refine zz_iload_1 S dX4_init_49 (q := 50) rfl ?_
      -- at 50
      refine zz_new S (c := 6) (by decide) nX4_9 n_inst6.1 n_inst6.2 (by omega) (fun _ => by omega) (by show z + 2 ≤ 124; omega) dX4_init_50 (q := 53) rfl ?_
      have hL1 := hL.new (kd := (0, 6)) (by show zk_shop (5 + i) = _; unfold zk_shop; (repeat' split) <;> first | rfl | (exfalso; omega)) (by funext j; unfold zMs zo_shop; (repeat' split) <;> first | rfl | (exfalso; omega))
      have hS1 := hS.new hE (by omega)
      rw [hE]
      generalize zz_nE E (0, 6) = E1 at hL1 ⊢
      generalize zz_nI E im = im1 at hS1 ⊢
      refine zz_dup S rfl dX4_init_53 (q := 54) rfl ?_
      -- at 54
      refine zz_initNV S yy_X6_init lX4_30 (cx_wallInit (b + (5 + i)) E1 im1 (hL1.lt (by omega)) (hL1.k (by omega) (by unfold zk_shop; (repeat' split) <;> first | rfl | (exfalso; omega)))) rfl (Nat.le_of_ble_eq_true rfl) (Nat.le_of_ble_eq_true rfl) rfl dX4_init_54 (q := 57) rfl (fun im2 h2 => ?_)
      have hS2 := hS1.w (by omega) h2
      refine zz_aaT S (c := 6) (hL1.lt (c := 1) (by omega)) (hL1.k (c := 1) (by omega) rfl) (by decide) (by decide) hx (by omega) (hL1.lt (by omega)) (hL1.k (by omega) (by unfold zk_shop; (repeat' split) <;> first | rfl | (exfalso; omega))) dX4_init_57 (q := 58) rfl ?_
      have hL2 := hL1.put (c := 1) (j := i) (x := b + (5 + i)) (O' := zMs b 4 (i + 1) 0) (by omega) (fun c' _ j' => by unfold zMs zo_shop; (repeat' split) <;> first | rfl | omega | (exfalso; omega) | (congr 1; omega))
      generalize (E1.1, E1.2.1, zz_ru E1.2.2 (b + 1) i (some (b + (5 + i)))) = E2 at hL2 ⊢
      refine zz_iinc_1 S rfl dX4_init_58 (q := 61) rfl ?_
      refine zz_goto S dX4_init_61 (t := 39) (by decide) ?_
      -- at 39
      exact ih (i + 1) _ _ E2 im2 (by omega) (by rw [hx]; exact nI_1 i) (by rw [hz]; show 32 + 2 * i + 2 = _; omega) hL2 hS2
set_option maxHeartbeats 4000000 in
theorem lx_shop2 {n0 mcT b : Nat} {Qf : Option Value → ZE → ZI → Prop} {w : Nat → ZL → List Value → Nat → ZE → ZI → Prop} {E0 : ZE} {im0 : ZI} (S : zz_S G l RX4 cX4_init 2 2 n0 mcT 124 true none Qf w) (hn0 : b + 21 ≤ n0 + mcT) (hb : b + 21 ≤ 1000)
    (hQ : ∀ (x : Int32) (E : ZE) (im : ZI), zL E0 E b 21 zk_shop (zMs b 4 6 10) → zSh b 21 im0 im → w 91 [some (.ref b), some (.int x)] [] 124 E im) :
    ∀ (n i z : Nat) (x : Int32) (E : ZE) (im : ZI), i + n = 10 → x = nI i → z = 44 + 8 * i → zL E0 E b (11 + i) zk_shop (zMs b 4 6 i) → zSh b (11 + i) im0 im → w 66 [some (.ref b), some (.int x)] [] z E im := by
  intro n
  induction n with
  | zero =>
    intro i z x E im hi hx hz hL hS
    have hi : i = 10 := by omega
    subst hi
    refine zz_iload_1 S dX4_init_66 (q := 67) rfl ?_
    refine zz_bipush S (v := 10) rfl dX4_init_67 (q := 69) rfl ?_
    refine zz_icmp_ge S dX4_init_69 (t := 91) (by decide) (q := 72) rfl (fun a1 => ?_) (fun a1 => ?_)
    -- then 91 else 72
    · rw [hz]
      exact hQ x E im hL hS
    · exact absurd (by rw [hx]; exact nI_le (a := 10) (by omega) (by omega)) a1
  | succ n ih =>
    intro i z x E im hi hx hz hL hS
    have hE := hL.1
    refine zz_iload_1 S dX4_init_66 (q := 67) rfl ?_
    refine zz_bipush S (v := 10) rfl dX4_init_67 (q := 69) rfl ?_
    refine zz_icmp_ge S dX4_init_69 (t := 91) (by decide) (q := 72) rfl (fun a1 => ?_) (fun a1 => ?_)
    -- then 91 else 72
    · exact absurd a1 (by rw [hx]; exact nI_ge (b := 10) (by omega) (by omega))
    · refine zz_aload_0 S dX4_init_72 (q := 73) rfl ?_
      refine zz_getR S fX4_26 rfl (hL.lt (c := 0) (by omega)) (hL.k (c := 0) (by omega) rfl) (hL.o (c := 0) (by omega) rfl) dX4_init_73 (q := 76) rfl ?_
      refine zz_iload_1 S dX4_init_76 (q := 77) rfl ?_
      -- at 77
      refine zz_new S (c := 0) (by decide) nX4_24 n_inst0.1 n_inst0.2 (by omega) (fun _ => by omega) (by show z + 8 ≤ 124; omega) dX4_init_77 (q := 80) rfl ?_
      have hL1 := hL.new (kd := (0, 0)) (by show zk_shop (11 + i) = _; unfold zk_shop; (repeat' split) <;> first | rfl | (exfalso; omega)) (by funext j; unfold zMs zo_shop; (repeat' split) <;> first | rfl | (exfalso; omega))
      have hS1 := hS.new hE (by omega)
      rw [hE]
      generalize zz_nE E (0, 0) = E1 at hL1 ⊢
      generalize zz_nI E im = im1 at hS1 ⊢
      refine zz_dup S rfl dX4_init_80 (q := 81) rfl ?_
      -- at 81
      refine zz_initNV S yy_X0_init lX4_31 (cx_comInit (b + (11 + i)) E1 im1) rfl (Nat.le_of_ble_eq_true rfl) (Nat.le_of_ble_eq_true rfl) rfl dX4_init_81 (q := 84) rfl (fun im2 h2 => ?_)
      subst h2
      refine zz_aaT S (c := 0) (hL1.lt (c := 4) (by omega)) (hL1.k (c := 4) (by omega) rfl) (by decide) (by decide) hx (by omega) (hL1.lt (by omega)) (hL1.k (by omega) (by unfold zk_shop; (repeat' split) <;> first | rfl | (exfalso; omega))) dX4_init_84 (q := 85) rfl ?_
      have hL2 := hL1.put (c := 4) (j := i) (x := b + (11 + i)) (O' := zMs b 4 6 (i + 1)) (by omega) (fun c' _ j' => by unfold zMs zo_shop; (repeat' split) <;> first | rfl | omega | (exfalso; omega) | (congr 1; omega))
      generalize (E1.1, E1.2.1, zz_ru E1.2.2 (b + 4) i (some (b + (11 + i)))) = E2 at hL2 ⊢
      refine zz_iinc_1 S rfl dX4_init_85 (q := 88) rfl ?_
      refine zz_goto S dX4_init_88 (t := 66) (by decide) ?_
      -- at 66
      exact ih (i + 1) _ _ E2 im2 (by omega) (by rw [hx]; exact nI_1 i) (by rw [hz]; show 44 + 8 * i + 8 = _; omega) hL2 hS1
/-- a shop's ints as it is made -/
def zQs (b : Nat) (im im' : ZI) : Prop := (∀ k, k ≤ b → im' k = im k) ∧ (im' (b + 2) = fun _ => 0) ∧ ∀ j, j < 4 → im' (b + 3) j = (zz_st 2).getD j 0
set_option maxHeartbeats 4000000 in
theorem lx_shop3 {n0 mcT b : Nat} {Qf : Option Value → ZE → ZI → Prop} {w : Nat → ZL → List Value → Nat → ZE → ZI → Prop} {E0 E : ZE} {im0 : ZI} (S : zz_S G l RX4 cX4_init 2 2 n0 mcT 124 true none Qf w) (hL : zL E0 E b 21 zk_shop (zMs b 4 6 10))
    (hQ : ∀ (im : ZI), zQs b im0 im → Qf none E im) :
    ∀ (n i : Nat) (x : Int32) (im : ZI), i + n = 4 → x = nI i → (∀ k, k ≤ b → im k = im0 k) → (im (b + 2) = fun _ => 0) → (∀ j, j < i → im (b + 3) j = (zz_st 2).getD j 0) → w 93 [some (.ref b), some (.int x)] [] 124 E im := by
  intro n
  induction n with
  | zero =>
    intro i x im hi hx h1 h2 h3
    have hi : i = 4 := by omega
    subst hi
    refine zz_iload_1 S dX4_init_93 (q := 94) rfl ?_
    refine zz_iconst S (v := 4) rfl dX4_init_94 (q := 95) rfl ?_
    refine zz_icmp_ge S dX4_init_95 (t := 115) (by decide) (q := 98) rfl (fun a1 => ?_) (fun a1 => ?_)
    -- then 115 else 98
    · exact zz_vret S dX4_init_115 (hQ im ⟨h1, h2, h3⟩)
    · exact absurd (by rw [hx]; exact nI_le (a := 4) (by omega) (by omega)) a1
  | succ n ih =>
    intro i x im hi hx h1 h2 h3
    refine zz_iload_1 S dX4_init_93 (q := 94) rfl ?_
    refine zz_iconst S (v := 4) rfl dX4_init_94 (q := 95) rfl ?_
    refine zz_icmp_ge S dX4_init_95 (t := 115) (by decide) (q := 98) rfl (fun a1 => ?_) (fun a1 => ?_)
    -- then 115 else 98
    · exact absurd a1 (by rw [hx]; exact nI_ge (b := 4) (by omega) (by omega))
    · refine zz_aload_0 S dX4_init_98 (q := 99) rfl ?_
      refine zz_getR S fX4_21 rfl (hL.lt (c := 0) (by omega)) (hL.k (c := 0) (by omega) rfl) (hL.o (c := 0) (by omega) rfl) dX4_init_99 (q := 102) rfl ?_
      refine zz_iload_1 S dX4_init_102 (q := 103) rfl ?_
      refine zz_gets S (i := 2) (by decide) fX4_32 dX4_init_103 (q := 106) rfl ?_
      refine zz_iload_1 S dX4_init_106 (q := 107) rfl ?_
      refine zz_saN S (by decide) hx (show i < 4 by omega) dX4_init_107 (q := 108) rfl ?_
      refine zz_iaS S (j := i) (hL.lt (c := 3) (by omega)) (hL.k (c := 3) (by omega) rfl) (by decide) hx (by omega) dX4_init_108 (q := 109) rfl ?_
      refine zz_iinc_1 S rfl dX4_init_109 (q := 112) rfl ?_
      refine zz_goto S dX4_init_112 (t := 93) (by decide) ?_
      -- at 93
      refine ih (i + 1) _ _ (by omega) (by rw [hx]; exact nI_1 i) (fun k hk => by rw [zz_u_off _ _ _ _ (by omega)]; exact h1 k hk) (by rw [zz_u_off _ _ _ _ (by omega)]; exact h2) (fun j hj => ?_)
      by_cases e : j = i
      · rw [e, zz_u_e]
      · rw [zz_u_n _ _ (Or.inr e)]
        exact h3 j (by omega)
set_option maxHeartbeats 4000000 in
theorem cx_shopInit (b : Nat) (E : ZE) (im : ZI) (hE : E.1 = b + 1) (hb : b + 21 ≤ 1000) (hk : E.2.1 b = (0, 4)) (ho : E.2.2 b = fun _ => none) : zz_ON G l 2 mX4_init [.ref b] E im 20 124 (fun E' im' => zL E E' b 21 zk_shop (zo_shop b) ∧ zQs b im im') := by
  have hL0 : zL E E b 1 zk_shop (zMs b 0 0 0) := ⟨hE, fun c hc => by
    have e : c = 0 := by omega
    subst e
    exact ⟨hk, by rw [show b + 0 = b from rfl, ho]; funext j; unfold zMs; rw [if_pos (Or.inl ⟨rfl, Nat.zero_le j⟩)]⟩, fun _ _ => ⟨rfl, rfl⟩⟩
  have hS0 : zSh b 1 im im := ⟨fun _ _ => rfl, fun h => absurd h (by omega)⟩
  refine zz_intro (isI := true) (by decide) rfl (Nat.le_of_ble_eq_true rfl) (fun _ => rfl) (fun w S => ?_)
  refine zz_aload_0 S dX4_init_0 (q := 1) rfl ?_
  -- at 1: invokespecial 3
  refine zz_obj S lX4_3 n_objIn n_objCo (Nat.le_of_ble_eq_true rfl) (Nat.le_of_ble_eq_true rfl) dX4_init_1 (q := 4) rfl ?_
  refine zz_aload_0 S dX4_init_4 (q := 5) rfl ?_
  refine zz_bipush S (v := 6) rfl dX4_init_5 (q := 7) rfl ?_
  -- at 7
  refine zz_newW S nX4_9 (by decide) (N := 6) rfl (by decide) (by omega) (fun _ => by show _ ≤ E.1 + 20; omega) (by decide) dX4_init_7 (q := 10) rfl ?_
  have hL1 := hL0.new (kd := (4, 6)) rfl (by funext j; unfold zMs zo_shop; (repeat' split) <;> first | rfl | (exfalso; omega))
  have hS1 := hS0.new hE (by omega)
  rw [hE]
  generalize zz_nE E (4, 6) = E1 at hL1 ⊢
  generalize zz_nI E im = im1 at hS1 ⊢
  refine zz_putF S fX4_11 rfl (fun _ => ⟨rfl, rfl⟩) rfl rfl (hL1.lt (c := 0) (by omega)) (hL1.k (c := 0) (by omega) rfl) dX4_init_10 (q := 13) rfl ?_
  have hP1 := hL1.put (c := 0) (j := 0) (x := b + 1) (O' := zMs b 1 0 0) (by omega) (fun c' _ j' => by unfold zMs zo_shop; (repeat' split) <;> first | rfl | omega | (exfalso; omega) | (congr 1; omega))
  generalize (E1.1, E1.2.1, zz_ru E1.2.2 (b + 0) 0 (some (b + 1))) = F1 at hP1 ⊢
  have hE1 := hP1.1
  refine zz_aload_0 S dX4_init_13 (q := 14) rfl ?_
  refine zz_bipush S (v := 12) rfl dX4_init_14 (q := 16) rfl ?_
  -- at 16
  refine zz_newI S n_arrI (by decide) (N := 12) rfl (by decide) (by omega) (fun _ => by show _ ≤ E.1 + 20; omega) (by decide) dX4_init_16 (q := 18) rfl ?_
  have hL2 := hP1.new (kd := (1, 12)) rfl (by funext j; unfold zMs zo_shop; (repeat' split) <;> first | rfl | (exfalso; omega))
  have hS2 := hS1.new hE1 (by omega)
  rw [hE1]
  generalize zz_nE F1 (1, 12) = E2 at hL2 ⊢
  generalize zz_nI F1 im1 = im2 at hS2 ⊢
  refine zz_putF S fX4_17 rfl (fun _ => ⟨rfl, rfl⟩) rfl rfl (hL2.lt (c := 0) (by omega)) (hL2.k (c := 0) (by omega) rfl) dX4_init_18 (q := 21) rfl ?_
  have hP2 := hL2.put (c := 0) (j := 1) (x := b + (1 + 1)) (O' := zMs b 2 0 0) (by omega) (fun c' _ j' => by unfold zMs zo_shop; (repeat' split) <;> first | rfl | omega | (exfalso; omega) | (congr 1; omega))
  generalize (E2.1, E2.2.1, zz_ru E2.2.2 (b + 0) 1 (some (b + (1 + 1)))) = F2 at hP2 ⊢
  have hE2 := hP2.1
  refine zz_aload_0 S dX4_init_21 (q := 22) rfl ?_
  refine zz_iconst S (v := 4) rfl dX4_init_22 (q := 23) rfl ?_
  -- at 23
  refine zz_newI S n_arrI (by decide) (N := 4) rfl (by decide) (by omega) (fun _ => by show _ ≤ E.1 + 20; omega) (by decide) dX4_init_23 (q := 25) rfl ?_
  have hL3 := hP2.new (kd := (1, 4)) rfl (by funext j; unfold zMs zo_shop; (repeat' split) <;> first | rfl | (exfalso; omega))
  have hS3 := hS2.new hE2 (by omega)
  rw [hE2]
  generalize zz_nE F2 (1, 4) = E3 at hL3 ⊢
  generalize zz_nI F2 im2 = im3 at hS3 ⊢
  refine zz_putF S fX4_21 rfl (fun _ => ⟨rfl, rfl⟩) rfl rfl (hL3.lt (c := 0) (by omega)) (hL3.k (c := 0) (by omega) rfl) dX4_init_25 (q := 28) rfl ?_
  have hP3 := hL3.put (c := 0) (j := 2) (x := b + (1 + 1 + 1)) (O' := zMs b 3 0 0) (by omega) (fun c' _ j' => by unfold zMs zo_shop; (repeat' split) <;> first | rfl | omega | (exfalso; omega) | (congr 1; omega))
  generalize (E3.1, E3.2.1, zz_ru E3.2.2 (b + 0) 2 (some (b + (1 + 1 + 1)))) = F3 at hP3 ⊢
  have hE3 := hP3.1
  refine zz_aload_0 S dX4_init_28 (q := 29) rfl ?_
  refine zz_bipush S (v := 10) rfl dX4_init_29 (q := 31) rfl ?_
  -- at 31
  refine zz_newK S nX4_24 (by decide) (N := 10) rfl (by decide) (by omega) (fun _ => by show _ ≤ E.1 + 20; omega) (by decide) dX4_init_31 (q := 34) rfl ?_
  have hL4 := hP3.new (kd := (5, 10)) rfl (by funext j; unfold zMs zo_shop; (repeat' split) <;> first | rfl | (exfalso; omega))
  have hS4 := hS3.new hE3 (by omega)
  rw [hE3]
  generalize zz_nE F3 (5, 10) = E4 at hL4 ⊢
  generalize zz_nI F3 im3 = im4 at hS4 ⊢
  refine zz_putF S fX4_26 rfl (fun _ => ⟨rfl, rfl⟩) rfl rfl (hL4.lt (c := 0) (by omega)) (hL4.k (c := 0) (by omega) rfl) dX4_init_34 (q := 37) rfl ?_
  have hP4 := hL4.put (c := 0) (j := 3) (x := b + (1 + 1 + 1 + 1)) (O' := zMs b 4 0 0) (by omega) (fun c' _ j' => by unfold zMs zo_shop; (repeat' split) <;> first | rfl | omega | (exfalso; omega) | (congr 1; omega))
  generalize (E4.1, E4.2.1, zz_ru E4.2.2 (b + 0) 3 (some (b + (1 + 1 + 1 + 1)))) = F4 at hP4 ⊢
  refine zz_iconst S (v := 0) rfl dX4_init_37 (q := 38) rfl ?_
  refine zz_istore_1 S rfl dX4_init_38 (q := 39) rfl ?_
  -- at 39
  refine lx_shop1 (E0 := E) (im0 := im) S (by show _ ≤ E.1 + 20; omega) hb (fun x5 E5 im5 hL5 hS5 => ?_) 6 0 _ _ F4 im4 (by omega) rfl rfl hP4 hS4
  refine zz_iconst S (v := 0) rfl dX4_init_64 (q := 65) rfl ?_
  refine zz_istore_1 S rfl dX4_init_65 (q := 66) rfl ?_
  -- at 66
  refine lx_shop2 (E0 := E) (im0 := im) S (by show _ ≤ E.1 + 20; omega) hb (fun x6 E6 im6 hL6 hS6 => ?_) 10 0 _ _ E5 im5 (by omega) rfl rfl hL5 hS5
  refine zz_iconst S (v := 0) rfl dX4_init_91 (q := 92) rfl ?_
  refine zz_istore_1 S rfl dX4_init_92 (q := 93) rfl ?_
  -- at 93
  refine lx_shop3 (E0 := E) (im0 := im) S hL6 (fun im7 h7 => ⟨by show E6.1 = E.1 + 20; have := hL6.1; omega, rfl, hL6.cg (fun c hc j => by unfold zMs zo_shop; (repeat' split) <;> first | rfl | (exfalso; omega)), h7⟩) 4 0 _ im6 (by omega) rfl hS6.1 (hS6.2 (by omega)) (fun j hj => absurd hj (by omega))
end ZIN
