/-! THE CLASS: masks of commissions -/
def mk (p : Nat → Bool) : Nat → Nat
  | 0 => 0
  | n + 1 => if p n then 2 ^ n + mk p n else mk p n
def pc (p : Nat → Bool) : Nat → Nat
  | 0 => 0
  | n + 1 => if p n then pc p n + 1 else pc p n
theorem mk_lt (p : Nat → Bool) : ∀ n, mk p n < 2 ^ n := by
  intro n
  induction n with
  | zero => exact Nat.one_pos
  | succ n ih =>
    rw [mk, Nat.pow_succ]
    split <;> omega
theorem mk_bit (p : Nat → Bool) : ∀ n i, (mk p n).testBit i = (decide (i < n) && p i) := by
  intro n
  induction n with
  | zero => intro i; simp [mk]
  | succ n ih =>
    intro i
    have hl := mk_lt p n
    rw [mk]
    by_cases hp : p n
    · rw [if_pos hp]
      rcases Nat.lt_trichotomy i n with h | h | h
      · rw [Nat.testBit_two_pow_add_gt h, ih i]
        simp [h, Nat.lt_succ_of_lt h]
      · subst h
        rw [Nat.testBit_two_pow_add_eq, ih i]
        simp [hp]
      · have h2 : 2 ^ n + mk p n < 2 ^ i := by
          have h3 : 2 ^ (n + 1) ≤ 2 ^ i := Nat.pow_le_pow_right (by decide) h
          rw [Nat.pow_succ] at h3
          omega
        rw [Nat.testBit_lt_two_pow h2]
        have : ¬ i < n + 1 := by omega
        simp [this]
    · rw [if_neg hp, ih i]
      rcases Nat.lt_trichotomy i n with h | h | h
      · simp [h, Nat.lt_succ_of_lt h]
      · subst h
        simp [hp]
      · have h1 : ¬ i < n := by omega
        have h2 : ¬ i < n + 1 := by omega
        simp [h1, h2]
theorem mk_eq {p q : Nat → Bool} : ∀ n, (∀ i, i < n → p i = q i) → mk p n = mk q n := by
  intro n
  induction n with
  | zero => intro _; rfl
  | succ n ih =>
    intro h
    rw [mk, mk, h n (by omega), ih (fun i hi => h i (by omega))]
theorem pc_eq {p q : Nat → Bool} : ∀ n, (∀ i, i < n → p i = q i) → pc p n = pc q n := by
  intro n
  induction n with
  | zero => intro _; rfl
  | succ n ih =>
    intro h
    rw [pc, pc, h n (by omega), ih (fun i hi => h i (by omega))]
theorem pc_le (p : Nat → Bool) : ∀ n, pc p n ≤ n := by
  intro n
  induction n with
  | zero => exact Nat.le_refl _
  | succ n ih =>
    rw [pc]
    split <;> omega
theorem mk_0 (p : Nat → Bool) : ∀ n, mk p n = 0 ↔ pc p n = 0 := by
  intro n
  induction n with
  | zero => exact Iff.intro (fun _ => rfl) (fun _ => rfl)
  | succ n ih =>
    rw [mk, pc]
    split
    · have := Nat.two_pow_pos n
      omega
    · exact ih
theorem pc_far {p : Nat → Bool} {n : Nat} (h : ∀ i, n ≤ i → p i = false) : ∀ k, pc p (n + k) = pc p n := by
  intro k
  induction k with
  | zero => rfl
  | succ k ih =>
    rw [← Nat.add_assoc, pc, if_neg (by rw [h _ (by omega)]; decide), ih]
/-- what the machine does with masks -/
theorem bt_or : ∀ i, i < 10 → ∀ a, a < 2 ^ i → nI a ||| ((1 : Int32) <<< (nI i &&& 31)) = nI (2 ^ i + a) := by
  have h : (List.range 10).all (fun i => (List.range (2 ^ i)).all (fun a => decide (nI a ||| ((1 : Int32) <<< (nI i &&& 31)) = nI (2 ^ i + a)))) = true := by decide +kernel
  intro i hi a ha
  have h1 := List.all_eq_true.mp h i (List.mem_range.mpr hi)
  have h2 := List.all_eq_true.mp h1 a (List.mem_range.mpr ha)
  exact of_decide_eq_true h2
theorem bt_and : ∀ i, i < 10 → ∀ a, a < 1024 → (nI a &&& ((1 : Int32) <<< (nI i &&& 31)) = 0 ↔ a.testBit i = false) := by
  have h : (List.range 10).all (fun i => (List.range 1024).all (fun a => decide (nI a &&& ((1 : Int32) <<< (nI i &&& 31)) = 0 ↔ a.testBit i = false))) = true := by decide +kernel
  intro i hi a ha
  have h1 := List.all_eq_true.mp h i (List.mem_range.mpr hi)
  have h2 := List.all_eq_true.mp h1 a (List.mem_range.mpr ha)
  exact of_decide_eq_true h2
/-- bitCount, as the library reckons it -/
def bc1 (x : Int32) : Int32 := x - ((x.toUInt32 >>> ((1 : Int32).toUInt32 &&& Int32.toUInt32 31)).toInt32 &&& 1431655765)
def bc2 (x : Int32) : Int32 := (x &&& 858993459) + ((x.toUInt32 >>> ((2 : Int32).toUInt32 &&& Int32.toUInt32 31)).toInt32 &&& 858993459)
def bc3 (x : Int32) : Int32 := (x + (x.toUInt32 >>> ((4 : Int32).toUInt32 &&& Int32.toUInt32 31)).toInt32) &&& 252645135
def bc4 (x : Int32) : Int32 := x + (x.toUInt32 >>> ((8 : Int32).toUInt32 &&& Int32.toUInt32 31)).toInt32
def bc5 (x : Int32) : Int32 := x + (x.toUInt32 >>> ((16 : Int32).toUInt32 &&& Int32.toUInt32 31)).toInt32
def bcn (x : Int32) : Int32 := bc5 (bc4 (bc3 (bc2 (bc1 x)))) &&& 63
theorem bcn_pc : ∀ a, a < 1024 → bcn (nI a) = nI (pc a.testBit 10) := by
  have h : (List.range 1024).all (fun a => decide (bcn (nI a) = nI (pc a.testBit 10))) = true := by decide +kernel
  intro a ha
  exact of_decide_eq_true (List.all_eq_true.mp h a (List.mem_range.mpr ha))
theorem mk_1024 (p : Nat → Bool) {n : Nat} (hn : n ≤ 10) : mk p n < 1024 := Nat.lt_of_lt_of_le (mk_lt p n) (Nat.pow_le_pow_right (by decide) hn)
theorem bcn_mk (p : Nat → Bool) {n : Nat} (hn : n ≤ 10) : bcn (nI (mk p n)) = nI (pc p n) := by
  rw [bcn_pc _ (mk_1024 p hn)]
  have h1 : pc (mk p n).testBit 10 = pc (mk p n).testBit n := by
    obtain ⟨k, hk⟩ : ∃ k, 10 = n + k := ⟨10 - n, by omega⟩
    rw [hk]
    exact pc_far (fun i hi => by rw [mk_bit]; simp [show ¬ i < n by omega]) k
  rw [h1, pc_eq (q := p) n (fun i hi => by rw [mk_bit]; simp [hi])]
/-- bits taken out -/
theorem bt_out {p q : Nat → Bool} {n : Nat} (hn : n ≤ 10) : nI (mk p n) &&& (nI (mk q n) ^^^ (-1)) = nI (mk (fun i => p i && !q i) n) := by
  have e1 : ((-1 : Int32)).toBitVec = BitVec.allOnes 32 := by decide
  have e2 : ∀ a : Nat, (nI a).toBitVec = BitVec.ofNat 32 a := fun a => rfl
  apply Int32.toBitVec_inj.mp
  rw [Int32.toBitVec_and, Int32.toBitVec_xor, e1, e2, e2, e2]
  apply BitVec.eq_of_getLsbD_eq
  intro i hi
  rw [BitVec.getLsbD_and, BitVec.getLsbD_xor, BitVec.getLsbD_ofNat, BitVec.getLsbD_ofNat, BitVec.getLsbD_ofNat, BitVec.getLsbD_allOnes, mk_bit, mk_bit, mk_bit]
  by_cases h : i < n
  · simp [h, hi]
  · simp [h]
/-! the reference's melts, as sets -/
def ch (a b : Nat → Int32) (j : Nat) : Bool := decide (a j ≠ b j)
theorem ch_u {a b : Nat → Int32} {c : Nat} {v : Int32} {n : Nat} (h : n ≤ c) : (∀ i, i < n → ch (upd a c v) b i = ch a b i) := fun i hi => by
  unfold ch
  rw [u_ne _ _ (show i ≠ c by omega)]
theorem op_mlG_pc (wt : Nat → Int32) (lim : Int32) (st : Nat → Int32) : ∀ (n c k : Nat) (sm : Int32) (sc : Nat → Int32), k = pc (ch sc st) c → (∀ j, c ≤ j → sc j = st j) → (op_mlG wt lim n c sm (nI k) sc).1 = nI (pc (ch (op_mlG wt lim n c sm (nI k) sc).2 st) (c + n)) := by
  intro n
  induction n with
  | zero => intro c k sm sc hk _; rw [hk]; rfl
  | succ n ih =>
    intro c k sm sc hk hsc
    have hc := hsc c (Nat.le_refl _)
    rw [op_mlG]
    by_cases h : sc c = 1 ∧ ¬ sm + wt c > lim
    · rw [if_pos h, nI_1]
      have := ih (c + 1) (k + 1) (sm + wt c) (upd sc c 2) (by
        rw [pc, pc_eq c (ch_u (Nat.le_refl _)), ← hk, if_pos]
        unfold ch
        rw [u_eq, ← hc, h.1]
        decide) (fun j hj => by rw [u_ne _ _ (by omega)]; exact hsc j (by omega))
      rw [show c + (n + 1) = c + 1 + n by omega]
      exact this
    · rw [if_neg h]
      have := ih (c + 1) k sm sc (by
        rw [pc, ← hk, if_neg]
        unfold ch
        rw [hc]
        simp) (fun j hj => hsc j (by omega))
      rw [show c + (n + 1) = c + 1 + n by omega]
      exact this
theorem op_ml_pc (s : ZSt) (nc : Nat) (st : Nat → Int32) : (op_ml s nc st).1 = nI (pc (ch (op_ml s nc st).2 st) nc) := by
  have h0 : (0 : Nat) = pc (ch st st) 0 := rfl
  have := op_mlG_pc (sp_wt s) (s 7) st nc 0 0 0 st h0 (fun _ _ => rfl)
  rw [Nat.zero_add] at this
  exact this
section ZBIT
variable {G : ZG} {l : Launch}
theorem cx_bitCount (x : Int32) (E : ZE) (im : ZI) : zz_OP G l 0 mJ6_bitCount_0f7a4 [.int x] E im (bcn x) := by
  refine zz_intro (isI := false) (by decide) rfl (Nat.le_of_ble_eq_true rfl) (fun h => by cases h) (fun w S => ?_)
  refine zz_iload_0 S dJ6_bitCount_0f7a4_0 (q := 1) rfl ?_
  refine zz_iload_0 S dJ6_bitCount_0f7a4_1 (q := 2) rfl ?_
  refine zz_iconst S (v := 1) rfl dJ6_bitCount_0f7a4_2 (q := 3) rfl ?_
  refine zz_iushr S dJ6_bitCount_0f7a4_3 (q := 4) rfl ?_
  refine zz_ldcw S (v := 1431655765) kJ6_265 dJ6_bitCount_0f7a4_4 (q := 7) rfl ?_
  refine zz_iand S dJ6_bitCount_0f7a4_7 (q := 8) rfl ?_
  refine zz_isub S dJ6_bitCount_0f7a4_8 (q := 9) rfl ?_
  refine zz_istore_0 S dJ6_bitCount_0f7a4_9 (q := 10) rfl ?_
  refine zz_iload_0 S dJ6_bitCount_0f7a4_10 (q := 11) rfl ?_
  refine zz_ldcw S (v := 858993459) kJ6_266 dJ6_bitCount_0f7a4_11 (q := 14) rfl ?_
  refine zz_iand S dJ6_bitCount_0f7a4_14 (q := 15) rfl ?_
  refine zz_iload_0 S dJ6_bitCount_0f7a4_15 (q := 16) rfl ?_
  refine zz_iconst S (v := 2) rfl dJ6_bitCount_0f7a4_16 (q := 17) rfl ?_
  refine zz_iushr S dJ6_bitCount_0f7a4_17 (q := 18) rfl ?_
  refine zz_ldcw S (v := 858993459) kJ6_266 dJ6_bitCount_0f7a4_18 (q := 21) rfl ?_
  refine zz_iand S dJ6_bitCount_0f7a4_21 (q := 22) rfl ?_
  refine zz_iadd S dJ6_bitCount_0f7a4_22 (q := 23) rfl ?_
  refine zz_istore_0 S dJ6_bitCount_0f7a4_23 (q := 24) rfl ?_
  refine zz_iload_0 S dJ6_bitCount_0f7a4_24 (q := 25) rfl ?_
  refine zz_iload_0 S dJ6_bitCount_0f7a4_25 (q := 26) rfl ?_
  refine zz_iconst S (v := 4) rfl dJ6_bitCount_0f7a4_26 (q := 27) rfl ?_
  refine zz_iushr S dJ6_bitCount_0f7a4_27 (q := 28) rfl ?_
  refine zz_iadd S dJ6_bitCount_0f7a4_28 (q := 29) rfl ?_
  refine zz_ldcw S (v := 252645135) kJ6_267 dJ6_bitCount_0f7a4_29 (q := 32) rfl ?_
  refine zz_iand S dJ6_bitCount_0f7a4_32 (q := 33) rfl ?_
  refine zz_istore_0 S dJ6_bitCount_0f7a4_33 (q := 34) rfl ?_
  refine zz_iload_0 S dJ6_bitCount_0f7a4_34 (q := 35) rfl ?_
  refine zz_iload_0 S dJ6_bitCount_0f7a4_35 (q := 36) rfl ?_
  refine zz_bipush S (v := 8) rfl dJ6_bitCount_0f7a4_36 (q := 38) rfl ?_
  refine zz_iushr S dJ6_bitCount_0f7a4_38 (q := 39) rfl ?_
  refine zz_iadd S dJ6_bitCount_0f7a4_39 (q := 40) rfl ?_
  refine zz_istore_0 S dJ6_bitCount_0f7a4_40 (q := 41) rfl ?_
  refine zz_iload_0 S dJ6_bitCount_0f7a4_41 (q := 42) rfl ?_
  refine zz_iload_0 S dJ6_bitCount_0f7a4_42 (q := 43) rfl ?_
  refine zz_bipush S (v := 16) rfl dJ6_bitCount_0f7a4_43 (q := 45) rfl ?_
  refine zz_iushr S dJ6_bitCount_0f7a4_45 (q := 46) rfl ?_
  refine zz_iadd S dJ6_bitCount_0f7a4_46 (q := 47) rfl ?_
  refine zz_istore_0 S dJ6_bitCount_0f7a4_47 (q := 48) rfl ?_
  refine zz_iload_0 S dJ6_bitCount_0f7a4_48 (q := 49) rfl ?_
  refine zz_bipush S (v := 63) rfl dJ6_bitCount_0f7a4_49 (q := 51) rfl ?_
  refine zz_iand S dJ6_bitCount_0f7a4_51 (q := 52) rfl ?_
  refine zz_iret S dJ6_bitCount_0f7a4_52 ⟨rfl, _, rfl, rfl, ?_⟩
  exact ⟨rfl, rfl⟩
def isA (s : Nat → Int32) (j : Nat) : Bool := decide (s j = 1)
set_option maxHeartbeats 4000000 in
theorem lx_ones {n0 mcT msT : Nat} {isI : Bool} {Qf : Option Value → ZE → ZI → Prop} {w : Nat → ZL → List Value → Nat → ZE → ZI → Prop} {z nw nc : Nat} {im : ZI} {s : ZSt} (S : zz_S G l RX4 cX4_acceptedOnes 3 0 n0 mcT msT isI (some .int) Qf w)
    (h1 : im 2 5 = nI nc) (hn : nc ≤ 10) (hr : rS im 2 s nw nc) (hQ : Qf (some (.int (nI (mk (isA (op_st s)) nc)))) zE im) :
    ∀ (n c : Nat) (x m : Int32), c + n = nc → x = nI c → m = nI (mk (isA (op_st s)) c) → w 4 [some (.ref 2), some (.int m), some (.int x)] [] z zE im := by
  intro n
  induction n with
  | zero =>
    intro c x m hc hx hm
    have hc : c = nc := by omega
    subst hc
    refine zz_iload_2 S dX4_acceptedOnes_4 (q := 5) rfl ?_
    refine zz_aload_0 S dX4_acceptedOnes_5 (q := 6) rfl ?_
    refine zz_getI S fX4_52 rfl (Nat.le_of_ble_eq_true rfl) rfl dX4_acceptedOnes_6 (q := 9) rfl ?_
    refine zz_icmp_ge S dX4_acceptedOnes_9 (t := 37) (by decide) (q := 12) rfl (fun a1 => ?_) (fun a1 => ?_)
    -- then 37 else 12
    · refine zz_iload_1 S dX4_acceptedOnes_37 (q := 38) rfl ?_
      -- at 38: ireturn 
      exact zz_iret S dX4_acceptedOnes_38 (by rw [hm]; exact hQ)
    · exact absurd (by rw [h1, hx]; exact Int32.le_refl _) a1
  | succ n ih =>
    intro c x m hc hx hm
    have e4 : im (13 + c) 4 = s (38 + 8 * c + 4) := hr.com (by omega) (by omega) (by omega)
    refine zz_iload_2 S dX4_acceptedOnes_4 (q := 5) rfl ?_
    refine zz_aload_0 S dX4_acceptedOnes_5 (q := 6) rfl ?_
    refine zz_getI S fX4_52 rfl (Nat.le_of_ble_eq_true rfl) rfl dX4_acceptedOnes_6 (q := 9) rfl ?_
    refine zz_icmp_ge S dX4_acceptedOnes_9 (t := 37) (by decide) (q := 12) rfl (fun a1 => ?_) (fun a1 => ?_)
    -- then 37 else 12
    · exact absurd a1 (by rw [h1, hx]; exact nI_ge (by omega) (by omega))
    · refine zz_aload_0 S dX4_acceptedOnes_12 (q := 13) rfl ?_
      refine zz_getR S fX4_26 rfl (Nat.le_of_ble_eq_true rfl) rfl rfl dX4_acceptedOnes_13 (q := 16) rfl ?_
      refine zz_iload_2 S dX4_acceptedOnes_16 (q := 17) rfl ?_
      refine zz_aaN S (j := c) (Nat.le_of_ble_eq_true rfl) rfl ⟨Nat.le_of_ble_eq_true rfl, Nat.le_of_ble_eq_true rfl⟩ (Nat.le_of_ble_eq_true rfl) hx (by omega) (zc_ref c (by omega)) dX4_acceptedOnes_17 (q := 18) rfl ?_
      refine zz_getI S fX4_99 rfl (show 13 + c < 470 by omega) (zc_k c (by omega)) dX4_acceptedOnes_18 (q := 21) rfl ?_
      refine zz_iconst S (v := 1) rfl dX4_acceptedOnes_21 (q := 22) rfl ?_
      refine zz_icmp_ne S dX4_acceptedOnes_22 (t := 31) (by decide) (q := 25) rfl (fun a2 => ?_) (fun a2 => ?_)
      -- then 31 else 25
      · rw [e4] at a2
        refine zz_iinc_2 S rfl dX4_acceptedOnes_31 (q := 34) rfl ?_
        refine zz_goto S dX4_acceptedOnes_34 (t := 4) (by decide) ?_
        -- at 4
        refine ih (c + 1) _ _ (by omega) (by rw [hx]; exact nI_1 c) ?_
        rw [hm, mk, if_neg (by unfold isA op_st; simpa using a2)]
      · rw [e4] at a2
        refine zz_iload_1 S dX4_acceptedOnes_25 (q := 26) rfl ?_
        refine zz_iconst S (v := 1) rfl dX4_acceptedOnes_26 (q := 27) rfl ?_
        refine zz_iload_2 S dX4_acceptedOnes_27 (q := 28) rfl ?_
        refine zz_ishl S dX4_acceptedOnes_28 (q := 29) rfl ?_
        refine zz_ior S dX4_acceptedOnes_29 (q := 30) rfl ?_
        refine zz_istore_1 S rfl dX4_acceptedOnes_30 (q := 31) rfl ?_
        refine zz_iinc_2 S rfl dX4_acceptedOnes_31 (q := 34) rfl ?_
        refine zz_goto S dX4_acceptedOnes_34 (t := 4) (by decide) ?_
        -- at 4
        refine ih (c + 1) _ _ (by omega) (by rw [hx]; exact nI_1 c) ?_
        rw [hm, hx, bt_or c (by omega) _ (mk_lt _ _), mk, if_pos (by unfold isA op_st; simpa using a2)]
theorem cx_ones (nw nc : Nat) (s : ZSt) (im : ZI) (h1 : im 2 5 = nI nc) (hn : nc ≤ 10) (hr : rS im 2 s nw nc) : zz_OP G l 0 mX4_acceptedOnes [.ref 2] zE im (nI (mk (isA (op_st s)) nc)) := by
  refine zz_intro (isI := false) (by decide) rfl (Nat.le_of_ble_eq_true rfl) (fun h => by cases h) (fun w S => ?_)
  refine zz_iconst S (v := 0) rfl dX4_acceptedOnes_0 (q := 1) rfl ?_
  refine zz_istore_1 S rfl dX4_acceptedOnes_1 (q := 2) rfl ?_
  refine zz_iconst S (v := 0) rfl dX4_acceptedOnes_2 (q := 3) rfl ?_
  refine zz_istore_2 S rfl dX4_acceptedOnes_3 (q := 4) rfl ?_
  -- at 4
  exact lx_ones S h1 hn hr ⟨rfl, _, rfl, rfl, rfl, rfl⟩ nc 0 _ _ (by omega) rfl rfl
set_option maxHeartbeats 4000000 in
theorem lx_next {n0 mcT msT : Nat} {isI : Bool} {Qf : Option Value → ZE → ZI → Prop} {w : Nat → ZL → List Value → Nat → ZE → ZI → Prop} {z nw nc : Nat} {im : ZI} {s : ZSt} {st : Nat → Int32} {R : Int32 × (Nat → Int32)} {y : Int32} (S : zz_S G l RX4 cX4_nextMelt 6 2 n0 mcT msT isI (some .int) Qf w)
    (hy : y = nI (mk (isA st) nc)) (h1 : im 2 5 = nI nc) (hn : nc ≤ 10) (hr : rS im 2 s nw nc) (hQ : Qf (some (.int (nI (mk (ch R.2 st) nc)))) zE im) :
    ∀ (n c : Nat) (x a sm m : Int32) (sc : Nat → Int32) (u : Option Value), c + n = nc → x = nI c → a = nI (mk (ch sc st) c) → (∀ j, c ≤ j → sc j = st j) → R = op_mlG (sp_wt s) (s 7) n c sm m sc → w 7 [some (.ref 2), some (.int y), some (.int a), some (.int sm), some (.int x), u] [] z zE im := by
  intro n
  induction n with
  | zero =>
    intro c x a sm m sc u hc hx ha hsc hR
    have hc : c = nc := by omega
    subst hc
    refine zz_iload_4 S dX4_nextMelt_7 (q := 9) rfl ?_
    refine zz_aload_0 S dX4_nextMelt_9 (q := 10) rfl ?_
    refine zz_getI S fX4_52 rfl (Nat.le_of_ble_eq_true rfl) rfl dX4_nextMelt_10 (q := 13) rfl ?_
    refine zz_icmp_ge S dX4_nextMelt_13 (t := 68) (by decide) (q := 16) rfl (fun a1 => ?_) (fun a1 => ?_)
    -- then 68 else 16
    · refine zz_iload_2 S dX4_nextMelt_68 (q := 69) rfl ?_
      -- at 69: ireturn 
      exact zz_iret S dX4_nextMelt_69 (by rw [ha]; rw [hR] at hQ; exact hQ)
    · exact absurd (by rw [h1, hx]; exact Int32.le_refl _) a1
  | succ n ih =>
    intro c x a sm m sc u hc hx ha hsc hR
    have e2 : im (13 + c) 2 = s (38 + 8 * c + 2) := hr.com (by omega) (by omega) (by omega)
    have e7 : im 5 3 = s 7 := hr.set (by omega)
    have hcc := hsc c (Nat.le_refl _)
    have hbit : y &&& ((1 : Int32) <<< (x &&& 31)) = 0 ↔ ¬ st c = 1 := by
      rw [hy, hx, bt_and c (by omega) _ (mk_1024 _ hn), mk_bit]
      unfold isA
      simp [show c < nc by omega]
    rw [op_mlG] at hR
    have same : ∀ u, ¬ (sc c = 1 ∧ ¬ sm + sp_wt s c > s 7) → w 62 [some (.ref 2), some (.int y), some (.int a), some (.int sm), some (.int x), u] [] z zE im := fun u h => by
      rw [if_neg h] at hR
      refine zz_iinc_4 S rfl dX4_nextMelt_62 (q := 65) rfl ?_
      refine zz_goto S dX4_nextMelt_65 (t := 7) (by decide) ?_
      -- at 7
      refine ih (c + 1) _ _ _ _ sc _ (by omega) (by rw [hx]; exact nI_1 c) ?_ (fun j hj => hsc j (by omega)) hR
      rw [ha, mk, if_neg]
      unfold ch
      rw [hcc]
      simp
    refine zz_iload_4 S dX4_nextMelt_7 (q := 9) rfl ?_
    refine zz_aload_0 S dX4_nextMelt_9 (q := 10) rfl ?_
    refine zz_getI S fX4_52 rfl (Nat.le_of_ble_eq_true rfl) rfl dX4_nextMelt_10 (q := 13) rfl ?_
    refine zz_icmp_ge S dX4_nextMelt_13 (t := 68) (by decide) (q := 16) rfl (fun a1 => ?_) (fun a1 => ?_)
    -- then 68 else 16
    · exact absurd a1 (by rw [h1, hx]; exact nI_ge (by omega) (by omega))
    · refine zz_aload_0 S dX4_nextMelt_16 (q := 17) rfl ?_
      refine zz_getR S fX4_26 rfl (Nat.le_of_ble_eq_true rfl) rfl rfl dX4_nextMelt_17 (q := 20) rfl ?_
      refine zz_iload_4 S dX4_nextMelt_20 (q := 22) rfl ?_
      refine zz_aaN S (j := c) (Nat.le_of_ble_eq_true rfl) rfl ⟨Nat.le_of_ble_eq_true rfl, Nat.le_of_ble_eq_true rfl⟩ (Nat.le_of_ble_eq_true rfl) hx (by omega) (zc_ref c (by omega)) dX4_nextMelt_22 (q := 23) rfl ?_
      -- at 23: invokevirtual 126
      refine zz_virtP S yy_X0_weight lX4_126 (ci := 0) (by decide) rfl (cx_weight (13 + c) im (by omega) (zc_k c (by omega))) rfl (Nat.le_of_ble_eq_true rfl) (show 13 + c < 470 by omega) (zc_k c (by omega)) (Nat.le_of_ble_eq_true rfl) rfl dX4_nextMelt_23 (q := 26) rfl ?_
      rw [e2, show (zs_rd (s (38 + 8 * c + 2) * s (38 + 8 * c + 2)).toInt64 100).toInt32 = sp_wt s c from rfl]
      refine zz_istore_5 S rfl dX4_nextMelt_26 (q := 28) rfl ?_
      refine zz_iload_1 S dX4_nextMelt_28 (q := 29) rfl ?_
      refine zz_iconst S (v := 1) rfl dX4_nextMelt_29 (q := 30) rfl ?_
      refine zz_iload_4 S dX4_nextMelt_30 (q := 32) rfl ?_
      refine zz_ishl S dX4_nextMelt_32 (q := 33) rfl ?_
      refine zz_iand S dX4_nextMelt_33 (q := 34) rfl ?_
      refine zz_if_eq S dX4_nextMelt_34 (t := 62) (by decide) (q := 37) rfl (fun a2 => ?_) (fun a2 => ?_)
      -- then 62 else 37
      · have a2' := hbit.mp a2
        exact same _ (fun e => a2' (by rw [← hcc]; exact e.1))
      · have a2' : st c = 1 := Classical.not_not.mp (fun e => a2 (hbit.mpr e))
        refine zz_iload_3 S dX4_nextMelt_37 (q := 38) rfl ?_
        refine zz_iload_5 S dX4_nextMelt_38 (q := 40) rfl ?_
        refine zz_iadd S dX4_nextMelt_40 (q := 41) rfl ?_
        refine zz_aload_0 S dX4_nextMelt_41 (q := 42) rfl ?_
        refine zz_getR S fX4_21 rfl (Nat.le_of_ble_eq_true rfl) rfl rfl dX4_nextMelt_42 (q := 45) rfl ?_
        refine zz_iconst S (v := 3) rfl dX4_nextMelt_45 (q := 46) rfl ?_
        refine zz_iaN S (j := 3) (Nat.le_of_ble_eq_true rfl) rfl (Nat.le_of_ble_eq_true rfl) rfl (Nat.le_of_ble_eq_true rfl) dX4_nextMelt_46 (q := 47) rfl ?_
        refine zz_icmp_gt S dX4_nextMelt_47 (t := 62) (by decide) (q := 50) rfl (fun a3 => ?_) (fun a3 => ?_)
        -- then 62 else 50
        · rw [e7] at a3
          exact same _ (fun e => e.2 a3)
        · rw [e7] at a3
          rw [if_pos ⟨by rw [hcc]; exact a2', a3⟩] at hR
          refine zz_iload_2 S dX4_nextMelt_50 (q := 51) rfl ?_
          refine zz_iconst S (v := 1) rfl dX4_nextMelt_51 (q := 52) rfl ?_
          refine zz_iload_4 S dX4_nextMelt_52 (q := 54) rfl ?_
          refine zz_ishl S dX4_nextMelt_54 (q := 55) rfl ?_
          refine zz_ior S dX4_nextMelt_55 (q := 56) rfl ?_
          refine zz_istore_2 S rfl dX4_nextMelt_56 (q := 57) rfl ?_
          refine zz_iload_3 S dX4_nextMelt_57 (q := 58) rfl ?_
          refine zz_iload_5 S dX4_nextMelt_58 (q := 60) rfl ?_
          refine zz_iadd S dX4_nextMelt_60 (q := 61) rfl ?_
          refine zz_istore_3 S rfl dX4_nextMelt_61 (q := 62) rfl ?_
          refine zz_iinc_4 S rfl dX4_nextMelt_62 (q := 65) rfl ?_
          refine zz_goto S dX4_nextMelt_65 (t := 7) (by decide) ?_
          -- at 7
          refine ih (c + 1) _ _ _ _ (upd sc c 2) _ (by omega) (by rw [hx]; exact nI_1 c) ?_ (fun j hj => by rw [u_ne _ _ (by omega)]; exact hsc j (by omega)) hR
          rw [ha, hx, bt_or c (by omega) _ (mk_lt _ _), mk, if_pos, mk_eq c (ch_u (Nat.le_refl _))]
          unfold ch
          rw [u_eq, a2']
          decide
theorem cx_next (y : Int32) (nw nc : Nat) (s : ZSt) (st : Nat → Int32) (im : ZI) (hy : y = nI (mk (isA st) nc)) (h1 : im 2 5 = nI nc) (hn : nc ≤ 10) (hr : rS im 2 s nw nc) : zz_OP G l 2 mX4_nextMelt [.ref 2, .int y] zE im (nI (mk (ch (op_ml s nc st).2 st) nc)) := by
  refine zz_intro (isI := false) (by decide) rfl (Nat.le_of_ble_eq_true rfl) (fun h => by cases h) (fun w S => ?_)
  refine zz_iconst S (v := 0) rfl dX4_nextMelt_0 (q := 1) rfl ?_
  refine zz_istore_2 S rfl dX4_nextMelt_1 (q := 2) rfl ?_
  refine zz_iconst S (v := 0) rfl dX4_nextMelt_2 (q := 3) rfl ?_
  refine zz_istore_3 S rfl dX4_nextMelt_3 (q := 4) rfl ?_
  refine zz_iconst S (v := 0) rfl dX4_nextMelt_4 (q := 5) rfl ?_
  refine zz_istore_4 S rfl dX4_nextMelt_5 (q := 7) rfl ?_
  -- at 7
  exact lx_next (R := op_ml s nc st) S hy h1 hn hr ⟨rfl, _, rfl, rfl, rfl, rfl⟩ nc 0 _ _ _ _ st _ (by omega) rfl rfl (fun _ _ => rfl) rfl
end ZBIT
