/-! numbers: times, and what the walk asks of them -/
section ZM
variable {G : ZG} {l : Launch} {own : String} {cc : ByteArray} {nL d n0 mcT msT : Nat} {isI : Bool} {rt : Option FieldType} {Qf : Option Value → ZE → ZI → Prop} {w : Nat → ZL → List Value → Nat → ZE → ZI → Prop}
variable {pc q t : Nat} {L L' : ZL} {st rest as : List Value} {z : Nat} {E : ZE} {im : ZI} {idx d2 : Nat} {y : ZY}
def zz_mask : List Bool → ZL → ZL
  | true :: bs, a :: M => a :: zz_mask bs M
  | false :: bs, _ :: M => none :: zz_mask bs M
  | _, _ => []
theorem zz_mask_len : ∀ (bs : List Bool) (M : ZL), (zz_mask bs M).length ≤ M.length
  | [], M => by simp [zz_mask]
  | true :: bs, [] => by simp [zz_mask]
  | false :: bs, [] => by simp [zz_mask]
  | true :: bs, a :: M => by simp [zz_mask, zz_mask_len bs M]
  | false :: bs, a :: M => by simp [zz_mask, zz_mask_len bs M]
theorem zz_mask_get : ∀ (bs : List Bool) (M : ZL) (k : Nat) (v : Value), (zz_mask bs M)[k]? = some (some v) → M[k]? = some (some v)
  | [], M, k, v => by simp [zz_mask]
  | true :: bs, [], k, v => by simp [zz_mask]
  | false :: bs, [], k, v => by simp [zz_mask]
  | true :: bs, a :: M, 0, v => by simp [zz_mask]
  | false :: bs, a :: M, 0, v => by simp [zz_mask]
  | true :: bs, a :: M, k + 1, v => by simpa [zz_mask] using zz_mask_get bs M k v
  | false :: bs, a :: M, k + 1, v => by simpa [zz_mask] using zz_mask_get bs M k v
/-- locals that are asked no more are forgotten -/
theorem zz_msk (S : zz_S G l own cc nL d n0 mcT msT isI rt Qf w) (bs : List Bool) (k : w pc (zz_mask bs L) st z E im) : w pc L st z E im :=
  zz_lok S (zz_mask_len bs L) (fun k v => zz_mask_get bs L k v) k
end ZM
/-- the time of the place i -/
def zs_t (i : Nat) : Int32 := nI i + (-360)
theorem zs_t0 : zs_t 0 = -360 := rfl
theorem zs_t_ix (i : Nat) : zs_t i + 360 = nI i := by
  unfold zs_t
  rw [Int32.add_assoc, show ((-360 : Int32) + 360) = 0 from rfl, Int32.add_zero]
theorem zs_t_add (i k : Nat) : zs_t i + nI k = zs_t (i + k) := by
  unfold zs_t
  rw [Int32.add_assoc, Int32.add_comm (-360) (nI k), ← Int32.add_assoc, nI_add]
theorem zs_t_i {i : Nat} (h : i < 100000) : (zs_t i).toInt = (i : Int) - 360 := by
  unfold zs_t
  rw [Int32.toInt_add, nI_toInt (by omega), show ((-360 : Int32)).toInt = -360 from rfl, Int.bmod_eq_of_le (by omega) (by omega)]
  omega
theorem zs_b0 {p : Prop} [Decidable p] : (if p then (0 : Int32) else 1) = 0 ↔ p := by
  by_cases h : p
  · simp [h]
  · simp [h]
theorem zs_b1 {p : Prop} [Decidable p] : (if p then (1 : Int32) else 0) = 0 ↔ ¬ p := by
  by_cases h : p
  · simp [h]
  · simp [h]
theorem zs_b0b {p : Prop} [Decidable p] : (if p then (0 : Int32) else 1) = 0 ∨ (if p then (0 : Int32) else 1) = 1 := by
  by_cases h : p
  · simp [h]
  · simp [h]
theorem zz_u_e (im : ZI) (k j : Nat) (v : Int32) : zz_u im k j v k j = v := by simp [zz_u]
theorem zz_u_n (im : ZI) {k j k' j' : Nat} (v : Int32) (h : k' ≠ k ∨ j' ≠ j) : zz_u im k j v k' j' = im k' j' := by
  unfold zz_u
  rw [if_neg]
  rintro ⟨a, b⟩
  rcases h with h | h
  · exact h a
  · exact h b
theorem zs_cl {x : Int32} {i : Nat} (h : x = nI i) (hi : i < 2 ^ 31) : x.toNatClampNeg = i := by rw [h]; exact nI_clamp hi
