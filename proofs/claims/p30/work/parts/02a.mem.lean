/-! THE ABSTRACT MEMORY. Cells are numbered from 0 by the order in which they are made; their contents are ints (ZI) and numbers of cells (in ZE). -/
abbrev ZE : Type := Nat × (Nat → Nat × Nat) × (Nat → Nat → Option Nat)
abbrev ZI : Type := Nat → Nat → Int32
abbrev ZG : Type := va_G × (Nat → ClassId) × Nat × (Nat → Nat) × Nat × (Nat → Int32)
abbrev ZL : Type := List (Option Value)
/-- the address of a cell by its number; from 1000 on: the tables and texts that nobody writes -/
def zz_b (G : ZG) (k : Nat) : Nat := if k < 1000 then G.2.2.1 + k else G.2.2.2.1 (k - 1000)
def zz_v (G : ZG) (v : Value) : Value := match v with
  | .ref k => .ref (zz_b G k)
  | w => w
theorem zz_v_cat (G : ZG) (v : Value) : (zz_v G v).category = v.category := by cases v <;> rfl
theorem zz_v_int (G : ZG) (x : Int32) : zz_v G (.int x) = .int x := rfl
theorem zz_v_long (G : ZG) (x : Int64) : zz_v G (.long x) = .long x := rfl
theorem zz_v_ref (G : ZG) (k : Nat) : zz_v G (.ref k) = .ref (zz_b G k) := rfl
theorem zz_sum (G : ZG) (st : List Value) : ((st.map (zz_v G)).map fun v => v.category).sum = (st.map fun v => v.category).sum := by
  rw [List.map_map]
  congr 1
  exact List.map_congr_left fun v _ => zz_v_cat G v
/-! locals, by place -/
def zz_l (G : ZG) : Nat → ZL → List (Nat × Value)
  | _, [] => []
  | i, none :: L => zz_l G (i + 1) L
  | i, some v :: L => (i, zz_v G v) :: zz_l G (i + 1) L
theorem zz_l_mem {G : ZG} {q : Nat × Value} : ∀ {L : ZL} {i : Nat}, q ∈ zz_l G i L ↔ ∃ (k : Nat) (v : Value), L[k]? = some (some v) ∧ q = (i + k, zz_v G v)
  | [], i => by simp [zz_l]
  | none :: L, i => by
    rw [zz_l, zz_l_mem (L := L) (i := i + 1)]
    constructor
    · rintro ⟨k, v, h, rfl⟩
      exact ⟨k + 1, v, by simpa using h, by rw [show i + 1 + k = i + (k + 1) by omega]⟩
    · rintro ⟨k, v, h, rfl⟩
      cases k with
      | zero => simp at h
      | succ k => exact ⟨k, v, by simpa using h, by rw [show i + 1 + k = i + (k + 1) by omega]⟩
  | some u :: L, i => by
    rw [zz_l, List.mem_cons, zz_l_mem (L := L) (i := i + 1)]
    constructor
    · rintro (rfl | ⟨k, v, h, rfl⟩)
      · exact ⟨0, u, rfl, rfl⟩
      · exact ⟨k + 1, v, by simpa using h, by rw [show i + 1 + k = i + (k + 1) by omega]⟩
    · rintro ⟨k, v, h, rfl⟩
      cases k with
      | zero =>
        left
        have h2 : u = v := by simpa using h
        rw [h2]; rfl
      | succ k => exact Or.inr ⟨k, v, by simpa using h, by rw [show i + 1 + k = i + (k + 1) by omega]⟩
def zz_h (G : ZG) (ls : Array Slot) (nL : Nat) (L : ZL) : Prop := lv_has ls nL (zz_l G 0 L) ∧ L.length ≤ nL
theorem zz_ld {G : ZG} {ls : Array Slot} {nL : Nat} {L : ZL} (h : zz_h G ls nL L) {i : Nat} {v : Value} (hL : L[i]? = some (some v)) : ls[i]? = some (.val (zz_v G v)) :=
  h.1.2.2 (i, zz_v G v) (zz_l_mem.mpr ⟨i, v, hL, by rw [Nat.zero_add]⟩)
theorem zz_set1 {G : ZG} {ls' : Array Slot} {nL i : Nat} {L : ZL} {v : Value} (hn : L.length ≤ nL) (hp : ∀ (j : Nat) (w : Value), j + 1 = i → L[j]? = some (some w) → w.category = 1)
    (h : lv_has ls' nL ((i, zz_v G v) :: (zz_l G 0 L).filter (fun q => !(q.1 == i) && !(q.1 + 1 == i && q.2.category == 2)))) : zz_h G ls' nL (L.set i (some v)) := by
  refine ⟨⟨h.1, h.2.1, fun q hq => ?_⟩, by rw [List.length_set]; exact hn⟩
  obtain ⟨k, w, h1, rfl⟩ := zz_l_mem.mp hq
  rw [Nat.zero_add] at *
  apply h.2.2
  by_cases hk : k = i
  · subst hk
    rw [List.getElem?_set] at h1
    by_cases hl : k < L.length
    · simp [hl] at h1
      subst h1
      exact List.mem_cons_self
    · simp [hl] at h1
  · rw [List.getElem?_set_ne (Ne.symm hk)] at h1
    refine List.mem_cons_of_mem _ (List.mem_filter.mpr ⟨zz_l_mem.mpr ⟨k, w, h1, by rw [Nat.zero_add]⟩, ?_⟩)
    simp only [Bool.and_eq_true, Bool.not_eq_true', beq_eq_false_iff_ne, ne_eq, Bool.and_eq_false_iff]
    refine ⟨hk, ?_⟩
    by_cases hk1 : k + 1 = i
    · right
      rw [zz_v_cat, hp k w hk1 h1]
      decide
    · exact Or.inl hk1
theorem zz_set2 {G : ZG} {ls' : Array Slot} {nL i : Nat} {L : ZL} {v : Value} (hn : L.length ≤ nL) (hp : ∀ (j : Nat) (w : Value), j + 1 = i → L[j]? = some (some w) → w.category = 1)
    (h : lv_has ls' nL ((i, zz_v G v) :: (zz_l G 0 L).filter (fun q => !(q.1 == i) && (!(q.1 == i + 1) && !(q.1 + 1 == i && q.2.category == 2))))) : zz_h G ls' nL ((L.set i (some v)).set (i + 1) none) := by
  refine ⟨⟨h.1, h.2.1, fun q hq => ?_⟩, by rw [List.length_set, List.length_set]; exact hn⟩
  obtain ⟨k, w, h1, rfl⟩ := zz_l_mem.mp hq
  rw [Nat.zero_add] at *
  apply h.2.2
  by_cases hk2 : k = i + 1
  · subst hk2
    rw [List.getElem?_set] at h1
    simp at h1
  · rw [List.getElem?_set_ne (Ne.symm hk2)] at h1
    by_cases hk : k = i
    · subst hk
      rw [List.getElem?_set] at h1
      by_cases hl : k < L.length
      · simp [hl] at h1
        subst h1
        exact List.mem_cons_self
      · simp [hl] at h1
    · rw [List.getElem?_set_ne (Ne.symm hk)] at h1
      refine List.mem_cons_of_mem _ (List.mem_filter.mpr ⟨zz_l_mem.mpr ⟨k, w, h1, by rw [Nat.zero_add]⟩, ?_⟩)
      simp only [Bool.and_eq_true, Bool.not_eq_true', beq_eq_false_iff_ne, ne_eq, Bool.and_eq_false_iff]
      refine ⟨hk, hk2, ?_⟩
      by_cases hk1 : k + 1 = i
      · right
        rw [zz_v_cat, hp k w hk1 h1]
        decide
      · exact Or.inl hk1
theorem zz_drop {G : ZG} {ls : Array Slot} {nL : Nat} {L L' : ZL} (h : zz_h G ls nL L) (hl : L'.length ≤ L.length) (hs : ∀ (k : Nat) (v : Value), L'[k]? = some (some v) → L[k]? = some (some v)) : zz_h G ls nL L' := by
  refine ⟨⟨h.1.1, h.1.2.1, fun q hq => ?_⟩, Nat.le_trans hl h.2⟩
  obtain ⟨k, w, h1, rfl⟩ := zz_l_mem.mp hq
  exact h.1.2.2 _ (zz_l_mem.mpr ⟨k, w, hs k w h1, rfl⟩)
/-! cells -/
abbrev zz_cl : List vw_C := [(RX0, TX0, 8), (RX1, TX1, 3), (RX2, TX2, 3), (RX3, TX3, 5), (RX4, TX4, 8), (RX5, TX5, 3), (RX6, TX6, 2), (RX7, TX7, 5)]
def zz_n : Nat → Nat
  | 0 => 8
  | 1 => 3
  | 2 => 3
  | 3 => 5
  | 4 => 8
  | 5 => 3
  | 6 => 2
  | _ => 5
def zz_ty : Nat → Nat → FieldType
  | 0 => tyX0
  | 1 => tyX1
  | 2 => tyX2
  | 3 => tyX3
  | 4 => tyX4
  | 5 => tyX5
  | 6 => tyX6
  | _ => tyX7
def zz_ir (ty : FieldType) : Bool := match ty with
  | .object _ => true
  | .array _ => true
  | _ => false
def zz_r (c j : Nat) : Bool := zz_ir (zz_ty c j)
/-- kinds of arrays -/
def zz_at : Nat → FieldType
  | 1 => .int
  | 2 => .boolean
  | 3 => .char
  | 4 => .object RX6
  | 5 => .object RX0
  | 6 => .object RX4
  | _ => .object RX5
def zz_fv (G : ZG) (ci : Nat) (r : Nat → Int32) (o : Nat → Option Nat) (j : Nat) : Value := if zz_r ci j = true then va_rf ((o j).map (zz_b G)) else .int (r j)
def zz_fs (G : ZG) (ci : Nat) (r : Nat → Int32) (o : Nat → Option Nat) : List Value := (List.range (zz_n ci)).map (zz_fv G ci r o)
/-- a cell of the kind kd (0: an object of the class kd.2; 1 to 3: numbers; from 4 on: cells) -/
def zz_c (G : ZG) (kd : Nat × Nat) (r : Nat → Int32) (o : Nat → Option Nat) : va_E :=
  if kd.1 = 0 then .inr (kd.2, zz_fs G kd.2 r o)
  else if kd.1 ≤ 3 then .inl (G.2.1 kd.1, kd.2, .inl r)
  else .inl (G.2.1 kd.1, kd.2, .inr (.inr (.inr (.inr (fun j => (o j).map (zz_b G))))))
def zz_w (G : ZG) (E : ZE) (im : ZI) : va_W := (List.range E.1).map (fun k => (zz_b G k, zz_c G (E.2.1 k) (im k) (E.2.2 k)))
def zz_tys (G : ZG) : List (ClassId × FieldType) := [(G.2.1 0, .int), (G.2.1 1, .int), (G.2.1 2, .boolean), (G.2.1 3, .char), (G.2.1 4, .object RX6), (G.2.1 5, .object RX0), (G.2.1 6, .object RX4), (G.2.1 7, .object RX5)]
def zz_A (G : ZG) : Nat → Prop := fun q => G.2.2.1 ≤ q
def zz_R (G : ZG) (H : Heap) (E : ZE) (im : ZI) : Prop := E.1 ≤ 1000 ∧ va_P G.1 zz_cl (zz_w G E im) H
theorem zz_w_get {G : ZG} {E : ZE} {im : ZI} {k : Nat} (hk : k < E.1) : (zz_w G E im)[k]? = some (zz_b G k, zz_c G (E.2.1 k) (im k) (E.2.2 k)) := by
  simp [zz_w, List.getElem?_map, List.getElem?_range hk]
theorem zz_w_some {G : ZG} {E : ZE} {im : ZI} {k : Nat} {q : Nat × va_E} (h : (zz_w G E im)[k]? = some q) : k < E.1 ∧ q = (zz_b G k, zz_c G (E.2.1 k) (im k) (E.2.2 k)) := by
  have hl := (List.getElem?_eq_some_iff.mp h).1
  have hk : k < E.1 := by simpa [zz_w] using hl
  rw [zz_w_get hk] at h
  exact ⟨hk, (Option.some.inj h).symm⟩
theorem zz_w_D {G : ZG} {E : ZE} {im : ZI} (h : E.1 ≤ 1000) : va_D (zz_A G) (zz_w G E im) := by
  refine ⟨fun i j p q hi hj hpq => ?_, fun k q hk => ?_⟩
  · obtain ⟨h1, rfl⟩ := zz_w_some hi
    obtain ⟨h2, rfl⟩ := zz_w_some hj
    have e : zz_b G i = zz_b G j := hpq
    unfold zz_b at e
    rw [if_pos (by omega), if_pos (by omega)] at e
    omega
  · obtain ⟨h1, rfl⟩ := zz_w_some hk
    show G.2.2.1 ≤ zz_b G k
    unfold zz_b
    rw [if_pos (by omega)]
    omega
theorem zz_w_set {G : ZG} {E E' : ZE} {im im' : ZI} {q : Nat} (h0 : E'.1 = E.1) (hq : q < E.1) (h1 : ∀ k, k ≠ q → E'.2.1 k = E.2.1 k) (h2 : ∀ k, k ≠ q → im' k = im k) (h3 : ∀ k, k ≠ q → E'.2.2 k = E.2.2 k) :
    (zz_w G E im).set q (zz_b G q, zz_c G (E'.2.1 q) (im' q) (E'.2.2 q)) = zz_w G E' im' := by
  apply List.ext_getElem?
  intro k
  have hlen : (zz_w G E im).length = E.1 := by simp [zz_w]
  by_cases hk : k = q
  · subst hk
    rw [List.getElem?_set_self (by rw [hlen]; exact hq), zz_w_get (by rw [h0]; exact hq)]
  · rw [List.getElem?_set_ne (Ne.symm hk)]
    by_cases hl : k < E.1
    · rw [zz_w_get hl, zz_w_get (by rw [h0]; exact hl), h1 k hk, h2 k hk, h3 k hk]
    · rw [List.getElem?_eq_none (by rw [hlen]; omega), List.getElem?_eq_none (by simp [zz_w]; omega)]
theorem zz_w_push {G : ZG} {E E' : ZE} {im im' : ZI} {kd : Nat × Nat} {r : Nat → Int32} {o : Nat → Option Nat} (h0 : E'.1 = E.1 + 1) (h1 : ∀ k, k < E.1 → E'.2.1 k = E.2.1 k) (h2 : ∀ k, k < E.1 → im' k = im k) (h3 : ∀ k, k < E.1 → E'.2.2 k = E.2.2 k)
    (e1 : E'.2.1 E.1 = kd) (e2 : im' E.1 = r) (e3 : E'.2.2 E.1 = o) : zz_w G E im ++ [(zz_b G E.1, zz_c G kd r o)] = zz_w G E' im' := by
  have hr : List.range E'.1 = List.range E.1 ++ [E.1] := by rw [h0, List.range_succ]
  unfold zz_w
  rw [hr, List.map_append, List.map_cons, List.map_nil, e1, e2, e3]
  congr 1
  exact List.map_congr_left fun k hk => by
    have hk' := List.mem_range.mp hk
    rw [h1 k hk', h2 k hk', h3 k hk']
/-- the memory with one int, one reference written -/
def zz_u (im : ZI) (k j : Nat) (v : Int32) : ZI := fun k' j' => if k' = k ∧ j' = j then v else im k' j'
theorem zz_u_row (im : ZI) (k j : Nat) (v : Int32) : zz_u im k j v k = upd (im k) j v := by
  funext j'
  simp [zz_u, upd]
theorem zz_u_off (im : ZI) (k j : Nat) (v : Int32) {q : Nat} (h : q ≠ k) : zz_u im k j v q = im q := by
  funext j'
  simp [zz_u, h]
def zz_ru (o : Nat → Nat → Option Nat) (k j : Nat) (v : Option Nat) : Nat → Nat → Option Nat := fun k' j' => if k' = k ∧ j' = j then v else o k' j'
theorem zz_ru_row (o : Nat → Nat → Option Nat) (k j : Nat) (v : Option Nat) : zz_ru o k j v k = va_up (o k) j v := by
  funext j'
  simp [zz_ru, va_up]
theorem zz_ru_off (o : Nat → Nat → Option Nat) (k j : Nat) (v : Option Nat) {q : Nat} (h : q ≠ k) : zz_ru o k j v q = o q := by
  funext j'
  simp [zz_ru, h]
theorem zz_fs_get {G : ZG} {ci j : Nat} {r : Nat → Int32} {o : Nat → Option Nat} (hj : j < zz_n ci) : (zz_fs G ci r o)[j]? = some (zz_fv G ci r o j) := by
  simp [zz_fs, List.getElem?_map, List.getElem?_range hj]
theorem zz_fs_len {G : ZG} {ci : Nat} {r : Nat → Int32} {o : Nat → Option Nat} : (zz_fs G ci r o).length = zz_n ci := by simp [zz_fs]
theorem zz_fs_setI {G : ZG} {ci j : Nat} {r : Nat → Int32} {o : Nat → Option Nat} {x : Int32} (hj : j < zz_n ci) (hr : zz_r ci j = false) : (zz_fs G ci r o).set j (.int x) = zz_fs G ci (upd r j x) o := by
  apply List.ext_getElem?
  intro k
  by_cases hk : k = j
  · subst hk
    rw [List.getElem?_set_self (by rw [zz_fs_len]; exact hj), zz_fs_get hj]
    simp [zz_fv, hr, upd]
  · rw [List.getElem?_set_ne (Ne.symm hk)]
    by_cases hl : k < zz_n ci
    · rw [zz_fs_get hl, zz_fs_get hl]
      simp [zz_fv, upd, hk]
    · rw [List.getElem?_eq_none (by rw [zz_fs_len]; omega), List.getElem?_eq_none (by rw [zz_fs_len]; omega)]
theorem zz_fs_setR {G : ZG} {ci j : Nat} {r : Nat → Int32} {o : Nat → Option Nat} {x : Nat} (hj : j < zz_n ci) (hr : zz_r ci j = true) : (zz_fs G ci r o).set j (.ref (zz_b G x)) = zz_fs G ci r (va_up o j (some x)) := by
  apply List.ext_getElem?
  intro k
  by_cases hk : k = j
  · subst hk
    rw [List.getElem?_set_self (by rw [zz_fs_len]; exact hj), zz_fs_get hj]
    simp [zz_fv, hr, va_up, va_rf]
  · rw [List.getElem?_set_ne (Ne.symm hk)]
    by_cases hl : k < zz_n ci
    · rw [zz_fs_get hl, zz_fs_get hl]
      simp [zz_fv, va_up, hk]
    · rw [List.getElem?_eq_none (by rw [zz_fs_len]; omega), List.getElem?_eq_none (by rw [zz_fs_len]; omega)]
