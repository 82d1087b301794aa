/-! KINDS OF CONTRACTS, and the calls by them -/
def zz_OI (G : ZG) (l : Launch) (d : Nat) (y : ZY) (as : List Value) (E : ZE) (im : ZI) (q : Int32 → ZI → Prop) : Prop := zz_O G l d y as E im 0 0 (fun v E' im' => ∃ r, v = some (.int r) ∧ E' = E ∧ q r im')
def zz_OL (G : ZG) (l : Launch) (d : Nat) (y : ZY) (as : List Value) (E : ZE) (im : ZI) (q : Int64 → ZI → Prop) : Prop := zz_O G l d y as E im 0 0 (fun v E' im' => ∃ r, v = some (.long r) ∧ E' = E ∧ q r im')
def zz_OV (G : ZG) (l : Launch) (d : Nat) (y : ZY) (as : List Value) (E : ZE) (im : ZI) (q : ZI → Prop) : Prop := zz_O G l d y as E im 0 0 (fun v E' im' => v = none ∧ E' = E ∧ q im')
/-- an answer, nothing changed -/
def zz_OP (G : ZG) (l : Launch) (d : Nat) (y : ZY) (as : List Value) (E : ZE) (im : ZI) (f : Int32) : Prop := zz_OI G l d y as E im (fun r im' => r = f ∧ im' = im)
def zz_OPL (G : ZG) (l : Launch) (d : Nat) (y : ZY) (as : List Value) (E : ZE) (im : ZI) (f : Int64) : Prop := zz_OL G l d y as E im (fun r im' => r = f ∧ im' = im)
section ZK
variable {G : ZG} {l : Launch} {own : String} {cc : ByteArray} {nL d n0 mcT msT : Nat} {isI : Bool} {rt : Option FieldType} {Qf : Option Value → ZE → ZI → Prop} {w : Nat → ZL → List Value → Nat → ZE → ZI → Prop}
variable {pc q t : Nat} {L L' : ZL} {st rest as : List Value} {z : Nat} {E : ZE} {im : ZI} {idx d2 : Nat} {y : ZY}
theorem zz_virtI {ci k : Nat} {q2 : Int32 → ZI → Prop} (S : zz_S G l own cc nL d n0 mcT msT isI rt Qf w) {n : Nat} (hy : zz_YV y n) (hlk : Cond.methodLink own idx y.1 ∈ zz_t) (hci : ci < 8) (hcn : zz_cn ci = y.1.cls) (hO : zz_OI G l d2 y (.ref k :: as) E im q2) (hn : as.length = n) (hdd : d2 + 1 ≤ d) (hk : k < E.1) (hkd : E.2.1 k = (0, ci)) (hrs : (rest.map fun v => v.category).sum ≤ 8) (hst : as.reverse ++ .ref k :: rest = st) (hd : decode cc pc = .ok (.invokevirtual idx, 3)) (hq : pc + 3 = q)
    (kk : ∀ (r : Int32) (im' : ZI), q2 r im' → w q L (.int r :: rest) z E im') : w pc L st z E im :=
  zz_virt S (hn ▸ hy) hlk hci hcn hO hdd hk hkd (fun h => h) (fun h => h) hrs hst hd hq (fun v E' im' h1 h2 => by obtain ⟨r, rfl, rfl, h⟩ := h2; exact kk r im' h)
theorem zz_virtL {ci k : Nat} {q2 : Int64 → ZI → Prop} (S : zz_S G l own cc nL d n0 mcT msT isI rt Qf w) {n : Nat} (hy : zz_YV y n) (hlk : Cond.methodLink own idx y.1 ∈ zz_t) (hci : ci < 8) (hcn : zz_cn ci = y.1.cls) (hO : zz_OL G l d2 y (.ref k :: as) E im q2) (hn : as.length = n) (hdd : d2 + 1 ≤ d) (hk : k < E.1) (hkd : E.2.1 k = (0, ci)) (hrs : (rest.map fun v => v.category).sum ≤ 8) (hst : as.reverse ++ .ref k :: rest = st) (hd : decode cc pc = .ok (.invokevirtual idx, 3)) (hq : pc + 3 = q)
    (kk : ∀ (r : Int64) (im' : ZI), q2 r im' → w q L (.long r :: rest) z E im') : w pc L st z E im :=
  zz_virt S (hn ▸ hy) hlk hci hcn hO hdd hk hkd (fun h => h) (fun h => h) hrs hst hd hq (fun v E' im' h1 h2 => by obtain ⟨r, rfl, rfl, h⟩ := h2; exact kk r im' h)
theorem zz_virtV {ci k : Nat} {q2 : ZI → Prop} (S : zz_S G l own cc nL d n0 mcT msT isI rt Qf w) {n : Nat} (hy : zz_YV y n) (hlk : Cond.methodLink own idx y.1 ∈ zz_t) (hci : ci < 8) (hcn : zz_cn ci = y.1.cls) (hO : zz_OV G l d2 y (.ref k :: as) E im q2) (hn : as.length = n) (hdd : d2 + 1 ≤ d) (hk : k < E.1) (hkd : E.2.1 k = (0, ci)) (hrs : (rest.map fun v => v.category).sum ≤ 8) (hst : as.reverse ++ .ref k :: rest = st) (hd : decode cc pc = .ok (.invokevirtual idx, 3)) (hq : pc + 3 = q)
    (kk : ∀ (im' : ZI), q2 im' → w q L rest z E im') : w pc L st z E im :=
  zz_virt S (hn ▸ hy) hlk hci hcn hO hdd hk hkd (fun h => h) (fun h => h) hrs hst hd hq (fun v E' im' h1 h2 => by obtain ⟨rfl, rfl, h⟩ := h2; exact kk im' h)
theorem zz_virtP {ci k : Nat} {f : Int32} (S : zz_S G l own cc nL d n0 mcT msT isI rt Qf w) {n : Nat} (hy : zz_YV y n) (hlk : Cond.methodLink own idx y.1 ∈ zz_t) (hci : ci < 8) (hcn : zz_cn ci = y.1.cls) (hO : zz_OP G l d2 y (.ref k :: as) E im f) (hn : as.length = n) (hdd : d2 + 1 ≤ d) (hk : k < E.1) (hkd : E.2.1 k = (0, ci)) (hrs : (rest.map fun v => v.category).sum ≤ 8) (hst : as.reverse ++ .ref k :: rest = st) (hd : decode cc pc = .ok (.invokevirtual idx, 3)) (hq : pc + 3 = q)
    (kk : w q L (.int f :: rest) z E im) : w pc L st z E im :=
  zz_virtI S hy hlk hci hcn hO hn hdd hk hkd hrs hst hd hq (fun r im' h => by obtain ⟨rfl, rfl⟩ := h; exact kk)
theorem zz_virtPL {ci k : Nat} {f : Int64} (S : zz_S G l own cc nL d n0 mcT msT isI rt Qf w) {n : Nat} (hy : zz_YV y n) (hlk : Cond.methodLink own idx y.1 ∈ zz_t) (hci : ci < 8) (hcn : zz_cn ci = y.1.cls) (hO : zz_OPL G l d2 y (.ref k :: as) E im f) (hn : as.length = n) (hdd : d2 + 1 ≤ d) (hk : k < E.1) (hkd : E.2.1 k = (0, ci)) (hrs : (rest.map fun v => v.category).sum ≤ 8) (hst : as.reverse ++ .ref k :: rest = st) (hd : decode cc pc = .ok (.invokevirtual idx, 3)) (hq : pc + 3 = q)
    (kk : w q L (.long f :: rest) z E im) : w pc L st z E im :=
  zz_virtL S hy hlk hci hcn hO hn hdd hk hkd hrs hst hd hq (fun r im' h => by obtain ⟨rfl, rfl⟩ := h; exact kk)
theorem zz_statI {q2 : Int32 → ZI → Prop} (S : zz_S G l own cc nL d n0 mcT msT isI rt Qf w) {n : Nat} (hy : zz_YS y n) (hlk : Cond.methodLink own idx y.1 ∈ zz_t) (hO : zz_OI G l d2 y as E im q2) (hn : as.length = n) (hdd : d2 + 1 ≤ d) (hrs : (rest.map fun v => v.category).sum ≤ 8) (hst : as.reverse ++ rest = st) (hd : decode cc pc = .ok (.invokestatic idx, 3)) (hq : pc + 3 = q)
    (kk : ∀ (r : Int32) (im' : ZI), q2 r im' → w q L (.int r :: rest) z E im') : w pc L st z E im :=
  zz_stat S (hn ▸ hy) hlk hO hdd (fun h => h) (fun h => h) hrs hst hd hq (fun v E' im' h1 h2 => by obtain ⟨r, rfl, rfl, h⟩ := h2; exact kk r im' h)
theorem zz_statP {f : Int32} (S : zz_S G l own cc nL d n0 mcT msT isI rt Qf w) {n : Nat} (hy : zz_YS y n) (hlk : Cond.methodLink own idx y.1 ∈ zz_t) (hO : zz_OP G l d2 y as E im f) (hn : as.length = n) (hdd : d2 + 1 ≤ d) (hrs : (rest.map fun v => v.category).sum ≤ 8) (hst : as.reverse ++ rest = st) (hd : decode cc pc = .ok (.invokestatic idx, 3)) (hq : pc + 3 = q)
    (kk : w q L (.int f :: rest) z E im) : w pc L st z E im :=
  zz_statI S hy hlk hO hn hdd hrs hst hd hq (fun r im' h => by obtain ⟨rfl, rfl⟩ := h; exact kk)
theorem zz_statPL {f : Int64} (S : zz_S G l own cc nL d n0 mcT msT isI rt Qf w) {n : Nat} (hy : zz_YS y n) (hlk : Cond.methodLink own idx y.1 ∈ zz_t) (hO : zz_OPL G l d2 y as E im f) (hn : as.length = n) (hdd : d2 + 1 ≤ d) (hrs : (rest.map fun v => v.category).sum ≤ 8) (hst : as.reverse ++ rest = st) (hd : decode cc pc = .ok (.invokestatic idx, 3)) (hq : pc + 3 = q)
    (kk : w q L (.long f :: rest) z E im) : w pc L st z E im :=
  zz_stat S (hn ▸ hy) hlk hO hdd (fun h => h) (fun h => h) hrs hst hd hq (fun v E' im' h1 h2 => by obtain ⟨r, rfl, rfl, rfl, rfl⟩ := h2; exact kk)
theorem zz_statNP {host : String} {f : Int32} (S : zz_S G l own cc nL d n0 mcT msT isI rt Qf w) {n : Nat} (hy : zz_YS y n) (hlk : Cond.methodLinkNest own idx y.1 host ∈ zz_nw) (hO : zz_OP G l d2 y as E im f) (hn : as.length = n) (hdd : d2 + 1 ≤ d) (hrs : (rest.map fun v => v.category).sum ≤ 8) (hst : as.reverse ++ rest = st) (hd : decode cc pc = .ok (.invokestatic idx, 3)) (hq : pc + 3 = q)
    (kk : w q L (.int f :: rest) z E im) : w pc L st z E im :=
  zz_statN S (hn ▸ hy) hlk hO hdd (fun h => h) (fun h => h) hrs hst hd hq (fun v E' im' h1 h2 => by obtain ⟨r, rfl, rfl, rfl, rfl⟩ := h2; exact kk)
theorem zz_statNPL {host : String} {f : Int64} (S : zz_S G l own cc nL d n0 mcT msT isI rt Qf w) {n : Nat} (hy : zz_YS y n) (hlk : Cond.methodLinkNest own idx y.1 host ∈ zz_nw) (hO : zz_OPL G l d2 y as E im f) (hn : as.length = n) (hdd : d2 + 1 ≤ d) (hrs : (rest.map fun v => v.category).sum ≤ 8) (hst : as.reverse ++ rest = st) (hd : decode cc pc = .ok (.invokestatic idx, 3)) (hq : pc + 3 = q)
    (kk : w q L (.long f :: rest) z E im) : w pc L st z E im :=
  zz_statN S (hn ▸ hy) hlk hO hdd (fun h => h) (fun h => h) hrs hst hd hq (fun v E' im' h1 h2 => by obtain ⟨r, rfl, rfl, rfl, rfl⟩ := h2; exact kk)
end ZK
/-- a boolean answer -/
theorem zz_bit {r : Int32} (h : r = 0 ∨ r = 1) : narrow .boolean (.int r) = .int r := by
  rcases h with rfl | rfl <;> rfl
theorem zz_ite01 {c : Prop} [Decidable c] : (if c then (1 : Int32) else 0) = 0 ∨ (if c then (1 : Int32) else 0) = 1 := by
  by_cases h : c
  · right; rw [if_pos h]
  · left; rw [if_neg h]
/-! THE LAYOUT: what cell is what, once all is made -/
def zk_shop (c : Nat) : Nat × Nat := if c = 0 then (0, 4) else if c = 1 then (4, 6) else if c = 2 then (1, 12) else if c = 3 then (1, 4) else if c = 4 then (5, 10) else if c < 11 then (0, 6) else (0, 0)
def zk_state (c : Nat) : Nat × Nat := if c = 0 then (0, 5) else if c < 22 then zk_shop (c - 1) else if c = 22 then (6, 2) else if c = 23 then (2, 2) else if c < 45 then zk_shop (c - 24) else zk_shop (c - 45)
def zk_x (c : Nat) : Nat × Nat := if c = 0 then (0, 7) else if c < 67 then zk_state (c - 1) else if c = 67 then (0, 2) else if c = 68 then (7, 6) else if c < 465 then zk_state ((c - 69) % 66) else if c = 465 then (0, 3) else if c = 466 then (3, 140) else if c = 467 then (1, 3) else if c = 468 then (0, 1) else (1, 721)
def zo_shop (b c j : Nat) : Option Nat := if c = 0 then (if j < 4 then some (b + 1 + j) else none) else if c = 1 then (if j < 6 then some (b + 5 + j) else none) else if c = 4 then (if j < 10 then some (b + 11 + j) else none) else none
def zo_state (b c j : Nat) : Option Nat := if c = 0 then (if j = 0 then some (b + 1) else if j = 1 then some (b + 22) else if j = 2 then some (b + 23) else none) else if c < 22 then zo_shop (b + 1) (c - 1) j else if c = 22 then (if j < 2 then some (b + 24 + 21 * j) else none) else if c = 23 then none else if c < 45 then zo_shop (b + 24) (c - 24) j else zo_shop (b + 45) (c - 45) j
def zo_x (c j : Nat) : Option Nat := if c = 0 then (if j = 0 then some 1 else if j = 1 then some 67 else if j = 2 then some 465 else if j = 3 then some 468 else if j = 4 then some 2 else none) else if c < 67 then zo_state 1 (c - 1) j else if c = 67 then (if j = 0 then some 68 else none) else if c = 68 then (if j < 6 then some (69 + 66 * j) else none) else if c < 465 then zo_state (69 + 66 * ((c - 69) / 66)) ((c - 69) % 66) j else if c = 465 then (if j = 0 then some 466 else if j = 1 then some 467 else none) else if c = 468 then (if j = 0 then some 469 else none) else none
def zE : ZE := (470, zk_x, zo_x)
