/-! THE REFERENCE: what an action asks first, and what it does -/
def op_cWall (s : ZSt) : Int32 := if s 0 = 6 then -100003 else 0
def op_wall (s : ZSt) (n : Nat) : ZSt := upd (upd (upd (upd s (20 + 3 * n) 0) (20 + 3 * n + 1) (-100009)) (20 + 3 * n + 2) (-100009)) 0 (nI n + 1)
def op_cMeas (s : ZSt) (x v : Int32) : Int32 := if (x ≥ 0 ∧ x ≤ s 0 - 1) ∧ v ≥ -60 ∧ v ≤ 60 then 0 else -100001
def op_meas (s : ZSt) (k : Nat) (v : Int32) : ZSt := upd (upd (upd s (20 + 3 * k) (if s (20 + 3 * k) = 2 then 2 else s (20 + 3 * k) + 1)) (20 + 3 * k + 2) (s (20 + 3 * k + 1))) (20 + 3 * k + 1) v
def op_rMeas (s : ZSt) (k : Nat) (v : Int32) : Int32 := if sp_wd (op_meas s k v) k = -100009 then 0 else 1
def op_cAsk (s : ZSt) (la x sz lo : Int32) : Int32 := if (la ≥ 10 ∧ la ≤ 70) ∧ (x = -1 ∨ x ≥ 0 ∧ x ≤ s 0 - 1) ∧ (sz ≥ 10 ∧ sz ≤ 60) ∧ lo ≥ -60 ∧ lo ≤ 60 then (if s 1 = 10 then -100003 else 0) else -100001
def op_ask (s : ZSt) (c : Nat) (la x sz lo : Int32) : ZSt := upd (upd (upd (upd (upd (upd (upd (upd (upd s 1 (nI c + 1)) (38 + 8 * c + 0) la) (38 + 8 * c + 1) x) (38 + 8 * c + 2) sz) (38 + 8 * c + 3) lo) (38 + 8 * c + 4) 0) (38 + 8 * c + 5) 0) (38 + 8 * c + 6) (-100009)) (38 + 8 * c + 7) 0
def op_cSt (s : ZSt) (x st : Int32) : Int32 := if x ≥ 0 ∧ x ≤ s 1 - 1 then (if s (38 + 8 * x.toNatClampNeg + 4) = st then 0 else -100002) else -100001
def op_dec (s : ZSt) (c : Nat) : ZSt := if sp_re s c = 0 then upd (upd s (38 + 8 * c + 5) (sp_de s c)) (38 + 8 * c + 4) 1 else upd (upd s (38 + 8 * c + 7) (sp_re s c)) (38 + 8 * c + 4) 4
def op_again (s : ZSt) (c : Nat) : ZSt := upd s (38 + 8 * c + 4) 0
/-- the number of commissions in a state -/
def op_inG (s : ZSt) (st : Int32) : Nat → Nat → Int32 → Int32
  | 0, _, m => m
  | n + 1, c, m => op_inG s st n (c + 1) (m + (if s (38 + 8 * c + 4) = st then 1 else 0))
def op_in (s : ZSt) (nc : Nat) (st : Int32) : Int32 := op_inG s st nc 0 0
def op_del (s : ZSt) (c : Nat) : ZSt := upd s (38 + 8 * c + 4) 3
theorem zs_ne0 {p : Prop} [Decidable p] (h : (if p then (1 : Int32) else 0) ≠ 0) : p := Classical.not_not.mp (fun q => h (zs_b1.mpr q))
section ZOPS
variable {G : ZG} {l : Launch}
end ZOPS
