/-! THE REFERENCE: snapshots, undo, text -/
def op_take (s : ZSt) (b : Nat) : ZSt := fun j => if j = 118 + 119 * b then 1 else if 119 + 119 * b ≤ j ∧ j < 119 + 119 * b + 118 then s (j - (119 + 119 * b)) else s j
def ox_take (s : ZSt) (n : Nat) (h : Nat → ZSt) (x : Int32) : ZQ := if x ≥ 0 ∧ x ≤ 1 then (s 1, op_take s x.toNatClampNeg, sh_n n, sh_p n h s) else (-100001, s, n, h)
def ox_undo (s : ZSt) (n : Nat) (h : Nat → ZSt) : ZQ := if n = 0 then (-100002, s, n, h) else (nI (n - 1), fun j => if j < 356 then h (n - 1) j else s j, n - 1, h)
section ZPUB2
variable {G : ZG} {l : Launch}
end ZPUB2
