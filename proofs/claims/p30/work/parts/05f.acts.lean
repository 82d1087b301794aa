/-! THE REFERENCE: actions -/
def sh_n (n : Nat) : Nat := if n = 5 then 5 else n + 1
def sh_p (n : Nat) (h : Nat → ZSt) (s : ZSt) : Nat → ZSt := fun i => if n = 5 then (if i = 4 then s else h (i + 1)) else if i = n then s else h i
section ZACT
variable {G : ZG} {l : Launch}
end ZACT
