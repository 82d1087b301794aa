/-! THE CLASS: tokens -/
def kd (c : Int32) : Int32 := if c ≥ 97 ∧ c ≤ 122 then 1 else if c ≥ 48 ∧ c ≤ 57 then 2 else 0
section ZADV
variable {G : ZG} {l : Launch}
end ZADV
