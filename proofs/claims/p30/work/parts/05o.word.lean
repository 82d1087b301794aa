/-! THE REFERENCE: words -/
/-- a text's characters -/
def tc (tx : Nat → Int32) (len : Nat) : Prop := ∀ j, j < len → sB 1 255 (tx j)
section ZWRD
variable {G : ZG} {l : Launch}
end ZWRD
