/-! THE REFERENCE: what it reckons with numbers alone -/
def zs_size (v : Int32) : Int32 := if v ≥ 0 then v else -v
/-- a quotient rounded, as the reference has it -/
def zs_rd (a b : Int64) : Int64 := if 0 ≤ a + a + b then (a + a + b) / (b + b) else if (a + a + b) / (b + b) * (b + b) = a + a + b then (a + a + b) / (b + b) else (a + a + b) / (b + b) - 1
def zs_abs (q : Int32) : Int32 := if q ≥ 0 then q else -q
def zs_prod (q : Int32) : Int64 := (zs_abs q).toInt64 * (720 - zs_abs q).toInt64
def zs_sine (q : Int32) : Int64 := if q ≥ 0 then zs_rd (40000 * zs_prod q) (648000 - zs_prod q) else -(zs_rd (40000 * zs_prod q) (648000 - zs_prod q))
/-- the reference's sine can be reckoned -/
def zs_ok (q : Int32) : Prop := ¬ (648000 - zs_prod q) + (648000 - zs_prod q) = 0
/-- side and front of the shadow -/
def zs_side (f v m : Int32) : Int64 := if v = 0 then zs_sine f * zs_sine m else 10000 * zs_sine (360 + f) * zs_sine m
def zs_front (f v d m : Int32) : Int64 := if v = 0 then 10000 * zs_sine (360 + m) else 10000 * zs_sine (360 + d) * zs_sine (360 + m) + zs_sine d * zs_sine f * zs_sine m
