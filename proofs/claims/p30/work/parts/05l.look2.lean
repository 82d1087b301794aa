/-! THE REFERENCE: looking -/
def op_knG (s : ZSt) : Nat → Nat → Int32 → Int32
  | 0, _, m => m
  | n + 1, k, m => op_knG s n (k + 1) (m + (if sp_wd s k = -100009 then 0 else 1))
def op_foG (s : ZSt) (x : Int32) : Nat → Nat → Int32 → Int32
  | 0, _, m => m
  | n + 1, c, m => op_foG s x n (c + 1) (m + (if s (38 + 8 * c + 1) = x then 1 else 0))
def zs_flG (c : Nat → Int32) : Nat → Nat → Int32 → Int32 → Int32 × Int32
  | 0, _, f, t => (f, t)
  | n + 1, k, f, t => zs_flG c n (k + 1) (if c (60 * k) ≠ -100009 ∧ f = -100009 then zs_t (60 * k) else f) (if c (60 * k) ≠ -100009 then zs_t (60 * k) else t)
def zs_fl (c : Nat → Int32) : Int32 × Int32 := zs_flG c 13 0 (-100009) (-100009)
def zs_beG (v dec : Int32) : Nat → Nat → Int32 → Int32 → Int32
  | 0, _, b, _ => b
  | n + 1, k, b, e => if b = -100009 ∨ (zs_ap (zs_dial (4 * nI k) v (4 * dec))).1 < e then zs_beG v dec n (k + 1) (nI k) (zs_ap (zs_dial (4 * nI k) v (4 * dec))).1 else zs_beG v dec n (k + 1) b e
def zs_best (v dec : Int32) : Int32 := zs_beG v dec 61 10 (-100009) 0
def ol_count (s : ZSt) (n len nw nc : Nat) (x : Int32) : Int32 :=
  if x ≥ 3 ∧ x ≤ 7 then op_in s nc (x - 3) else if x ≥ 13 ∧ x ≤ 16 then s (4 + (x - 13).toNatClampNeg)
  else if x = 0 then s 0 else if x = 1 then op_knG s nw 0 0 else if x = 2 then s 1 else if x = 8 then s 2 else if x = 9 then s 3 else if x = 10 then s 118 + s 237 else if x = 11 then nI n else if x = 12 then nI len else -100001
def ol_wall (s : ZSt) (nc : Nat) (x v : Int32) : Int32 := if (x ≥ 0 ∧ x ≤ s 0 - 1) ∧ v ≥ 0 ∧ v ≤ 3 then (if v ≥ 2 then (if v ≠ 2 then op_foG s x nc 0 0 else sp_wd s x.toNatClampNeg) else s (20 + 3 * x.toNatClampNeg + 1 + v.toNatClampNeg)) else -100001
def ol_comm (s : ZSt) (x v : Int32) : Int32 := if (x ≥ 0 ∧ x ≤ s 1 - 1) ∧ v ≥ 0 ∧ v ≤ 8 then (if v = 5 then sp_de s x.toNatClampNeg else if v = 6 then sp_wt s x.toNatClampNeg else if v = 7 then s (38 + 8 * x.toNatClampNeg + 6) else if v = 8 then s (38 + 8 * x.toNatClampNeg + 7) else s (38 + 8 * x.toNatClampNeg + v.toNatClampNeg)) else -100001
def ol_corr (s : ZSt) (x : Int32) : Int32 := if x ≥ 0 ∧ x ≤ 11 then s (8 + x.toNatClampNeg) else -100001
def ol_sine (x : Int32) : Int32 := if x ≥ -720 ∧ x ≤ 720 then (zs_sine x).toInt32 else -100001
def ol_off (s : ZSt) (x t : Int32) : Int32 := if (x ≥ 0 ∧ x ≤ s 1 - 1) ∧ t ≥ -360 ∧ t ≤ 360 then (if sp_de s x.toNatClampNeg = -100009 then -100002 else sp_dial s x.toNatClampNeg (t + 360).toNatClampNeg) else -100001
def ol_lines (s : ZSt) (x v : Int32) : Int32 := if (x ≥ 0 ∧ x ≤ s 1 - 1) ∧ v ≥ 0 ∧ v ≤ 2 then (if sp_de s x.toNatClampNeg = -100009 then -100002 else if v ≠ 0 then (if v ≠ 1 then (zs_fl (sp_dial s x.toNatClampNeg)).2 else (zs_fl (sp_dial s x.toNatClampNeg)).1) else zs_hl (sp_dial s x.toNatClampNeg)) else -100001
def ol_reading (s : ZSt) (x o b : Int32) : Int32 := if b ≠ 0 then zs_sh (sp_dial s x.toNatClampNeg) o else zs_byL (sp_dial s x.toNatClampNeg) o
def ol_read (s : ZSt) (x o b mo : Int32) : Int32 := if (x ≥ 0 ∧ x ≤ s 1 - 1) ∧ (o ≥ -3000 ∧ o ≤ 3000) ∧ (b ≥ 0 ∧ b ≤ 1) ∧ mo ≥ -1 ∧ mo ≤ 11 then (if sp_de s x.toNatClampNeg = -100009 then -100002 else if ol_reading s x o b = -100009 ∨ mo = -1 then ol_reading s x o b else ol_reading s x o b + s (8 + mo.toNatClampNeg) + s (38 + 8 * x.toNatClampNeg + 3)) else -100001
def ol_apart (s : ZSt) (x v : Int32) : Int32 := if (x ≥ 0 ∧ x ≤ s 1 - 1) ∧ v ≥ 0 ∧ v ≤ 1 then (if sp_de s x.toNatClampNeg = -100009 then -100002 else if v = 0 then (zs_ap (sp_dial s x.toNatClampNeg)).1 else (zs_ap (sp_dial s x.toNatClampNeg)).2) else -100001
def ol_reason (s : ZSt) (x : Int32) : Int32 := if x ≥ 0 ∧ x ≤ s 1 - 1 then sp_re s x.toNatClampNeg else -100001
def ol_best (x : Int32) : Int32 := if x = 100 then zs_best 0 0 else if x ≥ -60 ∧ x ≤ 60 then zs_best 1 x else -100001
section ZLK2
variable {G : ZG} {l : Launch}
end ZLK2
