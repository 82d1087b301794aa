/-! THE CLASS: run -/
theorem zHi.tr {im0 im1 im2 : ZI} (h : zHi im0 im1) (h2 : zHi im1 im2) : zHi im0 im2 := fun k hk => (h2 k hk).trans (h k hk)
section ZCRN
variable {G : ZG} {l : Launch}
end ZCRN
