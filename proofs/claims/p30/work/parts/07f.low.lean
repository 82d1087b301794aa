/-! THE LAW: class and reference side by side -/
theorem zX.lo {im im' : ZI} {s : ZSt} {n len : Nat} {h : Nat → ZSt} {tx : Nat → Int32} (hX : zX im s n h len tx) (hk : ∀ k, k < 470 → k ≠ 468 → k ≠ 469 → im' k = im k) : zX im' s n h len tx := by
  obtain ⟨hT, ⟨f, hf, h1, hn, h2, h3⟩, p1, p2, p3, p4⟩ := hX
  refine ⟨hT.keep (fun k a b => hk k (by omega) (by omega) (by omega)), ⟨f, hf, by rw [hk 67 (by omega) (by omega) (by omega)]; exact h1, hn, by rw [hk 67 (by omega) (by omega) (by omega)]; exact h2, fun i hi => ?_⟩, by rw [hk 465 (by omega) (by omega) (by omega)]; exact p1, p2, fun j hj => by rw [hk 466 (by omega) (by omega) (by omega)]; exact p3 j hj, p4⟩
  have := zr_ne hf hn hi
  exact (h3 i hi).keep (fun k a b => hk k (by omega) (by omega) (by omega))
abbrev zL_w : Type := Nat → ZL → List Value → Nat → ZE → ZI → Prop
section ZLAW
variable {G : ZG} {l : Launch} {L : Nat} {xs : Nat → Int32} {w : zL_w} {pc q : Nat} {Lc : ZL} {st : List Value} {z : Nat} {E : ZE} {im : ZI}
end ZLAW
