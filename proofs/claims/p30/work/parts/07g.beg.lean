/-! THE LAW: from its entry to its loop -/
theorem zz_wE {G : ZG} {l : Launch} {own : String} {cc : ByteArray} {nL d n0 mcT msT : Nat} {isI : Bool} {rt : Option FieldType} {Qf : Option Value → ZE → ZI → Prop} {w : zL_w} {pc z : Nat} {Lc : ZL} {st : List Value} {E E2 : ZE} {im : ZI}
    (S : zz_S G l own cc nL d n0 mcT msT isI rt Qf w) (h1 : E.1 = E2.1) (h2 : ∀ k, k < E.1 → E.2.1 k = E2.2.1 k ∧ E.2.2 k = E2.2.2 k) (kk : w pc Lc st z E2 im) : w pc Lc st z E im := by
  obtain ⟨p, e, R, s, m, args, below, meth, c0, Q, hfix, hR, hI, hK, hsz, hret, rfl⟩ := S
  intro H locs ls g1 g2 g3 g4 g5 g6
  have hw : zz_w G E im = zz_w G E2 im := by
    unfold zz_w
    rw [← h1]
    exact List.map_congr_left fun k hk => by
      have hk' := List.mem_range.mp hk
      rw [(h2 k hk').1, (h2 k hk').2]
  have key := kk H locs ls ⟨by rw [← h1]; exact g1.1, by rw [← hw]; exact g1.2⟩ (by rw [← h1]; exact g2) (by rw [← h1]; exact g3) g4 g5 g6
  rw [← h1] at key
  exact key
theorem sI_0 : sI zS0 0 0 := ⟨rfl, by omega, rfl, by omega, by
  refine ⟨⟨by decide, by decide⟩, ⟨by decide, by decide⟩, ⟨by decide, by decide⟩, by decide, by decide⟩, fun m hm => by
  have e : zS0 (8 + m) = 0 := by
    unfold zS0
    rw [u_ne _ _ (by omega), u_ne _ _ (by omega), u_ne _ _ (by omega), u_ne _ _ (by omega)]
  rw [e]
  exact ⟨by decide, by decide⟩, fun w hw => absurd hw (by omega), fun c hc => absurd hc (by omega)⟩
theorem zS0_far {j : Nat} (h : 8 ≤ j) : zS0 j = 0 := by
  unfold zS0
  rw [u_ne _ _ (by omega), u_ne _ _ (by omega), u_ne _ _ (by omega), u_ne _ _ (by omega)]
def zE00 : ZE := (0, fun _ => (0, 0), fun _ _ => none)
section ZBEG
variable {G : ZG} {l : Launch} {L : Nat} {xs : Nat → Int32} {w : zL_w}
end ZBEG
