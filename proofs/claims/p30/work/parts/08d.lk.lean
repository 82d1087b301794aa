/-! THE LAW: the class at one state, as the law speaks to it -/
theorem zz_O_mono {G : ZG} {l : Launch} {d : Nat} {y : ZY} {as : List Value} {E : ZE} {im : ZI} {mc ms : Nat} {Q Q' : Option Value → ZE → ZI → Prop} (h : zz_O G l d y as E im mc ms Q) (hQ : ∀ v E' im', Q v E' im' → Q' v E' im') : zz_O G l d y as E im mc ms Q' :=
  by
  unfold zz_O Met at h ⊢
  refine MetFree.mono h (fun _ _ h => h) (fun _ _ _ _ _ h => h) (fun a s o t _ hq => ?_)
  obtain ⟨⟨⟨v, E', im', h1, h2, h3, h4⟩, h5⟩, h6⟩ := hq
  exact ⟨⟨⟨v, E', im', h1, h2, h3, hQ v E' im' h4⟩, h5⟩, h6⟩
theorem zz_OI_mono {G : ZG} {l : Launch} {d : Nat} {y : ZY} {as : List Value} {E : ZE} {im : ZI} {q q' : Int32 → ZI → Prop} (h : zz_OI G l d y as E im q) (hq : ∀ r im', q r im' → q' r im') : zz_OI G l d y as E im q' :=
  zz_O_mono h (fun v E' im' hv => by obtain ⟨r, h1, h2, h3⟩ := hv; exact ⟨r, h1, h2, hq r im' h3⟩)
def zY (im : ZI) (s : ZSt) (n : Nat) (h : Nat → ZSt) (nw nc : Nat) : Prop := zX im s n h 0 (fun _ => 0) ∧ sI s nw nc ∧ rS im 2 s nw nc
theorem zY.keep {im im' : ZI} {s : ZSt} {n nw nc : Nat} {h : Nat → ZSt} (hY : zY im s n h nw nc) (hk : zz_keep [468, 469] im im') : zY im' s n h nw nc :=
  ⟨hY.1.lo (fun k _ a b => hk k (by simp [a, b])), hY.2.1, hY.2.2.keep hY.2.1.2.1 hY.2.1.2.2.2.1 (fun k a b => hk k (by simp; omega))⟩
theorem zY_of {im : ZI} {s : ZSt} {n : Nat} {h : Nat → ZSt} (hX : zX im s n h 0 (fun _ => 0)) : ∃ nw nc, zY im s n h nw nc := by
  obtain ⟨nw, nc, hI, hr⟩ := hX.1.1
  exact ⟨nw, nc, hX, hI, hr⟩
def zAQ (im' : ZI) (r : Int32) (o : ZQ) : Prop := r = o.1 ∧ zX im' o.2.1 o.2.2.1 o.2.2.2 0 (fun _ => 0)
/-- a call that looks -/
def zLQ (im' : ZI) (s : ZSt) (n : Nat) (h : Nat → ZSt) (nw nc : Nat) (r f : Int32) : Prop := r = f ∧ zY im' s n h nw nc
section ZLKS
variable {G : ZG} {l : Launch} {im : ZI} {s : ZSt} {n nw nc : Nat} {h : Nat → ZSt}
theorem lk_count (x : Int32) (hY : zY im s n h nw nc) : zz_OI G l 3 mX7_count [.ref 0, .int x] zE im (fun r im' => zLQ im' s n h nw nc r (ol_count s n 0 nw nc x)) := by
  obtain ⟨hT, ⟨f, hR⟩, hP⟩ := id hY.1
  exact zz_OI_mono (cx_count x n 0 nw nc s im hY.2.1 hY.2.2 hR.2.2.2.1 hP.1 (hT.2 0 (by decide)).1 (hT.2 1 (by decide)).1 ((hT.2 0 (by decide)).2.imp id And.left) ((hT.2 1 (by decide)).2.imp id And.left)) (fun r im' hq => ⟨hq.1, hY.keep hq.2⟩)
theorem lk_wall (x v : Int32) (hY : zY im s n h nw nc) : zz_OI G l 3 mX7_wall [.ref 0, .int x, .int v] zE im (fun r im' => zLQ im' s n h nw nc r (ol_wall s nc x v)) := by
  obtain ⟨hT, ⟨f, hR⟩, hP⟩ := id hY.1
  exact zz_OI_mono (cx_wall x v nw nc s im hY.2.1 hY.2.2) (fun r im' hq => ⟨hq.1, hY.keep hq.2⟩)
theorem lk_commission (x v : Int32) (hY : zY im s n h nw nc) : zz_OI G l 4 mX7_commission [.ref 0, .int x, .int v] zE im (fun r im' => zLQ im' s n h nw nc r (ol_comm s x v)) := by
  obtain ⟨hT, ⟨f, hR⟩, hP⟩ := id hY.1
  exact zz_OI_mono (cx_commission x v nw nc s im hY.2.1 hY.2.2) (fun r im' hq => ⟨hq.1, hY.keep hq.2⟩)
theorem lk_correction (x : Int32) (hY : zY im s n h nw nc) : zz_OI G l 1 mX7_correction [.ref 0, .int x] zE im (fun r im' => zLQ im' s n h nw nc r (ol_corr s x)) := by
  obtain ⟨hT, ⟨f, hR⟩, hP⟩ := id hY.1
  exact zz_OI_mono (cx_correction x nw nc s im hY.2.2) (fun r im' hq => ⟨hq.1, hY.keep hq.2⟩)
theorem lk_sine (x : Int32) (hY : zY im s n h nw nc) : zz_OI G l 2 mX7_sine [.ref 0, .int x] zE im (fun r im' => zLQ im' s n h nw nc r (ol_sine x)) := by
  obtain ⟨hT, ⟨f, hR⟩, hP⟩ := id hY.1
  exact zz_OI_mono (cx_sine x im) (fun r im' hq => ⟨hq.1, hY.keep hq.2⟩)
theorem lk_offset (x t : Int32) (hY : zY im s n h nw nc) : zz_OI G l 5 mX7_offset [.ref 0, .int x, .int t] zE im (fun r im' => zLQ im' s n h nw nc r (ol_off s x t)) := by
  obtain ⟨hT, ⟨f, hR⟩, hP⟩ := id hY.1
  exact zz_OI_mono (cx_offset x t nw nc s im hY.2.1 hY.2.2) (fun r im' hq => ⟨hq.1, hY.keep hq.2⟩)
theorem lk_lines (x v : Int32) (hY : zY im s n h nw nc) : zz_OI G l 5 mX7_lines [.ref 0, .int x, .int v] zE im (fun r im' => zLQ im' s n h nw nc r (ol_lines s x v)) := by
  obtain ⟨hT, ⟨f, hR⟩, hP⟩ := id hY.1
  exact zz_OI_mono (cx_lines x v nw nc s im hY.2.1 hY.2.2) (fun r im' hq => ⟨hq.1, hY.keep hq.2⟩)
theorem lk_read (x o b mo : Int32) (hY : zY im s n h nw nc) : zz_OI G l 5 mX7_read [.ref 0, .int x, .int o, .int b, .int mo] zE im (fun r im' => zLQ im' s n h nw nc r (ol_read s x o b mo)) := by
  obtain ⟨hT, ⟨f, hR⟩, hP⟩ := id hY.1
  exact zz_OI_mono (cx_read x o b mo nw nc s im hY.2.1 hY.2.2) (fun r im' hq => ⟨hq.1, hY.keep hq.2⟩)
theorem lk_apart (x v : Int32) (hY : zY im s n h nw nc) : zz_OI G l 5 mX7_apart [.ref 0, .int x, .int v] zE im (fun r im' => zLQ im' s n h nw nc r (ol_apart s x v)) := by
  obtain ⟨hT, ⟨f, hR⟩, hP⟩ := id hY.1
  exact zz_OI_mono (cx_apart x v nw nc s im hY.2.1 hY.2.2) (fun r im' hq => ⟨hq.1, hY.keep hq.2⟩)
theorem lk_reason (x : Int32) (hY : zY im s n h nw nc) : zz_OI G l 6 mX7_reason [.ref 0, .int x] zE im (fun r im' => zLQ im' s n h nw nc r (ol_reason s x)) := by
  obtain ⟨hT, ⟨f, hR⟩, hP⟩ := id hY.1
  exact zz_OI_mono (cx_reason x nw nc s im hY.2.1 hY.2.2) (fun r im' hq => ⟨hq.1, hY.keep hq.2⟩)
theorem lk_bestLatitude (x : Int32) (hY : zY im s n h nw nc) : zz_OI G l 4 mX7_bestLatitude [.ref 0, .int x] zE im (fun r im' => zLQ im' s n h nw nc r (ol_best x)) := by
  obtain ⟨hT, ⟨f, hR⟩, hP⟩ := id hY.1
  exact zz_OI_mono (cx_best x im) (fun r im' hq => ⟨hq.1, hY.keep hq.2⟩)
theorem lk_melts (hY : zY im s n h nw nc) : zz_OI G l 4 mX7_melts [.ref 0] zE im (fun r im' => zLQ im' s n h nw nc r (ol_melts s nc)) := by
  obtain ⟨hT, ⟨f, hR⟩, hP⟩ := id hY.1
  exact zz_OI_mono (cx_melts nw nc s im hY.2.1 hY.2.2) (fun r im' hq => ⟨hq.1, hY.keep hq.2⟩)
theorem la_setCorrection (x v : Int32) (hY : zY im s n h nw nc) : zz_OI G l 4 mX7_setCorrection [.ref 0, .int x, .int v] zE im (fun r im' => zAQ im' r (ox_corr s n h x v)) := by
  obtain ⟨hT, ⟨f, hR⟩, hP⟩ := id hY.1
  exact zz_OI_mono (cx_psetCorrection x v f n 0 nw nc h s (fun _ => 0) im hT hR hP hY.2.1 hY.2.2) (fun r im' hq => ⟨hq.1, hq.2.1⟩)
theorem la_set (x v : Int32) (hY : zY im s n h nw nc) : zz_OI G l 4 mX7_set [.ref 0, .int x, .int v] zE im (fun r im' => zAQ im' r (ox_set s n h x v)) := by
  obtain ⟨hT, ⟨f, hR⟩, hP⟩ := id hY.1
  exact zz_OI_mono (cx_pset x v f n 0 nw nc h s (fun _ => 0) im hT hR hP hY.2.1 hY.2.2) (fun r im' hq => ⟨hq.1, hq.2.1⟩)
theorem la_addWall (hY : zY im s n h nw nc) : zz_OI G l 4 mX7_addWall [.ref 0] zE im (fun r im' => zAQ im' r (ox_wall s n h nw)) := by
  obtain ⟨hT, ⟨f, hR⟩, hP⟩ := id hY.1
  exact zz_OI_mono (cx_paddWall  f n 0 nw nc h s (fun _ => 0) im hT hR hP hY.2.1 hY.2.2) (fun r im' hq => ⟨hq.1, hq.2.1⟩)
theorem la_measure (x v : Int32) (hY : zY im s n h nw nc) : zz_OI G l 4 mX7_measure [.ref 0, .int x, .int v] zE im (fun r im' => zAQ im' r (ox_meas s n h x v)) := by
  obtain ⟨hT, ⟨f, hR⟩, hP⟩ := id hY.1
  exact zz_OI_mono (cx_pmeasure x v f n 0 nw nc h s (fun _ => 0) im hT hR hP hY.2.1 hY.2.2) (fun r im' hq => ⟨hq.1, hq.2.1⟩)
theorem la_ask (la x sz lo : Int32) (hY : zY im s n h nw nc) : zz_OI G l 4 mX7_ask [.ref 0, .int la, .int x, .int sz, .int lo] zE im (fun r im' => zAQ im' r (ox_ask s n h nc la x sz lo)) := by
  obtain ⟨hT, ⟨f, hR⟩, hP⟩ := id hY.1
  exact zz_OI_mono (cx_pask la x sz lo f n 0 nw nc h s (fun _ => 0) im hT hR hP hY.2.1 hY.2.2) (fun r im' hq => ⟨hq.1, hq.2.1⟩)
theorem la_decide (x : Int32) (hY : zY im s n h nw nc) : zz_OI G l 6 mX7_decide [.ref 0, .int x] zE im (fun r im' => zAQ im' r (ox_dec s n h x)) := by
  obtain ⟨hT, ⟨f, hR⟩, hP⟩ := id hY.1
  exact zz_OI_mono (cx_pdecide x f n 0 nw nc h s (fun _ => 0) im hT hR hP hY.2.1 hY.2.2) (fun r im' hq => ⟨hq.1, hq.2.1⟩)
theorem la_askAgain (x : Int32) (hY : zY im s n h nw nc) : zz_OI G l 6 mX7_askAgain [.ref 0, .int x] zE im (fun r im' => zAQ im' r (ox_again s n h x)) := by
  obtain ⟨hT, ⟨f, hR⟩, hP⟩ := id hY.1
  exact zz_OI_mono (cx_paskAgain x f n 0 nw nc h s (fun _ => 0) im hT hR hP hY.2.1 hY.2.2) (fun r im' hq => ⟨hq.1, hq.2.1⟩)
theorem la_cast (hY : zY im s n h nw nc) : zz_OI G l 4 mX7_cast [.ref 0] zE im (fun r im' => zAQ im' r (ox_cas s n h nc)) := by
  obtain ⟨hT, ⟨f, hR⟩, hP⟩ := id hY.1
  exact zz_OI_mono (cx_pcast  f n 0 nw nc h s (fun _ => 0) im hT hR hP hY.2.1 hY.2.2) (fun r im' hq => ⟨hq.1, hq.2.1⟩)
theorem la_deliver (x : Int32) (hY : zY im s n h nw nc) : zz_OI G l 4 mX7_deliver [.ref 0, .int x] zE im (fun r im' => zAQ im' r (ox_del s n h nc x)) := by
  obtain ⟨hT, ⟨f, hR⟩, hP⟩ := id hY.1
  exact zz_OI_mono (cx_pdeliver x f n 0 nw nc h s (fun _ => 0) im hT hR hP hY.2.1 hY.2.2) (fun r im' hq => ⟨hq.1, hq.2.1⟩)
theorem la_take (x : Int32) (hY : zY im s n h nw nc) : zz_OI G l 4 mX7_take [.ref 0, .int x] zE im (fun r im' => zAQ im' r (ox_take s n h x)) := by
  obtain ⟨hT, ⟨f, hR⟩, hP⟩ := id hY.1
  exact zz_OI_mono (cx_ptake x f n 0 nw nc h s (fun _ => 0) im hT hR hP hY.2.1 hY.2.2) (fun r im' hq => ⟨hq.1, hq.2.1⟩)
theorem la_undo (hY : zY im s n h nw nc) : zz_OI G l 5 mX7_undo [.ref 0] zE im (fun r im' => zAQ im' r (ox_undo s n h)) := by
  obtain ⟨hT, ⟨f, hR⟩, hP⟩ := id hY.1
  exact zz_OI_mono (cx_pundo  f n 0 h s (fun _ => 0) im hT hR hP) (fun r im' hq => ⟨hq.1, hq.2.1⟩)
end ZLKS
/-! counts, by what is asked -/
section ZOC
variable {s : ZSt} {n nw nc : Nat}
theorem oc_0 : ol_count s n 0 nw nc 0 = s 0 := by simp [ol_count]
theorem oc_2 : ol_count s n 0 nw nc 2 = s 1 := by simp [ol_count]
theorem oc_8 : ol_count s n 0 nw nc 8 = s 2 := by simp [ol_count]
theorem oc_9 : ol_count s n 0 nw nc 9 = s 3 := by simp [ol_count]
theorem oc_3 : ol_count s n 0 nw nc 3 = op_in s nc 0 := by
  unfold ol_count
  rw [if_pos (by decide)]
  rfl
theorem oc_4 : ol_count s n 0 nw nc 4 = op_in s nc 1 := by
  unfold ol_count
  rw [if_pos (by decide)]
  rfl
theorem oc_5 : ol_count s n 0 nw nc 5 = op_in s nc 2 := by
  unfold ol_count
  rw [if_pos (by decide)]
  rfl
theorem oc_6 : ol_count s n 0 nw nc 6 = op_in s nc 3 := by
  unfold ol_count
  rw [if_pos (by decide)]
  rfl
theorem oc_7 : ol_count s n 0 nw nc 7 = op_in s nc 4 := by
  unfold ol_count
  rw [if_pos (by decide)]
  rfl
theorem oc_n {x : Int32} (hx : x ≠ 11) : ol_count s n 0 nw nc x = ol_count s 0 0 nw nc x := by
  unfold ol_count
  simp only [if_neg hx]
end ZOC
