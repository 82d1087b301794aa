/-! TEXTS: length -/
section ZST2
variable {G : ZG} {l : Launch}
theorem cs_coder (i : Nat) (hi : i < 10) (E : ZE) (im : ZI) : zz_OP G l 0 mJ0_coder_7d493 [.ref (1010 + i)] E im 0 := by
  refine zz_intro (isI := false) (by decide) rfl (Nat.le_of_ble_eq_true rfl) (fun h => by cases h) (fun w S => ?_)
  refine zz_cmpS S dJ0_coder_7d493_0 (q := 3) rfl ?_
  refine zz_if_eq S dJ0_coder_7d493_3 (t := 13) (by decide) (q := 6) rfl (fun a1 => ?_) (fun a1 => ?_)
  -- then 13 else 6
  · exact absurd a1 (by decide)
  refine zz_aload_0 S dJ0_coder_7d493_6 (q := 7) rfl ?_
  refine zz_strC S hi dJ0_coder_7d493_7 (q := 10) rfl ?_
  refine zz_goto S dJ0_coder_7d493_10 (t := 14) (by decide) ?_
  -- at 14: ireturn 
  refine zz_bret S rfl dJ0_coder_7d493_14 ⟨rfl, _, rfl, rfl, ?_⟩
  exact ⟨rfl, rfl⟩
end ZST2
