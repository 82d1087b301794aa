/-! THE CLASS: words of the text -/
theorem isW_0 {tx : Nat → Int32} {T : ZTok} {w len : Nat} (hw : w < 7) (hT : T.2.1 ≤ len) (h : isW tx T w) : T.1 < T.2.1 ∧ kd (tx T.1) = 1 ∧ 1 < T.2.1 - T.1 := by
  have hk : ∀ w, w < 7 → 1 < (wl w).length ∧ kd (wt w 0) = 1 := by decide
  obtain ⟨h1, h2⟩ := h
  obtain ⟨k1, k2⟩ := hk w hw
  have h3 := h2 0 (by omega)
  rw [Nat.add_zero] at h3
  exact ⟨by omega, by rw [h3]; exact k2, by omega⟩
/-- a word is made of letters -/
theorem isW_1 {tx : Nat → Int32} {len p w : Nat} (hp : p ≤ len) (hw : w < 7) (h : isW tx (tk tx len p) w) : (tk tx len p).2.2 = 1 := by
  obtain ⟨k1, k2, k3, k0⟩ := tk_kind (tx := tx) hp
  have hi := tk_in tx hp
  obtain ⟨w1, w2, w3⟩ := isW_0 hw hi.2.2.1 h
  rcases (show (tk tx len p).2.2 = 0 ∨ (tk tx len p).2.2 = 1 ∨ (tk tx len p).2.2 = 2 ∨ (tk tx len p).2.2 = 3 by omega) with e | e | e | e
  · have := k0 e
    omega
  · exact e
  · rw [(k2 e).2 _ (Nat.le_refl _) w1] at w2
    exact absurd w2 (by decide)
  · have := (k3 e).1
    omega
theorem rk_wG_no {tx : Nat → Int32} {T : ZTok} : ∀ n w, (∀ v, w ≤ v → v < w + n → ¬ isW tx T v) → rk_wG tx T n w = w + n := by
  intro n
  induction n with
  | zero => intro w _; rfl
  | succ n ih =>
    intro w h
    rw [rk_wG, if_neg (h w (Nat.le_refl _) (by omega)), ih (w + 1) (fun v a b => h v (by omega) (by omega))]
    omega
theorem rk_word_G {tx : Nat → Int32} {len p : Nat} (hp : p ≤ len) : rk_word tx (tk tx len p) = rk_wG tx (tk tx len p) 7 0 := by
  unfold rk_word
  by_cases h : (tk tx len p).2.2 = 1
  · rw [if_pos h]
  · rw [if_neg h, rk_wG_no 7 0 (fun v _ hv e => h (isW_1 hp (by omega) e))]
/-- a token of one sign -/
theorem isW_sign {tx : Nat → Int32} {len p w : Nat} {c : Int32} (hp : p ≤ len) (hw : (wl w).length = 1) (hc : wt w 0 = c) (hk : kd c = 0) : isW tx (tk tx len p) w ↔ (tk tx len p).2.2 = 3 ∧ ta tx len (tk tx len p).1 = c := by
  obtain ⟨k1, k2, k3, k0⟩ := tk_kind (tx := tx) hp
  have hi := tk_in tx hp
  constructor
  · rintro ⟨h1, h2⟩
    rw [hw] at h1 h2
    have h3 := h2 0 (by omega)
    rw [Nat.add_zero, hc] at h3
    rcases (show (tk tx len p).2.2 = 0 ∨ (tk tx len p).2.2 = 1 ∨ (tk tx len p).2.2 = 2 ∨ (tk tx len p).2.2 = 3 by omega) with e | e | e | e
    · have := k0 e
      omega
    · have := (k1 e).2 _ (Nat.le_refl _) (by omega)
      rw [h3, hk] at this
      exact absurd this (by decide)
    · have := (k2 e).2 _ (Nat.le_refl _) (by omega)
      rw [h3, hk] at this
      exact absurd this (by decide)
    · exact ⟨e, by rw [ta_in (by omega)]; exact h3⟩
  · rintro ⟨e, h3⟩
    have h1 := (k3 e).1
    rw [ta_in (by omega)] at h3
    refine ⟨by omega, fun k hk2 => ?_⟩
    rw [hw] at hk2
    have hk0 : k = 0 := by omega
    rw [hk0, Nat.add_zero, hc]
    exact h3
section ZCPS
variable {G : ZG} {l : Launch}
theorem cx_wordOf (v : Nat) (hv : v < 7) (E : ZE) (im : ZI) : zz_OR G l 0 mX3_wordOf [.int (nI v)] E im (1010 + v) := by
  refine zz_intro (isI := false) (by decide) rfl (Nat.le_of_ble_eq_true rfl) (fun h => by cases h) (fun w S => ?_)
  refine zz_iload_0 S dX3_wordOf_0 (q := 1) rfl ?_
  -- at 1: tableswitch 64 0 6 #[43, 46, 49, 52, 55, 58, 61]
  rcases rk_7 hv with rfl | rfl | rfl | rfl | rfl | rfl | rfl
  · refine zz_tabIn S dX3_wordOf_1 (by decide) (by decide) (off := 43) (by decide) (t := 44) (by decide) ?_
    refine zz_strK (i := 0) S (by decide) dX3_wordOf_44 (q := 46) rfl ?_
    exact zz_aret S rfl dX3_wordOf_46 ⟨rfl, rfl, rfl, rfl⟩
  · refine zz_tabIn S dX3_wordOf_1 (by decide) (by decide) (off := 46) (by decide) (t := 47) (by decide) ?_
    refine zz_strK (i := 1) S (by decide) dX3_wordOf_47 (q := 49) rfl ?_
    exact zz_aret S rfl dX3_wordOf_49 ⟨rfl, rfl, rfl, rfl⟩
  · refine zz_tabIn S dX3_wordOf_1 (by decide) (by decide) (off := 49) (by decide) (t := 50) (by decide) ?_
    refine zz_strK (i := 2) S (by decide) dX3_wordOf_50 (q := 52) rfl ?_
    exact zz_aret S rfl dX3_wordOf_52 ⟨rfl, rfl, rfl, rfl⟩
  · refine zz_tabIn S dX3_wordOf_1 (by decide) (by decide) (off := 52) (by decide) (t := 53) (by decide) ?_
    refine zz_strK (i := 3) S (by decide) dX3_wordOf_53 (q := 55) rfl ?_
    exact zz_aret S rfl dX3_wordOf_55 ⟨rfl, rfl, rfl, rfl⟩
  · refine zz_tabIn S dX3_wordOf_1 (by decide) (by decide) (off := 55) (by decide) (t := 56) (by decide) ?_
    refine zz_strK (i := 4) S (by decide) dX3_wordOf_56 (q := 58) rfl ?_
    exact zz_aret S rfl dX3_wordOf_58 ⟨rfl, rfl, rfl, rfl⟩
  · refine zz_tabIn S dX3_wordOf_1 (by decide) (by decide) (off := 58) (by decide) (t := 59) (by decide) ?_
    refine zz_strK (i := 5) S (by decide) dX3_wordOf_59 (q := 61) rfl ?_
    exact zz_aret S rfl dX3_wordOf_61 ⟨rfl, rfl, rfl, rfl⟩
  · refine zz_tabIn S dX3_wordOf_1 (by decide) (by decide) (off := 61) (by decide) (t := 62) (by decide) ?_
    refine zz_strK (i := 6) S (by decide) dX3_wordOf_62 (q := 64) rfl ?_
    exact zz_aret S rfl dX3_wordOf_64 ⟨rfl, rfl, rfl, rfl⟩
set_option maxHeartbeats 4000000 in
theorem lx_tokIs {n0 mcT msT : Nat} {isI : Bool} {Qf : Option Value → ZE → ZI → Prop} {w : Nat → ZL → List Value → Nat → ZE → ZI → Prop} {z len i : Nat} {T : ZTok} {tx : Nat → Int32} {im : ZI} (S : zz_S G l RX3 cX3_tokenIs 3 4 n0 mcT msT isI (some .boolean) Qf w)
    (hi : i < 10) (h3 : im 465 3 = nI T.1) (hP : zPg im len tx) (hT : T.1 + (wl i).length ≤ len) (hY : (∀ k, k < (wl i).length → tx (T.1 + k) = wt i k) → Qf (some (.int 1)) zE im) (hN : ¬ (∀ k, k < (wl i).length → tx (T.1 + k) = wt i k) → Qf (some (.int 0)) zE im) :
    ∀ (n k : Nat) (x : Int32), k + n = (wl i).length → x = nI k → (∀ j, j < k → tx (T.1 + j) = wt i j) → w 20 [some (.ref 465), some (.ref (1010 + i)), some (.int x)] [] z zE im := by
  have hll : ∀ i, i < 10 → (wl i).length ≤ 7 := by decide
  have hl7 := hll i hi
  obtain ⟨hl, hln, htx, htc⟩ := hP
  intro n
  induction n with
  | zero =>
    intro k x hk hx hd
    refine zz_iload_2 S dX3_tokenIs_20 (q := 21) rfl ?_
    refine zz_aload_1 S dX3_tokenIs_21 (q := 22) rfl ?_
    -- at 22
    refine zz_virtSP S yy_J0_length_8abf5 lX3_81 hi rfl (cs_len i hi zE im) rfl (Nat.le_of_ble_eq_true rfl) (Nat.le_of_ble_eq_true rfl) rfl dX3_tokenIs_22 (q := 25) rfl ?_
    refine zz_icmp_ge S dX3_tokenIs_25 (t := 55) (by decide) (q := 28) rfl (fun a1 => ?_) (fun a1 => ?_)
    -- then 55 else 28
    · refine zz_iconst S (v := 1) rfl dX3_tokenIs_55 (q := 56) rfl ?_
      -- at 56: ireturn 
      exact zz_zret S rfl dX3_tokenIs_56 (hY (fun j hj => hd j (by omega)))
    · exact absurd (by rw [hx]; exact nI_le (by omega) (by omega)) a1
  | succ n ih =>
    intro k x hk hx hd
    refine zz_iload_2 S dX3_tokenIs_20 (q := 21) rfl ?_
    refine zz_aload_1 S dX3_tokenIs_21 (q := 22) rfl ?_
    -- at 22
    refine zz_virtSP S yy_J0_length_8abf5 lX3_81 hi rfl (cs_len i hi zE im) rfl (Nat.le_of_ble_eq_true rfl) (Nat.le_of_ble_eq_true rfl) rfl dX3_tokenIs_22 (q := 25) rfl ?_
    refine zz_icmp_ge S dX3_tokenIs_25 (t := 55) (by decide) (q := 28) rfl (fun a1 => ?_) (fun a1 => ?_)
    -- then 55 else 28
    · exact absurd a1 (by rw [hx]; exact nI_ge (by omega) (by omega))
    · have hx2 : im 465 3 + x = nI (T.1 + k) := by rw [h3, hx]; exact nI_add _ _
      refine zz_aload_0 S dX3_tokenIs_28 (q := 29) rfl ?_
      refine zz_getR S fX3_9 rfl (Nat.le_of_ble_eq_true rfl) rfl rfl dX3_tokenIs_29 (q := 32) rfl ?_
      refine zz_aload_0 S dX3_tokenIs_32 (q := 33) rfl ?_
      refine zz_getI S fX3_29 rfl (Nat.le_of_ble_eq_true rfl) rfl dX3_tokenIs_33 (q := 36) rfl ?_
      refine zz_iload_2 S dX3_tokenIs_36 (q := 37) rfl ?_
      refine zz_iadd S dX3_tokenIs_37 (q := 38) rfl ?_
      refine zz_caN S (j := T.1 + k) (Nat.le_of_ble_eq_true rfl) rfl (Nat.le_of_ble_eq_true rfl) hx2 (by omega) dX3_tokenIs_38 (q := 39) rfl ?_
      refine zz_aload_1 S dX3_tokenIs_39 (q := 40) rfl ?_
      refine zz_iload_2 S dX3_tokenIs_40 (q := 41) rfl ?_
      -- at 41
      rw [htx (T.1 + k) (by omega), hx]
      refine zz_virtSP S yy_J0_charAt_5068e lX3_85 hi rfl (cs_charAt i k hi (by omega) zE im) rfl (Nat.le_of_ble_eq_true rfl) (Nat.le_of_ble_eq_true rfl) rfl dX3_tokenIs_41 (q := 44) rfl ?_
      refine zz_icmp_eq S dX3_tokenIs_44 (t := 49) (by decide) (q := 47) rfl (fun a2 => ?_) (fun a2 => ?_)
      -- then 49 else 47
      · refine zz_iinc_2 S rfl dX3_tokenIs_49 (q := 52) rfl ?_
        refine zz_goto S dX3_tokenIs_52 (t := 20) (by decide) ?_
        -- at 20
        refine ih (k + 1) _ (by omega) (nI_1 k) (fun j hj => ?_)
        by_cases e : j = k
        · rw [e]
          exact a2
        · exact hd j (by omega)
      · refine zz_iconst S (v := 0) rfl dX3_tokenIs_47 (q := 48) rfl ?_
        -- at 48: ireturn 
        exact zz_zret S rfl dX3_tokenIs_48 (hN (fun e => a2 (e k (by omega))))
theorem cx_tokenIs (i p len : Nat) (tx : Nat → Int32) (im : ZI) (hi : i < 10) (hp : p ≤ len) (hP : zPg im len tx) (hk : zXk im (tk tx len p)) : zz_OP G l 4 mX3_tokenIs [.ref 465, .ref (1010 + i)] zE im (if isW tx (tk tx len p) i then 1 else 0) := by
  have hll : ∀ i, i < 10 → (wl i).length ≤ 7 := by decide
  have hl7 := hll i hi
  have hti := tk_in tx hp
  have hln := hP.2.1
  generalize tk tx len p = T at hti hk ⊢
  obtain ⟨h3, h4⟩ := hk
  have hd : im 465 4 - im 465 3 = nI (T.2.1 - T.1) := by rw [h3, h4]; exact pk_sub hti.2.1
  refine zz_intro (isI := false) (by decide) rfl (Nat.le_of_ble_eq_true rfl) (fun h => by cases h) (fun w S => ?_)
  refine zz_aload_0 S dX3_tokenIs_0 (q := 1) rfl ?_
  refine zz_getI S fX3_32 rfl (Nat.le_of_ble_eq_true rfl) rfl dX3_tokenIs_1 (q := 4) rfl ?_
  refine zz_aload_0 S dX3_tokenIs_4 (q := 5) rfl ?_
  refine zz_getI S fX3_29 rfl (Nat.le_of_ble_eq_true rfl) rfl dX3_tokenIs_5 (q := 8) rfl ?_
  refine zz_isub S dX3_tokenIs_8 (q := 9) rfl ?_
  refine zz_aload_1 S dX3_tokenIs_9 (q := 10) rfl ?_
  -- at 10
  rw [hd]
  refine zz_virtSP S yy_J0_length_8abf5 lX3_81 hi rfl (cs_len i hi zE im) rfl (Nat.le_of_ble_eq_true rfl) (Nat.le_of_ble_eq_true rfl) rfl dX3_tokenIs_10 (q := 13) rfl ?_
  refine zz_icmp_eq S dX3_tokenIs_13 (t := 18) (by decide) (q := 16) rfl (fun a1 => ?_) (fun a1 => ?_)
  -- then 18 else 16
  · have a2 : T.2.1 - T.1 = (wl i).length := (nI_eq (by omega) (by omega)).mp a1
    refine zz_iconst S (v := 0) rfl dX3_tokenIs_18 (q := 19) rfl ?_
    refine zz_istore_2 S rfl dX3_tokenIs_19 (q := 20) rfl ?_
    -- at 20
    exact lx_tokIs (T := T) S hi h3 hP (by omega) (fun h => ⟨rfl, _, rfl, rfl, by rw [if_pos ⟨a2, h⟩], rfl⟩) (fun h => ⟨rfl, _, rfl, rfl, by rw [if_neg (fun e => h e.2)], rfl⟩) (wl i).length 0 0 (by omega) rfl (fun j hj => absurd hj (by omega))
  · refine zz_iconst S (v := 0) rfl dX3_tokenIs_16 (q := 17) rfl ?_
    -- at 17: ireturn 
    refine zz_zret S rfl dX3_tokenIs_17 ⟨rfl, _, rfl, rfl, ?_⟩
    exact ⟨by rw [if_neg (fun e => a1 (by rw [e.1]))], rfl⟩
set_option maxHeartbeats 4000000 in
theorem lx_comTok {n0 mcT msT : Nat} {isI : Bool} {Qf : Option Value → ZE → ZI → Prop} {w : Nat → ZL → List Value → Nat → ZE → ZI → Prop} {z len p Z : Nat} {tx : Nat → Int32} {im : ZI} (S : zz_S G l RX3 cX3_commandOfToken 2 5 n0 mcT msT isI (some .int) Qf w)
    (hp : p ≤ len) (hP : zPg im len tx) (hk : zXk im (tk tx len p)) (hQ : Qf (some (.int (if Z = 7 then -1 else nI Z))) zE im) :
    ∀ (n v : Nat) (x : Int32), v + n = 7 → x = nI v → Z = rk_wG tx (tk tx len p) n v → w 2 [some (.ref 465), some (.int x)] [] z zE im := by
  intro n
  induction n with
  | zero =>
    intro v x hv hx hZ
    have hZ7 : Z = 7 := by rw [hZ, rk_wG]; omega
    rw [if_pos hZ7] at hQ
    refine zz_iload_1 S dX3_commandOfToken_2 (q := 3) rfl ?_
    refine zz_bipush S (v := 7) rfl dX3_commandOfToken_3 (q := 5) rfl ?_
    refine zz_icmp_ge S dX3_commandOfToken_5 (t := 27) (by decide) (q := 8) rfl (fun a1 => ?_) (fun a1 => ?_)
    -- then 27 else 8
    · refine zz_iconst S (v := (-1)) rfl dX3_commandOfToken_27 (q := 28) rfl ?_
      -- at 28: ireturn 
      exact zz_iret S dX3_commandOfToken_28 hQ
    · exact absurd (by rw [hx]; exact nI_le (a := 7) (by omega) (by omega)) a1
  | succ n ih =>
    intro v x hv hx hZ
    rw [rk_wG] at hZ
    refine zz_iload_1 S dX3_commandOfToken_2 (q := 3) rfl ?_
    refine zz_bipush S (v := 7) rfl dX3_commandOfToken_3 (q := 5) rfl ?_
    refine zz_icmp_ge S dX3_commandOfToken_5 (t := 27) (by decide) (q := 8) rfl (fun a1 => ?_) (fun a1 => ?_)
    -- then 27 else 8
    · exact absurd a1 (by rw [hx]; exact nI_ge (b := 7) (by omega) (by omega))
    · subst hx
      refine zz_aload_0 S dX3_commandOfToken_8 (q := 9) rfl ?_
      refine zz_iload_1 S dX3_commandOfToken_9 (q := 10) rfl ?_
      -- at 10
      refine zz_statR S yy_X3_wordOf lX3_61 (cx_wordOf v (by omega) zE im) rfl (Nat.le_of_ble_eq_true rfl) (Nat.le_of_ble_eq_true rfl) rfl dX3_commandOfToken_10 (q := 13) rfl ?_
      refine zz_virtP S yy_X3_tokenIs lX3_52 (ci := 3) (by decide) rfl (cx_tokenIs v p len tx im (by omega) hp hP hk) rfl (Nat.le_of_ble_eq_true rfl) (Nat.le_of_ble_eq_true rfl) rfl (Nat.le_of_ble_eq_true rfl) rfl dX3_commandOfToken_13 (q := 16) rfl ?_
      refine zz_if_eq S dX3_commandOfToken_16 (t := 21) (by decide) (q := 19) rfl (fun a2 => ?_) (fun a2 => ?_)
      -- then 21 else 19
      · have a3 : ¬ isW tx (tk tx len p) v := fun e => by
          rw [if_pos e] at a2
          exact absurd a2 (by decide)
        rw [if_neg a3] at hZ
        refine zz_iinc_1 S rfl dX3_commandOfToken_21 (q := 24) rfl ?_
        refine zz_goto S dX3_commandOfToken_24 (t := 2) (by decide) ?_
        -- at 2
        exact ih (v + 1) _ (by omega) (nI_1 v) hZ
      · have a3 : isW tx (tk tx len p) v := Classical.byContradiction (fun e => by
          rw [if_neg e] at a2
          exact a2 rfl)
        rw [if_pos a3] at hZ
        rw [if_neg (by omega), hZ] at hQ
        refine zz_iload_1 S dX3_commandOfToken_19 (q := 20) rfl ?_
        -- at 20: ireturn 
        exact zz_iret S dX3_commandOfToken_20 hQ
theorem cx_comTok (p len : Nat) (tx : Nat → Int32) (im : ZI) (hp : p ≤ len) (hP : zPg im len tx) (hk : zXk im (tk tx len p)) : zz_OP G l 5 mX3_commandOfToken [.ref 465] zE im (if rk_word tx (tk tx len p) = 7 then -1 else nI (rk_word tx (tk tx len p))) := by
  rw [rk_word_G hp]
  refine zz_intro (isI := false) (by decide) rfl (Nat.le_of_ble_eq_true rfl) (fun h => by cases h) (fun w S => ?_)
  refine zz_iconst S (v := 0) rfl dX3_commandOfToken_0 (q := 1) rfl ?_
  refine zz_istore_1 S rfl dX3_commandOfToken_1 (q := 2) rfl ?_
  -- at 2
  exact lx_comTok (Z := rk_wG tx (tk tx len p) 7 0) S hp hP hk ⟨rfl, _, rfl, rfl, rfl, rfl⟩ 7 0 0 (by omega) rfl rfl
end ZCPS
