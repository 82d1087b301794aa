/-! ROWS: cells -/
def zz_cn : Nat → String
  | 0 => RX0
  | 1 => RX1
  | 2 => RX2
  | 3 => RX3
  | 4 => RX4
  | 5 => RX5
  | 6 => RX6
  | _ => RX7
def zz_T : Nat → u_T
  | 0 => TX0
  | 1 => TX1
  | 2 => TX2
  | 3 => TX3
  | 4 => TX4
  | 5 => TX5
  | 6 => TX6
  | _ => TX7
theorem zz_in0 : ∀ w ∈ u_ws RX0 TX0 8, w ∈ zz_t := zz_pl [85, 87, 89, 91, 93, 95, 97, 99] (by decide +kernel) (by decide +kernel)
theorem zz_in1 : ∀ w ∈ u_ws RX1 TX1 3, w ∈ zz_t := zz_pl [203, 205, 207] (by decide +kernel) (by decide +kernel)
theorem zz_in2 : ∀ w ∈ u_ws RX2 TX2 3, w ∈ zz_t := zz_pl [164, 166, 168] (by decide +kernel) (by decide +kernel)
theorem zz_in3 : ∀ w ∈ u_ws RX3 TX3 5, w ∈ zz_t := zz_pl [180, 182, 184, 186, 188] (by decide +kernel) (by decide +kernel)
theorem zz_in4 : ∀ w ∈ u_ws RX4 TX4 8, w ∈ zz_t := zz_pl [121, 123, 125, 127, 129, 131, 133, 135] (by decide +kernel) (by decide +kernel)
theorem zz_in5 : ∀ w ∈ u_ws RX5 TX5 3, w ∈ zz_t := zz_pl [143, 145, 147] (by decide +kernel) (by decide +kernel)
theorem zz_in6 : ∀ w ∈ u_ws RX6 TX6 2, w ∈ zz_t := zz_pl [51, 53] (by decide +kernel) (by decide +kernel)
theorem zz_in7 : ∀ w ∈ u_ws RX7 TX7 5, w ∈ zz_t := zz_pl [215, 217, 219, 221, 223] (by decide +kernel) (by decide +kernel)
theorem zz_cls {c : Nat} (hc : c < 8) : zz_cl[c]? = some (zz_cn c, zz_T c, zz_n c) ∧ (∀ w ∈ u_ws (zz_cn c) (zz_T c) (zz_n c), w ∈ zz_t) ∧ (∀ k, k < zz_n c → parseFieldDescriptor (zz_T c k).2.2.1 = some (zz_ty c k)) ∧ ∀ a, a < zz_n c → ∀ b, b < zz_n c → a ≠ b → (zz_T c a).2.1 ≠ (zz_T c b).2.1 := by
  match c, hc with
  | 0, _ => exact ⟨rfl, zz_in0, tyX0_ok, nmX0⟩
  | 1, _ => exact ⟨rfl, zz_in1, tyX1_ok, nmX1⟩
  | 2, _ => exact ⟨rfl, zz_in2, tyX2_ok, nmX2⟩
  | 3, _ => exact ⟨rfl, zz_in3, tyX3_ok, nmX3⟩
  | 4, _ => exact ⟨rfl, zz_in4, tyX4_ok, nmX4⟩
  | 5, _ => exact ⟨rfl, zz_in5, tyX5_ok, nmX5⟩
  | 6, _ => exact ⟨rfl, zz_in6, tyX6_ok, nmX6⟩
  | 7, _ => exact ⟨rfl, zz_in7, tyX7_ok, nmX7⟩
/-- entry idx of the class own is the field j of the class c -/
def zz_F (own : String) (idx c j : Nat) : Prop := Cond.fieldLink own idx (zz_cn c) (zz_T c j).2.1 (zz_T c j).2.2.1 ∈ zz_t ∧ c < 8 ∧ j < zz_n c ∧ (zz_T c j).1 = zz_cn c
section ZH
variable {G : ZG} {l : Launch} {own : String} {cc : ByteArray} {nL d n0 mcT msT : Nat} {isI : Bool} {rt : Option FieldType} {Qf : Option Value → ZE → ZI → Prop} {w : Nat → ZL → List Value → Nat → ZE → ZI → Prop}
variable {pc q t : Nat} {L L' : ZL} {st st' : List Value} {z : Nat} {E : ZE} {im : ZI}
theorem zz_b_lt {G : ZG} {k : Nat} (h : k < 1000) : zz_b G k = G.2.2.1 + k := by
  unfold zz_b
  rw [if_pos h]
theorem zz_w_obj {k c : Nat} (hk : k < E.1) (hkd : E.2.1 k = (0, c)) : (zz_w G E im)[k]? = some (zz_b G k, .inr (c, zz_fs G c (im k) (E.2.2 k))) := by
  rw [zz_w_get hk, hkd]
  rfl
theorem zz_w_ints {k t n : Nat} (hk : k < E.1) (hkd : E.2.1 k = (t, n)) (h1 : 1 ≤ t) (h3 : t ≤ 3) : (zz_w G E im)[k]? = some (zz_b G k, .inl (G.2.1 t, n, .inl (im k))) := by
  rw [zz_w_get hk, hkd]
  unfold zz_c
  rw [if_neg (by show ¬ t = 0; omega), if_pos h3]
theorem zz_w_refs {k t n : Nat} (hk : k < E.1) (hkd : E.2.1 k = (t, n)) (h4 : 4 ≤ t) : (zz_w G E im)[k]? = some (zz_b G k, .inl (G.2.1 t, n, .inr (.inr (.inr (.inr (fun j => (E.2.2 k j).map (zz_b G))))))) := by
  rw [zz_w_get hk, hkd]
  unfold zz_c
  rw [if_neg (by show ¬ t = 0; omega), if_neg (by show ¬ t ≤ 3; omega)]
theorem zz_getI (S : zz_S G l own cc nL d n0 mcT msT isI rt Qf w) {idx c j k : Nat} (hf : zz_F own idx c j) (hr : zz_r c j = false) (hk : k < E.1) (hkd : E.2.1 k = (0, c)) (hd : decode cc pc = .ok (.getfield idx, 3)) (hq : pc + 3 = q) (kk : w q L (.int (im k j) :: st) z E im) : w pc L (.ref k :: st) z E im := by
  subst hq
  obtain ⟨p, e, R, s, m, args, below, meth, c0, Q, ⟨hx, hb, hml, hown, hts⟩, hR, hI, hK, hsz, hret, rfl⟩ := S
  intro H locs ls h1 h2 h3 h4 h5 h6
  obtain ⟨f1, f2, f3, f4⟩ := hf
  obtain ⟨c1, c2, c3, c4⟩ := zz_cls f2
  exact va_get hx hb hts c2 hown hK.1.1 h1.2 k (zz_w_obj hk hkd) c1 j f3 (hts _ f1) (by rw [f4]; exact fun _ h => h) (v := .int (im k j)) (by rw [zz_fs_get f3]; simp [zz_fv, hr]) hd (kk H locs ls h1 h2 h3 h4 h5 h6)
theorem zz_getR (S : zz_S G l own cc nL d n0 mcT msT isI rt Qf w) {idx c j k x : Nat} (hf : zz_F own idx c j) (hr : zz_r c j = true) (hk : k < E.1) (hkd : E.2.1 k = (0, c)) (hx1 : E.2.2 k j = some x) (hd : decode cc pc = .ok (.getfield idx, 3)) (hq : pc + 3 = q) (kk : w q L (.ref x :: st) z E im) : w pc L (.ref k :: st) z E im := by
  subst hq
  obtain ⟨p, e, R, s, m, args, below, meth, c0, Q, ⟨hx, hb, hml, hown, hts⟩, hR, hI, hK, hsz, hret, rfl⟩ := S
  intro H locs ls h1 h2 h3 h4 h5 h6
  obtain ⟨f1, f2, f3, f4⟩ := hf
  obtain ⟨c1, c2, c3, c4⟩ := zz_cls f2
  exact va_get hx hb hts c2 hown hK.1.1 h1.2 k (zz_w_obj hk hkd) c1 j f3 (hts _ f1) (by rw [f4]; exact fun _ h => h) (v := .ref (zz_b G x)) (by rw [zz_fs_get f3]; simp [zz_fv, hr, hx1, va_rf]) hd (kk H locs ls h1 h2 h3 h4 h5 h6)
theorem zz_putI (S : zz_S G l own cc nL d n0 mcT msT isI rt Qf w) {idx c j k : Nat} {x : Int32} (hf : zz_F own idx c j) (hty : zz_ty c j = .int) (hfin : (zz_T c j).2.2.2 = false) (hk : k < E.1) (hkd : E.2.1 k = (0, c)) (hd : decode cc pc = .ok (.putfield idx, 3)) (hq : pc + 3 = q) (kk : w q L st z E (zz_u im k j x)) : w pc L (.int x :: .ref k :: st) z E im := by
  subst hq
  obtain ⟨p, e, R, s, m, args, below, meth, c0, Q, ⟨hx, hb, hml, hown, hts⟩, hR, hI, hK, hsz, hret, rfl⟩ := S
  intro H locs ls h1 h2 h3 h4 h5 h6
  obtain ⟨f1, f2, f3, f4⟩ := hf
  obtain ⟨c1, c2, c3, c4⟩ := zz_cls f2
  have hr : zz_r c j = false := by unfold zz_r; rw [hty]; rfl
  refine va_put hx hb hts c2 (zz_ty c) c3 c4 hown hK.1.1 h1.2 (zz_w_D h1.1) h5 k (zz_w_obj hk hkd) c1 j f3 (hts _ f1) (by rw [f4]; exact fun _ h => h) hfin (ty := .int) (v := .int x) (by rw [c3 j f3, hty]) rfl rfl (by rw [zz_fs_len]; exact f3) hd (fun H1 locs1 hP1 hD1 hS1 => ?_)
  rw [zz_fs_setI f3 hr] at hP1
  have e1 := zz_w_set (G := G) (E := E) (E' := E) (im := im) (im' := zz_u im k j x) (q := k) rfl hk (fun _ _ => rfl) (fun _ h => zz_u_off _ _ _ _ h) (fun _ _ => rfl)
  rw [hkd, zz_u_row] at e1
  exact kk H1 locs1 ls ⟨h1.1, by rw [← e1]; exact hP1⟩ h2 h3 h4 hS1 h6
theorem zz_putF (S : zz_S G l own cc nL d n0 mcT msT true rt Qf w) {idx c j k x : Nat} (hf : zz_F own idx c j) (hr : zz_r c j = true) (hfit : ∀ a, narrow (zz_ty c j) (.ref a) = .ref a ∧ fits (zz_ty c j) (.ref a) = true) (hfin : (zz_T c j).2.2.2 = true) (hdecl : (zz_T c j).1 = own) (hk : k < E.1) (hkd : E.2.1 k = (0, c)) (hd : decode cc pc = .ok (.putfield idx, 3)) (hq : pc + 3 = q) (kk : w q L st z (E.1, E.2.1, zz_ru E.2.2 k j (some x)) im) : w pc L (.ref x :: .ref k :: st) z E im := by
  subst hq
  obtain ⟨p, e, R, s, m, args, below, meth, c0, Q, ⟨hx, hb, hml, hown, hts⟩, hR, hI, hK, hsz, hret, rfl⟩ := S
  intro H locs ls h1 h2 h3 h4 h5 h6
  obtain ⟨f1, f2, f3, f4⟩ := hf
  obtain ⟨c1, c2, c3, c4⟩ := zz_cls f2
  refine va_putF hx hb hts c2 (zz_ty c) c3 c4 hown hK.1.1 h1.2 (zz_w_D h1.1) h5 k (zz_w_obj hk hkd) c1 j f3 (hts _ f1) (by rw [f4]; exact fun _ h => h) hfin (hI rfl) hdecl (ty := zz_ty c j) (v := .ref (zz_b G x)) (c3 j f3) (hfit _).1 (hfit _).2 (by rw [zz_fs_len]; exact f3) hd (fun H1 locs1 hP1 hD1 hS1 => ?_)
  rw [zz_fs_setR f3 hr] at hP1
  have e1 := zz_w_set (G := G) (E := E) (E' := (E.1, E.2.1, zz_ru E.2.2 k j (some x))) (im := im) (im' := im) (q := k) rfl hk (fun _ _ => rfl) (fun _ _ => rfl) (fun _ h => zz_ru_off _ _ _ _ h)
  dsimp only at e1
  rw [hkd, zz_ru_row] at e1
  exact kk H1 locs1 ls ⟨h1.1, by rw [← e1]; exact hP1⟩ h2 h3 h4 hS1 h6
/-- an index within, as the walk asks it -/
theorem zz_vp {i : Int32} {n : Nat} (h : 0 ≤ i.toInt ∧ i.toInt < n) : vp_in i n := vp_in_iff.mpr h
theorem zz_iald (S : zz_S G l own cc nL d n0 mcT msT isI rt Qf w) {k n : Nat} {i : Int32} (hk : k < E.1) (hkd : E.2.1 k = (1, n)) (hi : vp_in i n) (hd : decode cc pc = .ok (.iaload, 1)) (hq : pc + 1 = q) (kk : w q L (.int (im k i.toNatClampNeg) :: st) z E im) : w pc L (.int i :: .ref k :: st) z E im := by
  subst hq
  obtain ⟨p, e, R, s, m, args, below, meth, c0, Q, ⟨hx, hb, hml, hown, hts⟩, hR, hI, hK, hsz, hret, rfl⟩ := S
  intro H locs ls h1 h2 h3 h4 h5 h6
  exact va_iald hx hb hK.1.1 h1.2 k 1 (zz_w_ints hk hkd (by decide) (by decide)) rfl hi hd (kk H locs ls h1 h2 h3 h4 h5 h6)
theorem zz_zald (S : zz_S G l own cc nL d n0 mcT msT isI rt Qf w) {k n : Nat} {i : Int32} (hk : k < E.1) (hkd : E.2.1 k = (2, n)) (hi : vp_in i n) (hd : decode cc pc = .ok (.baload, 1)) (hq : pc + 1 = q) (kk : w q L (.int (im k i.toNatClampNeg) :: st) z E im) : w pc L (.int i :: .ref k :: st) z E im := by
  subst hq
  obtain ⟨p, e, R, s, m, args, below, meth, c0, Q, ⟨hx, hb, hml, hown, hts⟩, hR, hI, hK, hsz, hret, rfl⟩ := S
  intro H locs ls h1 h2 h3 h4 h5 h6
  exact va_zald hx hb hK.1.1 h1.2 k 2 (zz_w_ints hk hkd (by decide) (by decide)) rfl hi hd (kk H locs ls h1 h2 h3 h4 h5 h6)
theorem zz_cald (S : zz_S G l own cc nL d n0 mcT msT isI rt Qf w) {k n : Nat} {i : Int32} (hk : k < E.1) (hkd : E.2.1 k = (3, n)) (hi : vp_in i n) (hd : decode cc pc = .ok (.caload, 1)) (hq : pc + 1 = q) (kk : w q L (.int (im k i.toNatClampNeg) :: st) z E im) : w pc L (.int i :: .ref k :: st) z E im := by
  subst hq
  obtain ⟨p, e, R, s, m, args, below, meth, c0, Q, ⟨hx, hb, hml, hown, hts⟩, hR, hI, hK, hsz, hret, rfl⟩ := S
  intro H locs ls h1 h2 h3 h4 h5 h6
  exact va_cald hx hb hK.1.1 h1.2 k 3 (zz_w_ints hk hkd (by decide) (by decide)) rfl hi hd (kk H locs ls h1 h2 h3 h4 h5 h6)
theorem zz_iast (S : zz_S G l own cc nL d n0 mcT msT isI rt Qf w) {k n : Nat} {i x : Int32} (hk : k < E.1) (hkd : E.2.1 k = (1, n)) (hi : vp_in i n) (hd : decode cc pc = .ok (.iastore, 1)) (hq : pc + 1 = q) (kk : w q L st z E (zz_u im k i.toNatClampNeg x)) : w pc L (.int x :: .int i :: .ref k :: st) z E im := by
  subst hq
  obtain ⟨p, e, R, s, m, args, below, meth, c0, Q, ⟨hx, hb, hml, hown, hts⟩, hR, hI, hK, hsz, hret, rfl⟩ := S
  intro H locs ls h1 h2 h3 h4 h5 h6
  refine va_iast hx hb hK.1.1 h1.2 (zz_w_D h1.1) h5 k 1 (zz_w_ints hk hkd (by decide) (by decide)) rfl hi hd (fun H1 locs1 hP1 hD1 hS1 => ?_)
  have e1 := zz_w_set (G := G) (E := E) (E' := E) (im := im) (im' := zz_u im k i.toNatClampNeg x) (q := k) rfl hk (fun _ _ => rfl) (fun _ h => zz_u_off _ _ _ _ h) (fun _ _ => rfl)
  rw [hkd, zz_u_row] at e1
  exact kk H1 locs1 ls ⟨h1.1, by rw [← e1]; exact hP1⟩ h2 h3 h4 hS1 h6
theorem zz_zast (S : zz_S G l own cc nL d n0 mcT msT isI rt Qf w) {k n : Nat} {i x : Int32} (hk : k < E.1) (hkd : E.2.1 k = (2, n)) (hi : vp_in i n) (hd : decode cc pc = .ok (.bastore, 1)) (hq : pc + 1 = q) (kk : w q L st z E (zz_u im k i.toNatClampNeg (vp_nar .boolean x))) : w pc L (.int x :: .int i :: .ref k :: st) z E im := by
  subst hq
  obtain ⟨p, e, R, s, m, args, below, meth, c0, Q, ⟨hx, hb, hml, hown, hts⟩, hR, hI, hK, hsz, hret, rfl⟩ := S
  intro H locs ls h1 h2 h3 h4 h5 h6
  refine va_zast hx hb hK.1.1 h1.2 (zz_w_D h1.1) h5 k 2 (zz_w_ints hk hkd (by decide) (by decide)) rfl hi hd (fun H1 locs1 hP1 hD1 hS1 => ?_)
  have e1 := zz_w_set (G := G) (E := E) (E' := E) (im := im) (im' := zz_u im k i.toNatClampNeg (vp_nar .boolean x)) (q := k) rfl hk (fun _ _ => rfl) (fun _ h => zz_u_off _ _ _ _ h) (fun _ _ => rfl)
  rw [hkd, zz_u_row] at e1
  exact kk H1 locs1 ls ⟨h1.1, by rw [← e1]; exact hP1⟩ h2 h3 h4 hS1 h6
theorem zz_cast (S : zz_S G l own cc nL d n0 mcT msT isI rt Qf w) {k n : Nat} {i x : Int32} (hk : k < E.1) (hkd : E.2.1 k = (3, n)) (hi : vp_in i n) (hd : decode cc pc = .ok (.castore, 1)) (hq : pc + 1 = q) (kk : w q L st z E (zz_u im k i.toNatClampNeg (vp_nar .char x))) : w pc L (.int x :: .int i :: .ref k :: st) z E im := by
  subst hq
  obtain ⟨p, e, R, s, m, args, below, meth, c0, Q, ⟨hx, hb, hml, hown, hts⟩, hR, hI, hK, hsz, hret, rfl⟩ := S
  intro H locs ls h1 h2 h3 h4 h5 h6
  refine va_cast hx hb hK.1.1 h1.2 (zz_w_D h1.1) h5 k 3 (zz_w_ints hk hkd (by decide) (by decide)) rfl hi hd (fun H1 locs1 hP1 hD1 hS1 => ?_)
  have e1 := zz_w_set (G := G) (E := E) (E' := E) (im := im) (im' := zz_u im k i.toNatClampNeg (vp_nar .char x)) (q := k) rfl hk (fun _ _ => rfl) (fun _ h => zz_u_off _ _ _ _ h) (fun _ _ => rfl)
  rw [hkd, zz_u_row] at e1
  exact kk H1 locs1 ls ⟨h1.1, by rw [← e1]; exact hP1⟩ h2 h3 h4 hS1 h6
theorem zz_aald (S : zz_S G l own cc nL d n0 mcT msT isI rt Qf w) {k t0 n x : Nat} {i : Int32} (hk : k < E.1) (hkd : E.2.1 k = (t0, n)) (ht0 : 4 ≤ t0 ∧ t0 ≤ 7) (hi : vp_in i n) (hx1 : E.2.2 k i.toNatClampNeg = some x) (hd : decode cc pc = .ok (.aaload, 1)) (hq : pc + 1 = q) (kk : w q L (.ref x :: st) z E im) : w pc L (.int i :: .ref k :: st) z E im := by
  subst hq
  obtain ⟨p, e, R, s, m, args, below, meth, c0, Q, ⟨hx, hb, hml, hown, hts⟩, hR, hI, hK, hsz, hret, rfl⟩ := S
  intro H locs ls h1 h2 h3 h4 h5 h6
  have kk2 := kk H locs ls h1 h2 h3 h4 h5 h6
  have e2 : va_rf ((fun j => (E.2.2 k j).map (zz_b G)) i.toNatClampNeg) = .ref (zz_b G x) := by simp [hx1, va_rf]
  have hcell := zz_w_refs (G := G) (im := im) hk hkd ht0.1
  rw [List.map_cons, zz_v_ref, ← e2] at kk2
  rcases (show t0 = 4 ∨ t0 = 5 ∨ t0 = 6 ∨ t0 = 7 by omega) with rfl | rfl | rfl | rfl
  · exact va_aldq (C := RX6) hx hb hK.1.1 h1.2 k 4 hcell rfl hi hd kk2
  · exact va_aldq (C := RX0) hx hb hK.1.1 h1.2 k 5 hcell rfl hi hd kk2
  · exact va_aldq (C := RX4) hx hb hK.1.1 h1.2 k 6 hcell rfl hi hd kk2
  · exact va_aldq (C := RX5) hx hb hK.1.1 h1.2 k 7 hcell rfl hi hd kk2
theorem zz_aast (S : zz_S G l own cc nL d n0 mcT msT isI rt Qf w) {k t0 c n x : Nat} {i : Int32} (hk : k < E.1) (hkd : E.2.1 k = (t0, n)) (ht0 : (t0, c) ∈ [(4, 6), (5, 0), (6, 4), (7, 5)]) (hi : vp_in i n) (hkx : x < E.1) (hkdx : E.2.1 x = (0, c)) (hd : decode cc pc = .ok (.aastore, 1)) (hq : pc + 1 = q) (kk : w q L st z (E.1, E.2.1, zz_ru E.2.2 k i.toNatClampNeg (some x)) im) : w pc L (.ref x :: .int i :: .ref k :: st) z E im := by
  subst hq
  obtain ⟨p, e, R, s, m, args, below, meth, c0, Q, ⟨hx, hb, hml, hown, hts⟩, hR, hI, hK, hsz, hret, rfl⟩ := S
  intro H locs ls h1 h2 h3 h4 h5 h6
  have key : ∀ (r : vw_C), zz_cl[c]? = some r → (zz_tys G)[t0]? = some (G.2.1 t0, .object r.1) → 4 ≤ t0 → W p l e R s m args below meth c0 H locs (E.1 - n0) z Q (F0 m pc ls (.ref (zz_b G x) :: .int i :: .ref (zz_b G k) :: st.map (zz_v G))) := by
    intro r hr hty ht4
    refine va_astq hx hb hK.1.1 h1.2 (zz_w_D h1.1) h5 k t0 x c (zz_w_refs hk hkd ht4) hty (zz_w_obj hkx hkdx) hr hi hd (fun H1 locs1 hP1 hD1 hS1 => ?_)
    have e1 := zz_w_set (G := G) (E := E) (E' := (E.1, E.2.1, zz_ru E.2.2 k i.toNatClampNeg (some x))) (im := im) (im' := im) (q := k) rfl hk (fun _ _ => rfl) (fun _ _ => rfl) (fun _ h => zz_ru_off _ _ _ _ h)
    dsimp only at e1
    have e2 : zz_c G (t0, n) (im k) (zz_ru E.2.2 k i.toNatClampNeg (some x) k) = .inl (G.2.1 t0, n, .inr (.inr (.inr (.inr (va_up (fun j => (E.2.2 k j).map (zz_b G)) i.toNatClampNeg (some (zz_b G x))))))) := by
      unfold zz_c
      rw [if_neg (by show ¬ t0 = 0; omega), if_neg (by show ¬ t0 ≤ 3; omega), zz_ru_row]
      congr 7
      funext j
      by_cases hj : j = i.toNatClampNeg
      · subst hj; simp [va_up]
      · simp [va_up, hj]
    rw [hkd, e2] at e1
    exact kk H1 locs1 ls ⟨h1.1, by rw [← e1]; exact hP1⟩ h2 h3 h4 hS1 h6
  simp only [List.mem_cons, Prod.mk.injEq, List.not_mem_nil, or_false] at ht0
  rcases ht0 with ⟨rfl, rfl⟩ | ⟨rfl, rfl⟩ | ⟨rfl, rfl⟩ | ⟨rfl, rfl⟩
  · exact key (RX6, TX6, 2) rfl rfl (by decide)
  · exact key (RX0, TX0, 8) rfl rfl (by decide)
  · exact key (RX4, TX4, 8) rfl rfl (by decide)
  · exact key (RX5, TX5, 3) rfl rfl (by decide)
theorem zz_gets (S : zz_S G l own cc nL d n0 mcT msT isI rt Qf w) {idx i : Nat} (hi : i < 3) (hn : Cond.fieldLinkNest own idx "SundialWorks" (zz_sn i) "[I" "SundialWorks" ∈ zz_nw) (hd : decode cc pc = .ok (.getstatic idx, 3)) (hq : pc + 3 = q) (kk : w q L (.ref (1000 + i) :: st) z E im) : w pc L st z E im := by
  subst hq
  obtain ⟨p, e, R, s, m, args, below, meth, c0, Q, ⟨hx, hb, hml, hown, hts⟩, hR, hI, hK, hsz, hret, rfl⟩ := S
  intro H locs ls h1 h2 h3 h4 h5 h6
  have hl : va_Nw (.fieldLinkNest own idx "SundialWorks" (zz_sn i) "[I" "SundialWorks") s := hK.1.2.1 _ hn
  exact va_getsN hx hb (hK.2.1 i hi).1 h5 hown (va_Nw.use rfl hl) (fun _ h => h) hd (kk H locs ls h1 h2 h3 h4 h5 h6)
theorem zz_sald (S : zz_S G l own cc nL d n0 mcT msT isI rt Qf w) {k : Nat} {i : Int32} (hk : k < 3) (hi : vp_in i (zz_st k).length) (hd : decode cc pc = .ok (.iaload, 1)) (hq : pc + 1 = q) (kk : w q L (.int ((zz_st k).getD i.toNatClampNeg 0) :: st) z E im) : w pc L (.int i :: .ref (1000 + k) :: st) z E im := by
  subst hq
  obtain ⟨p, e, R, s, m, args, below, meth, c0, Q, ⟨hx, hb, hml, hown, hts⟩, hR, hI, hK, hsz, hret, rfl⟩ := S
  intro H locs ls h1 h2 h3 h4 h5 h6
  exact va_ti hx hb (hK.2.1 k hk).2 h5 hi (v := .int ((zz_st k).getD i.toNatClampNeg 0)) rfl hd (kk H locs ls h1 h2 h3 h4 h5 h6)
/-! new cells -/
theorem zz_top {H : Heap} {s : State} {locs : List Loc} {A : Nat → Prop} (h1 : zz_R G H E im) (h2 : n0 ≤ E.1) (hS : va_S A s.heap H locs) (hsz : s.heap.size = G.2.2.1 + n0) : G.2.2.1 + E.1 ≤ H.size := by
  by_cases h : E.1 = n0
  · have := hS.1
    omega
  · have hk : E.1 - 1 < E.1 := by omega
    have h4 := (h1.2 (E.1 - 1) _ (zz_w_get hk)).lt
    have h5 : zz_b G (E.1 - 1) = G.2.2.1 + (E.1 - 1) := zz_b_lt (by have := h1.1; omega)
    have h6 : zz_b G (E.1 - 1) < H.size := h4
    omega
theorem zz_Wsz {p : Program} {e : Env} {R : Room} {s : State} {m : MethodId} {args : Array Value} {below : List Frame} {meth : Method} {c : Code} {H : Heap} {locs : List Loc} {cells slots : Nat} {Q : State → Prop} {g : JFrame} (k : H.size ≤ s.heap.size + cells → W p l e R s m args below meth c H locs cells slots Q g) : W p l e R s m args below meth c H locs cells slots Q g := by
  intro T hT X
  have h := X.heapSize
  rw [hT] at h
  exact k h T hT X
theorem zz_fresh {H1 : Heap} {x : va_E} {qv : Nat} {A : Nat → Prop} (hA : A = zz_A G) (hP : va_P G.1 zz_cl (zz_w G E im ++ [(qv, x)]) H1) (hD : va_D A (zz_w G E im ++ [(qv, x)])) (h1 : E.1 ≤ 1000) (hs : H1.size ≤ G.2.2.1 + (E.1 + 1)) (h9 : E.1 < 1000) : qv = zz_b G E.1 := by
  subst hA
  have hlen : (zz_w G E im).length = E.1 := by simp [zz_w]
  have hq : (zz_w G E im ++ [(qv, x)])[E.1]? = some (qv, x) := by rw [List.getElem?_append_right (by omega), hlen, Nat.sub_self]; rfl
  have h2 : qv < H1.size := (hP E.1 _ hq).lt
  have h3 : G.2.2.1 ≤ qv := hD.2 E.1 _ hq
  rw [zz_b_lt h9]
  by_cases hk : qv - G.2.2.1 < E.1
  · exfalso
    have h4 : (zz_w G E im ++ [(qv, x)])[qv - G.2.2.1]? = some (zz_b G (qv - G.2.2.1), zz_c G (E.2.1 (qv - G.2.2.1)) (im (qv - G.2.2.1)) (E.2.2 (qv - G.2.2.1))) := by
      rw [List.getElem?_append_left (by omega)]
      exact zz_w_get hk
    have h5 := hD.1 _ _ _ _ h4 hq (by rw [zz_b_lt (by omega)]; show G.2.2.1 + (qv - G.2.2.1) = qv; omega)
    omega
  · omega
/-- the memory with one new cell of the kind kd -/
def zz_nE (E : ZE) (kd : Nat × Nat) : ZE := (E.1 + 1, fun k => if k = E.1 then kd else E.2.1 k, fun k => if k = E.1 then fun _ => none else E.2.2 k)
def zz_nI (E : ZE) (im : ZI) : ZI := fun k => if k = E.1 then fun _ => 0 else im k
theorem zz_nw_eq (kd : Nat × Nat) : zz_w G E im ++ [(zz_b G E.1, zz_c G kd (fun _ => 0) (fun _ => none))] = zz_w G (zz_nE E kd) (zz_nI E im) :=
  zz_w_push (E' := zz_nE E kd) (im' := zz_nI E im) rfl (fun k hk => if_neg (by omega)) (fun k hk => if_neg (by omega)) (fun k hk => if_neg (by omega)) (if_pos rfl) (if_pos rfl) (if_pos rfl)
theorem zz_new (S : zz_S G l own cc nL d n0 mcT msT isI rt Qf w) {idx c : Nat} (hc : c < 8) (hl1 : Cond.classLink own idx (zz_cn c) ∈ zz_t) (hl2 : Cond.instantiable (zz_cn c) (zz_n c) ∈ zz_t) (hl3 : Cond.initialized (zz_cn c) ∈ zz_t) (hE : E.1 < 1000) (hm : n0 ≤ E.1 → E.1 + 1 ≤ n0 + mcT) (hz : z + zz_n c ≤ msT) (hd : decode cc pc = .ok (.new idx, 3)) (hq : pc + 3 = q) (kk : w q L (.ref E.1 :: st) (z + zz_n c) (zz_nE E (0, c)) (zz_nI E im)) : w pc L st z E im := by
  subst hq
  obtain ⟨p, e, R, s, m, args, below, meth, c0, Q, ⟨hx, hb, hml, hown, hts⟩, hR, hI, hK, hsz, hret, rfl⟩ := S
  intro H locs ls h1 h2 h3 h4 h5 h6
  obtain ⟨c1, c2, c3, c4⟩ := zz_cls hc
  refine va_new hx hb hts c2 (zz_ty c) c3 hown (hts _ hl1) (hts _ hl2) (hts _ hl3) hK.1.1 h1.2 (zz_w_D h1.1) h5 (fun q hq => by show G.2.2.1 ≤ q; omega) c1 (fs := zz_fs G c (fun _ => 0) (fun _ => none)) (fun j hj => ?_) (by have := hm h2; omega) (by omega) hd (fun qv H1 hP1 hD1 hS1 => ?_)
  · unfold vp_V
    rw [List.getD_eq_getElem?_getD, zz_fs_get hj]
    have hall : ∀ c, c < 8 → ∀ j, j < zz_n c → defaultValue (zz_ty c j) = (if zz_r c j = true then .null else .int 0) := by decide +kernel
    rw [hall c hc j hj]
    simp only [zz_fv, Option.map_none, va_rf, Option.getD_some]
  · refine zz_Wsz (fun hsz1 => ?_)
    have hqv := zz_fresh rfl hP1 hD1 h1.1 (by omega) hE
    subst hqv
    have key := kk H1 locs ls ⟨by show E.1 + 1 ≤ 1000; omega, by rw [← zz_nw_eq]; exact hP1⟩ (by show n0 ≤ E.1 + 1; omega) (hm h2) hz hS1 h6
    rw [show (zz_nE E (0, c)).1 - n0 = E.1 - n0 + 1 by show E.1 + 1 - n0 = _; omega] at key
    exact key
theorem zz_newI (S : zz_S G l own cc nL d n0 mcT msT isI rt Qf w) {n : Int32} {N : Nat} (hl : Cond.arrayClass .int ∈ zz_t) (hn : ¬ n < 0) (hN : n.toNatClampNeg = N) (hby : N * componentBytes .int ≤ 536870912) (hE : E.1 < 1000) (hm : n0 ≤ E.1 → E.1 + 1 ≤ n0 + mcT) (hz : z + N ≤ msT) (hd : decode cc pc = .ok (.newarray .int, 2)) (hq : pc + 2 = q) (kk : w q L (.ref E.1 :: st) (z + N) (zz_nE E (1, N)) (zz_nI E im)) : w pc L (.int n :: st) z E im := by
  subst hq
  obtain ⟨p, e, R, s, m, args, below, meth, c0, Q, ⟨hx, hb, hml, hown, hts⟩, hR, hI, hK, hsz, hret, rfl⟩ := S
  intro H locs ls h1 h2 h3 h4 h5 h6
  refine va_newa (atype := .int) (ty := .int) hx hb (hts _ hl) rfl hK.1.1 h1.2 (zz_w_D h1.1) h5 (fun q hq => by show G.2.2.1 ≤ q; omega) (a0 := (N, .inl (fun _ => 0))) (fun _ => rfl) hn hN hby (by have := hm h2; omega) (by omega) hd (fun qv cA H1 hK1 hP1 hD1 hS1 => ?_)
  refine zz_Wsz (fun hsz1 => ?_)
  have hqv := zz_fresh rfl hP1 hD1 h1.1 (by omega) hE
  subst hqv
  have hcA : cA = G.2.1 1 := by
    have a1 := (hK1.2 8 (cA, .int) rfl).2
    have a2 := (hK1.2 1 (G.2.1 1, .int) rfl).2
    exact Option.some.inj ((show s.vm.findClass _ = some cA from a1).symm.trans (show s.vm.findClass _ = some (G.2.1 1) from a2))
  subst hcA
  have key := kk H1 locs ls ⟨by show E.1 + 1 ≤ 1000; omega, by rw [← zz_nw_eq]; exact hP1⟩ (by show n0 ≤ E.1 + 1; omega) (hm h2) hz hS1 h6
  rw [show (zz_nE E (1, N)).1 - n0 = E.1 - n0 + 1 by show E.1 + 1 - n0 = _; omega] at key
  exact key
theorem zz_newZ (S : zz_S G l own cc nL d n0 mcT msT isI rt Qf w) {n : Int32} {N : Nat} (hl : Cond.arrayClass .boolean ∈ zz_t) (hn : ¬ n < 0) (hN : n.toNatClampNeg = N) (hby : N * componentBytes .boolean ≤ 536870912) (hE : E.1 < 1000) (hm : n0 ≤ E.1 → E.1 + 1 ≤ n0 + mcT) (hz : z + N ≤ msT) (hd : decode cc pc = .ok (.newarray .boolean, 2)) (hq : pc + 2 = q) (kk : w q L (.ref E.1 :: st) (z + N) (zz_nE E (2, N)) (zz_nI E im)) : w pc L (.int n :: st) z E im := by
  subst hq
  obtain ⟨p, e, R, s, m, args, below, meth, c0, Q, ⟨hx, hb, hml, hown, hts⟩, hR, hI, hK, hsz, hret, rfl⟩ := S
  intro H locs ls h1 h2 h3 h4 h5 h6
  refine va_newa (atype := .boolean) (ty := .boolean) hx hb (hts _ hl) rfl hK.1.1 h1.2 (zz_w_D h1.1) h5 (fun q hq => by show G.2.2.1 ≤ q; omega) (a0 := (N, .inl (fun _ => 0))) (fun _ => rfl) hn hN hby (by have := hm h2; omega) (by omega) hd (fun qv cA H1 hK1 hP1 hD1 hS1 => ?_)
  refine zz_Wsz (fun hsz1 => ?_)
  have hqv := zz_fresh rfl hP1 hD1 h1.1 (by omega) hE
  subst hqv
  have hcA : cA = G.2.1 2 := by
    have a1 := (hK1.2 8 (cA, .boolean) rfl).2
    have a2 := (hK1.2 2 (G.2.1 2, .boolean) rfl).2
    exact Option.some.inj ((show s.vm.findClass _ = some cA from a1).symm.trans (show s.vm.findClass _ = some (G.2.1 2) from a2))
  subst hcA
  have key := kk H1 locs ls ⟨by show E.1 + 1 ≤ 1000; omega, by rw [← zz_nw_eq]; exact hP1⟩ (by show n0 ≤ E.1 + 1; omega) (hm h2) hz hS1 h6
  rw [show (zz_nE E (2, N)).1 - n0 = E.1 - n0 + 1 by show E.1 + 1 - n0 = _; omega] at key
  exact key
theorem zz_newC (S : zz_S G l own cc nL d n0 mcT msT isI rt Qf w) {n : Int32} {N : Nat} (hl : Cond.arrayClass .char ∈ zz_t) (hn : ¬ n < 0) (hN : n.toNatClampNeg = N) (hby : N * componentBytes .char ≤ 536870912) (hE : E.1 < 1000) (hm : n0 ≤ E.1 → E.1 + 1 ≤ n0 + mcT) (hz : z + N ≤ msT) (hd : decode cc pc = .ok (.newarray .char, 2)) (hq : pc + 2 = q) (kk : w q L (.ref E.1 :: st) (z + N) (zz_nE E (3, N)) (zz_nI E im)) : w pc L (.int n :: st) z E im := by
  subst hq
  obtain ⟨p, e, R, s, m, args, below, meth, c0, Q, ⟨hx, hb, hml, hown, hts⟩, hR, hI, hK, hsz, hret, rfl⟩ := S
  intro H locs ls h1 h2 h3 h4 h5 h6
  refine va_newa (atype := .char) (ty := .char) hx hb (hts _ hl) rfl hK.1.1 h1.2 (zz_w_D h1.1) h5 (fun q hq => by show G.2.2.1 ≤ q; omega) (a0 := (N, .inl (fun _ => 0))) (fun _ => rfl) hn hN hby (by have := hm h2; omega) (by omega) hd (fun qv cA H1 hK1 hP1 hD1 hS1 => ?_)
  refine zz_Wsz (fun hsz1 => ?_)
  have hqv := zz_fresh rfl hP1 hD1 h1.1 (by omega) hE
  subst hqv
  have hcA : cA = G.2.1 3 := by
    have a1 := (hK1.2 8 (cA, .char) rfl).2
    have a2 := (hK1.2 3 (G.2.1 3, .char) rfl).2
    exact Option.some.inj ((show s.vm.findClass _ = some cA from a1).symm.trans (show s.vm.findClass _ = some (G.2.1 3) from a2))
  subst hcA
  have key := kk H1 locs ls ⟨by show E.1 + 1 ≤ 1000; omega, by rw [← zz_nw_eq]; exact hP1⟩ (by show n0 ≤ E.1 + 1; omega) (hm h2) hz hS1 h6
  rw [show (zz_nE E (3, N)).1 - n0 = E.1 - n0 + 1 by show E.1 + 1 - n0 = _; omega] at key
  exact key
theorem zz_newW (S : zz_S G l own cc nL d n0 mcT msT isI rt Qf w) {idx : Nat} {n : Int32} {N : Nat} (hl : Cond.classLink own idx RX6 ∈ zz_t) (hn : ¬ n < 0) (hN : n.toNatClampNeg = N) (hby : N * 4 ≤ 536870912) (hE : E.1 < 1000) (hm : n0 ≤ E.1 → E.1 + 1 ≤ n0 + mcT) (hz : z + N ≤ msT) (hd : decode cc pc = .ok (.anewarray idx, 3)) (hq : pc + 3 = q) (kk : w q L (.ref E.1 :: st) (z + N) (zz_nE E (4, N)) (zz_nI E im)) : w pc L (.int n :: st) z E im := by
  subst hq
  obtain ⟨p, e, R, s, m, args, below, meth, c0, Q, ⟨hx, hb, hml, hown, hts⟩, hR, hI, hK, hsz, hret, rfl⟩ := S
  intro H locs ls h1 h2 h3 h4 h5 h6
  refine va_newq hx hb hown (hts _ hl) hK.1.2.2.1 hK.1.1 h1.2 (zz_w_D h1.1) h5 (fun q hq => by show G.2.2.1 ≤ q; omega) hn hN hby (by have := hm h2; omega) (by omega) hd (fun qv cA H1 hK1 hP1 hD1 hS1 => ?_)
  refine zz_Wsz (fun hsz1 => ?_)
  have hqv := zz_fresh rfl hP1 hD1 h1.1 (by omega) hE
  subst hqv
  have hcA : cA = G.2.1 4 := by
    obtain ⟨_, _, _, _, _, a1⟩ := (hK1.2 8 (cA, .object RX6) rfl).2
    obtain ⟨_, _, _, _, _, a2⟩ := (hK1.2 4 (G.2.1 4, .object RX6) rfl).2
    exact Option.some.inj (a1.symm.trans a2)
  subst hcA
  have key := kk H1 locs ls ⟨by show E.1 + 1 ≤ 1000; omega, by rw [← zz_nw_eq]; exact hP1⟩ (by show n0 ≤ E.1 + 1; omega) (hm h2) hz hS1 h6
  rw [show (zz_nE E (4, N)).1 - n0 = E.1 - n0 + 1 by show E.1 + 1 - n0 = _; omega] at key
  exact key
theorem zz_newK (S : zz_S G l own cc nL d n0 mcT msT isI rt Qf w) {idx : Nat} {n : Int32} {N : Nat} (hl : Cond.classLink own idx RX0 ∈ zz_t) (hn : ¬ n < 0) (hN : n.toNatClampNeg = N) (hby : N * 4 ≤ 536870912) (hE : E.1 < 1000) (hm : n0 ≤ E.1 → E.1 + 1 ≤ n0 + mcT) (hz : z + N ≤ msT) (hd : decode cc pc = .ok (.anewarray idx, 3)) (hq : pc + 3 = q) (kk : w q L (.ref E.1 :: st) (z + N) (zz_nE E (5, N)) (zz_nI E im)) : w pc L (.int n :: st) z E im := by
  subst hq
  obtain ⟨p, e, R, s, m, args, below, meth, c0, Q, ⟨hx, hb, hml, hown, hts⟩, hR, hI, hK, hsz, hret, rfl⟩ := S
  intro H locs ls h1 h2 h3 h4 h5 h6
  refine va_newq hx hb hown (hts _ hl) hK.1.2.2.2.1 hK.1.1 h1.2 (zz_w_D h1.1) h5 (fun q hq => by show G.2.2.1 ≤ q; omega) hn hN hby (by have := hm h2; omega) (by omega) hd (fun qv cA H1 hK1 hP1 hD1 hS1 => ?_)
  refine zz_Wsz (fun hsz1 => ?_)
  have hqv := zz_fresh rfl hP1 hD1 h1.1 (by omega) hE
  subst hqv
  have hcA : cA = G.2.1 5 := by
    obtain ⟨_, _, _, _, _, a1⟩ := (hK1.2 8 (cA, .object RX0) rfl).2
    obtain ⟨_, _, _, _, _, a2⟩ := (hK1.2 5 (G.2.1 5, .object RX0) rfl).2
    exact Option.some.inj (a1.symm.trans a2)
  subst hcA
  have key := kk H1 locs ls ⟨by show E.1 + 1 ≤ 1000; omega, by rw [← zz_nw_eq]; exact hP1⟩ (by show n0 ≤ E.1 + 1; omega) (hm h2) hz hS1 h6
  rw [show (zz_nE E (5, N)).1 - n0 = E.1 - n0 + 1 by show E.1 + 1 - n0 = _; omega] at key
  exact key
theorem zz_newP (S : zz_S G l own cc nL d n0 mcT msT isI rt Qf w) {idx : Nat} {n : Int32} {N : Nat} (hl : Cond.classLink own idx RX4 ∈ zz_t) (hn : ¬ n < 0) (hN : n.toNatClampNeg = N) (hby : N * 4 ≤ 536870912) (hE : E.1 < 1000) (hm : n0 ≤ E.1 → E.1 + 1 ≤ n0 + mcT) (hz : z + N ≤ msT) (hd : decode cc pc = .ok (.anewarray idx, 3)) (hq : pc + 3 = q) (kk : w q L (.ref E.1 :: st) (z + N) (zz_nE E (6, N)) (zz_nI E im)) : w pc L (.int n :: st) z E im := by
  subst hq
  obtain ⟨p, e, R, s, m, args, below, meth, c0, Q, ⟨hx, hb, hml, hown, hts⟩, hR, hI, hK, hsz, hret, rfl⟩ := S
  intro H locs ls h1 h2 h3 h4 h5 h6
  refine va_newq hx hb hown (hts _ hl) hK.1.2.2.2.2.1 hK.1.1 h1.2 (zz_w_D h1.1) h5 (fun q hq => by show G.2.2.1 ≤ q; omega) hn hN hby (by have := hm h2; omega) (by omega) hd (fun qv cA H1 hK1 hP1 hD1 hS1 => ?_)
  refine zz_Wsz (fun hsz1 => ?_)
  have hqv := zz_fresh rfl hP1 hD1 h1.1 (by omega) hE
  subst hqv
  have hcA : cA = G.2.1 6 := by
    obtain ⟨_, _, _, _, _, a1⟩ := (hK1.2 8 (cA, .object RX4) rfl).2
    obtain ⟨_, _, _, _, _, a2⟩ := (hK1.2 6 (G.2.1 6, .object RX4) rfl).2
    exact Option.some.inj (a1.symm.trans a2)
  subst hcA
  have key := kk H1 locs ls ⟨by show E.1 + 1 ≤ 1000; omega, by rw [← zz_nw_eq]; exact hP1⟩ (by show n0 ≤ E.1 + 1; omega) (hm h2) hz hS1 h6
  rw [show (zz_nE E (6, N)).1 - n0 = E.1 - n0 + 1 by show E.1 + 1 - n0 = _; omega] at key
  exact key
theorem zz_newT (S : zz_S G l own cc nL d n0 mcT msT isI rt Qf w) {idx : Nat} {n : Int32} {N : Nat} (hl : Cond.classLink own idx RX5 ∈ zz_t) (hn : ¬ n < 0) (hN : n.toNatClampNeg = N) (hby : N * 4 ≤ 536870912) (hE : E.1 < 1000) (hm : n0 ≤ E.1 → E.1 + 1 ≤ n0 + mcT) (hz : z + N ≤ msT) (hd : decode cc pc = .ok (.anewarray idx, 3)) (hq : pc + 3 = q) (kk : w q L (.ref E.1 :: st) (z + N) (zz_nE E (7, N)) (zz_nI E im)) : w pc L (.int n :: st) z E im := by
  subst hq
  obtain ⟨p, e, R, s, m, args, below, meth, c0, Q, ⟨hx, hb, hml, hown, hts⟩, hR, hI, hK, hsz, hret, rfl⟩ := S
  intro H locs ls h1 h2 h3 h4 h5 h6
  refine va_newq hx hb hown (hts _ hl) hK.1.2.2.2.2.2 hK.1.1 h1.2 (zz_w_D h1.1) h5 (fun q hq => by show G.2.2.1 ≤ q; omega) hn hN hby (by have := hm h2; omega) (by omega) hd (fun qv cA H1 hK1 hP1 hD1 hS1 => ?_)
  refine zz_Wsz (fun hsz1 => ?_)
  have hqv := zz_fresh rfl hP1 hD1 h1.1 (by omega) hE
  subst hqv
  have hcA : cA = G.2.1 7 := by
    obtain ⟨_, _, _, _, _, a1⟩ := (hK1.2 8 (cA, .object RX5) rfl).2
    obtain ⟨_, _, _, _, _, a2⟩ := (hK1.2 7 (G.2.1 7, .object RX5) rfl).2
    exact Option.some.inj (a1.symm.trans a2)
  subst hcA
  have key := kk H1 locs ls ⟨by show E.1 + 1 ≤ 1000; omega, by rw [← zz_nw_eq]; exact hP1⟩ (by show n0 ≤ E.1 + 1; omega) (hm h2) hz hS1 h6
  rw [show (zz_nE E (7, N)).1 - n0 = E.1 - n0 + 1 by show E.1 + 1 - n0 = _; omega] at key
  exact key
end ZH
