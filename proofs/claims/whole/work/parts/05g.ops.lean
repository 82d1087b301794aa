/-! THE REFERENCE: what an action asks first, and what it does -/
def op_cWall (s : ZSt) : Int32 := if s 0 = 6 then -100003 else 0
def op_wall (s : ZSt) (n : Nat) : ZSt := upd (upd (upd (upd s (20 + 3 * n) 0) (20 + 3 * n + 1) (-100009)) (20 + 3 * n + 2) (-100009)) 0 (nI n + 1)
def op_cMeas (s : ZSt) (x v : Int32) : Int32 := if (x ≥ 0 ∧ x ≤ s 0 - 1) ∧ v ≥ -60 ∧ v ≤ 60 then 0 else -100001
def op_meas (s : ZSt) (k : Nat) (v : Int32) : ZSt := upd (upd (upd s (20 + 3 * k) (if s (20 + 3 * k) = 2 then 2 else s (20 + 3 * k) + 1)) (20 + 3 * k + 2) (s (20 + 3 * k + 1))) (20 + 3 * k + 1) v
def op_rMeas (s : ZSt) (k : Nat) (v : Int32) : Int32 := if sp_wd (op_meas s k v) k = -100009 then 0 else 1
def op_cAsk (s : ZSt) (la x sz lo : Int32) : Int32 := if (la ≥ 10 ∧ la ≤ 70) ∧ (x = -1 ∨ x ≥ 0 ∧ x ≤ s 0 - 1) ∧ (sz ≥ 10 ∧ sz ≤ 60) ∧ lo ≥ -60 ∧ lo ≤ 60 then (if s 1 = 10 then -100003 else 0) else -100001
def op_ask (s : ZSt) (c : Nat) (la x sz lo : Int32) : ZSt := upd (upd (upd (upd (upd (upd (upd (upd (upd s 1 (nI c + 1)) (38 + 8 * c + 0) la) (38 + 8 * c + 1) x) (38 + 8 * c + 2) sz) (38 + 8 * c + 3) lo) (38 + 8 * c + 4) 0) (38 + 8 * c + 5) 0) (38 + 8 * c + 6) (-100009)) (38 + 8 * c + 7) 0
def op_cSt (s : ZSt) (x st : Int32) : Int32 := if x ≥ 0 ∧ x ≤ s 1 - 1 then (if s (38 + 8 * x.toNatClampNeg + 4) = st then 0 else -100002) else -100001
def op_dec (s : ZSt) (c : Nat) : ZSt := if sp_re s c = 0 then upd (upd s (38 + 8 * c + 5) (sp_de s c)) (38 + 8 * c + 4) 1 else upd (upd s (38 + 8 * c + 7) (sp_re s c)) (38 + 8 * c + 4) 4
def op_again (s : ZSt) (c : Nat) : ZSt := upd s (38 + 8 * c + 4) 0
/-- the number of commissions in a state -/
def op_inG (s : ZSt) (st : Int32) : Nat → Nat → Int32 → Int32
  | 0, _, m => m
  | n + 1, c, m => op_inG s st n (c + 1) (m + (if s (38 + 8 * c + 4) = st then 1 else 0))
def op_in (s : ZSt) (nc : Nat) (st : Int32) : Int32 := op_inG s st nc 0 0
def op_del (s : ZSt) (c : Nat) : ZSt := upd s (38 + 8 * c + 4) 3
theorem zs_ne0 {p : Prop} [Decidable p] (h : (if p then (1 : Int32) else 0) ≠ 0) : p := Classical.not_not.mp (fun q => h (zs_b1.mpr q))
section ZOPS
variable {G : ZG} {l : Launch}
theorem co_wallCode (im : ZI) : zz_OP G l 0 mX8_wallCode [.ref 470] zE im (op_cWall (im 471)) := by
  refine zz_intro (isI := false) (by decide) rfl (Nat.le_of_ble_eq_true rfl) (fun h => by cases h) (fun w S => ?_)
  refine zz_aload_0 S dX8_wallCode_0 (q := 1) rfl ?_
  refine zz_getR S fX8_7 rfl (Nat.le_of_ble_eq_true rfl) rfl rfl dX8_wallCode_1 (q := 4) rfl ?_
  refine zz_iconst S (v := 0) rfl dX8_wallCode_4 (q := 5) rfl ?_
  refine zz_iaN S (j := 0) (Nat.le_of_ble_eq_true rfl) rfl (Nat.le_of_ble_eq_true rfl) rfl (Nat.le_of_ble_eq_true rfl) dX8_wallCode_5 (q := 6) rfl ?_
  refine zz_bipush S (v := 6) rfl dX8_wallCode_6 (q := 8) rfl ?_
  refine zz_icmp_ne S dX8_wallCode_8 (t := 16) (by decide) (q := 11) rfl (fun h1 => ?_) (fun h1 => ?_)
  · refine zz_iconst S (v := 0) rfl dX8_wallCode_16 (q := 17) rfl ?_
    refine zz_iret S dX8_wallCode_17 ⟨rfl, _, rfl, rfl, ?_⟩
    exact ⟨by simp [op_cWall, h1], rfl⟩
  · refine zz_ldc S (v := (-100003)) kX8_104 dX8_wallCode_11 (q := 13) rfl ?_
    refine zz_goto S dX8_wallCode_13 (t := 17) (by decide) ?_
    refine zz_iret S dX8_wallCode_17 ⟨rfl, _, rfl, rfl, ?_⟩
    exact ⟨by simp [op_cWall, h1], rfl⟩
theorem co_wallNow (im : ZI) (n : Nat) (hn : n < 6) (h0 : im 471 0 = nI n) : zz_OI G l 0 mX8_wallNow [.ref 470] zE im (fun r im' => r = nI n ∧ im' 471 = op_wall (im 471) n ∧ zz_keep [471, 476, 477, 478] im im') := by
  have e0 : 20 + 3 * im 471 0 = nI (20 + 3 * n) := by
    rw [h0]
    show nI 20 + nI 3 * nI n = _
    rw [pk_mul, nI_add]
  have e1 : 20 + 3 * im 471 0 + 1 = nI (20 + 3 * n + 1) := by rw [e0]; exact nI_1 _
  have e2 : 20 + 3 * im 471 0 + 2 = nI (20 + 3 * n + 2) := by rw [e0]; exact nI_add _ 2
  refine zz_intro (isI := false) (by decide) rfl (Nat.le_of_ble_eq_true rfl) (fun h => by cases h) (fun w S => ?_)
  refine zz_bipush S (v := 20) rfl dX8_wallNow_0 (q := 2) rfl ?_
  refine zz_iconst S (v := 3) rfl dX8_wallNow_2 (q := 3) rfl ?_
  refine zz_aload_0 S dX8_wallNow_3 (q := 4) rfl ?_
  refine zz_getR S fX8_7 rfl (Nat.le_of_ble_eq_true rfl) rfl rfl dX8_wallNow_4 (q := 7) rfl ?_
  refine zz_iconst S (v := 0) rfl dX8_wallNow_7 (q := 8) rfl ?_
  refine zz_iaN S (j := 0) (Nat.le_of_ble_eq_true rfl) rfl (Nat.le_of_ble_eq_true rfl) rfl (Nat.le_of_ble_eq_true rfl) dX8_wallNow_8 (q := 9) rfl ?_
  refine zz_imul S dX8_wallNow_9 (q := 10) rfl ?_
  refine zz_iadd S dX8_wallNow_10 (q := 11) rfl ?_
  refine zz_istore_1 S rfl dX8_wallNow_11 (q := 12) rfl ?_
  refine zz_aload_0 S dX8_wallNow_12 (q := 13) rfl ?_
  refine zz_getR S fX8_7 rfl (Nat.le_of_ble_eq_true rfl) rfl rfl dX8_wallNow_13 (q := 16) rfl ?_
  refine zz_iload_1 S dX8_wallNow_16 (q := 17) rfl ?_
  refine zz_iconst S (v := 0) rfl dX8_wallNow_17 (q := 18) rfl ?_
  refine zz_iaS S (j := 20 + 3 * n) (Nat.le_of_ble_eq_true rfl) rfl (Nat.le_of_ble_eq_true rfl) e0 (by omega) dX8_wallNow_18 (q := 19) rfl ?_
  refine zz_aload_0 S dX8_wallNow_19 (q := 20) rfl ?_
  refine zz_getR S fX8_7 rfl (Nat.le_of_ble_eq_true rfl) rfl rfl dX8_wallNow_20 (q := 23) rfl ?_
  refine zz_iload_1 S dX8_wallNow_23 (q := 24) rfl ?_
  refine zz_iconst S (v := 1) rfl dX8_wallNow_24 (q := 25) rfl ?_
  refine zz_iadd S dX8_wallNow_25 (q := 26) rfl ?_
  refine zz_ldc S (v := (-100009)) kX8_83 dX8_wallNow_26 (q := 28) rfl ?_
  refine zz_iaS S (j := 20 + 3 * n + 1) (Nat.le_of_ble_eq_true rfl) rfl (Nat.le_of_ble_eq_true rfl) e1 (by omega) dX8_wallNow_28 (q := 29) rfl ?_
  refine zz_aload_0 S dX8_wallNow_29 (q := 30) rfl ?_
  refine zz_getR S fX8_7 rfl (Nat.le_of_ble_eq_true rfl) rfl rfl dX8_wallNow_30 (q := 33) rfl ?_
  refine zz_iload_1 S dX8_wallNow_33 (q := 34) rfl ?_
  refine zz_iconst S (v := 2) rfl dX8_wallNow_34 (q := 35) rfl ?_
  refine zz_iadd S dX8_wallNow_35 (q := 36) rfl ?_
  refine zz_ldc S (v := (-100009)) kX8_83 dX8_wallNow_36 (q := 38) rfl ?_
  refine zz_iaS S (j := 20 + 3 * n + 2) (Nat.le_of_ble_eq_true rfl) rfl (Nat.le_of_ble_eq_true rfl) e2 (by omega) dX8_wallNow_38 (q := 39) rfl ?_
  refine zz_aload_0 S dX8_wallNow_39 (q := 40) rfl ?_
  refine zz_getR S fX8_7 rfl (Nat.le_of_ble_eq_true rfl) rfl rfl dX8_wallNow_40 (q := 43) rfl ?_
  refine zz_iconst S (v := 0) rfl dX8_wallNow_43 (q := 44) rfl ?_
  refine zz_dup2 S rfl rfl dX8_wallNow_44 (q := 45) rfl ?_
  refine zz_iaN S (j := 0) (Nat.le_of_ble_eq_true rfl) rfl (Nat.le_of_ble_eq_true rfl) rfl (Nat.le_of_ble_eq_true rfl) dX8_wallNow_45 (q := 46) rfl ?_
  refine zz_iconst S (v := 1) rfl dX8_wallNow_46 (q := 47) rfl ?_
  refine zz_iadd S dX8_wallNow_47 (q := 48) rfl ?_
  refine zz_iaS S (j := 0) (Nat.le_of_ble_eq_true rfl) rfl (Nat.le_of_ble_eq_true rfl) rfl (Nat.le_of_ble_eq_true rfl) dX8_wallNow_48 (q := 49) rfl ?_
  refine zz_aload_0 S dX8_wallNow_49 (q := 50) rfl ?_
  refine zz_getR S fX8_7 rfl (Nat.le_of_ble_eq_true rfl) rfl rfl dX8_wallNow_50 (q := 53) rfl ?_
  refine zz_iconst S (v := 0) rfl dX8_wallNow_53 (q := 54) rfl ?_
  refine zz_iaN S (j := 0) (Nat.le_of_ble_eq_true rfl) rfl (Nat.le_of_ble_eq_true rfl) rfl (Nat.le_of_ble_eq_true rfl) dX8_wallNow_54 (q := 55) rfl ?_
  refine zz_iconst S (v := 1) rfl dX8_wallNow_55 (q := 56) rfl ?_
  refine zz_isub S dX8_wallNow_56 (q := 57) rfl ?_
  -- at 57: ireturn 
  have e3 : (zz_u (zz_u (zz_u im 471 (20 + 3 * n) 0) 471 (20 + 3 * n + 1) (-100009)) 471 (20 + 3 * n + 2) (-100009)) 471 0 = nI n := by
    rw [zz_u_n _ _ (Or.inr (by omega)), zz_u_n _ _ (Or.inr (by omega)), zz_u_n _ _ (Or.inr (by omega)), h0]
  rw [e3]
  refine zz_iret S dX8_wallNow_57 ⟨rfl, _, rfl, rfl, ?_⟩
  refine ⟨?_, ?_, (((zz_keep.rf.u (by decide)).u (by decide)).u (by decide)).u (by decide)⟩
  · rw [zz_u_e, nI_1]
    exact nI_pred n
  · rw [zz_u_row, zz_u_row, zz_u_row, zz_u_row]
    rfl
theorem co_measureCode (x v : Int32) (im : ZI) : zz_OP G l 2 mX8_measureCode [.ref 470, .int x, .int v] zE im (op_cMeas (im 471) x v) := by
  refine zz_intro (isI := false) (by decide) rfl (Nat.le_of_ble_eq_true rfl) (fun h => by cases h) (fun w S => ?_)
  refine zz_aload_0 S dX8_measureCode_0 (q := 1) rfl ?_
  refine zz_iload_1 S dX8_measureCode_1 (q := 2) rfl ?_
  refine zz_virtP S yy_X8_isWall lX8_114 (ci := 8) (by decide) rfl (co_isWall x im) rfl (Nat.le_of_ble_eq_true rfl) (Nat.le_of_ble_eq_true rfl) rfl (Nat.le_of_ble_eq_true rfl) rfl dX8_measureCode_2 (q := 5) rfl ?_
  refine zz_if_eq S dX8_measureCode_5 (t := 23) (by decide) (q := 8) rfl (fun h1 => ?_) (fun h1 => ?_)
  · refine zz_ldc S (v := (-100001)) kX8_94 dX8_measureCode_23 (q := 25) rfl ?_
    refine zz_iret S dX8_measureCode_25 ⟨rfl, _, rfl, rfl, ?_⟩
    first | exact ⟨by rw [op_cMeas, if_neg (fun q => zs_b1.mp h1 q.1)], rfl⟩ | exact ⟨by rw [op_cMeas, if_neg (fun q => zs_b1.mp h2 q.2)], rfl⟩ | exact ⟨by rw [op_cMeas, if_pos ⟨zs_ne0 h1, zs_ne0 h2⟩], rfl⟩
  · refine zz_iload_2 S dX8_measureCode_8 (q := 9) rfl ?_
    refine zz_bipush S (v := (-60)) rfl dX8_measureCode_9 (q := 11) rfl ?_
    refine zz_bipush S (v := 60) rfl dX8_measureCode_11 (q := 13) rfl ?_
    refine zz_statP S yy_X8_in lX8_90 (co_in G l v (-60) 60 zE im) rfl (Nat.le_of_ble_eq_true rfl) (Nat.le_of_ble_eq_true rfl) rfl dX8_measureCode_13 (q := 16) rfl ?_
    refine zz_if_eq S dX8_measureCode_16 (t := 23) (by decide) (q := 19) rfl (fun h2 => ?_) (fun h2 => ?_)
    · refine zz_ldc S (v := (-100001)) kX8_94 dX8_measureCode_23 (q := 25) rfl ?_
      refine zz_iret S dX8_measureCode_25 ⟨rfl, _, rfl, rfl, ?_⟩
      first | exact ⟨by rw [op_cMeas, if_neg (fun q => zs_b1.mp h1 q.1)], rfl⟩ | exact ⟨by rw [op_cMeas, if_neg (fun q => zs_b1.mp h2 q.2)], rfl⟩ | exact ⟨by rw [op_cMeas, if_pos ⟨zs_ne0 h1, zs_ne0 h2⟩], rfl⟩
    · refine zz_iconst S (v := 0) rfl dX8_measureCode_19 (q := 20) rfl ?_
      refine zz_goto S dX8_measureCode_20 (t := 25) (by decide) ?_
      refine zz_iret S dX8_measureCode_25 ⟨rfl, _, rfl, rfl, ?_⟩
      first | exact ⟨by rw [op_cMeas, if_neg (fun q => zs_b1.mp h1 q.1)], rfl⟩ | exact ⟨by rw [op_cMeas, if_neg (fun q => zs_b1.mp h2 q.2)], rfl⟩ | exact ⟨by rw [op_cMeas, if_pos ⟨zs_ne0 h1, zs_ne0 h2⟩], rfl⟩
theorem co_measureNow (x v : Int32) (k : Nat) (im : ZI) (hx : x = nI k) (hk : k < 6) : zz_OI G l 2 mX8_measureNow [.ref 470, .int x, .int v] zE im (fun r im' => r = op_rMeas (im 471) k v ∧ im' 471 = op_meas (im 471) k v ∧ zz_keep [471, 476, 477, 478] im im') := by
  have e0 : 20 + 3 * x = nI (20 + 3 * k) := by
    rw [hx]
    show nI 20 + nI 3 * nI k = _
    rw [pk_mul, nI_add]
  have e1 : 20 + 3 * x + 1 = nI (20 + 3 * k + 1) := by rw [e0]; exact nI_1 _
  have e2 : 20 + 3 * x + 2 = nI (20 + 3 * k + 2) := by rw [e0]; exact nI_add _ 2
  -- behind the first store
  have fin : ∀ (w : Nat → ZL → List Value → Nat → ZE → ZI → Prop), zz_S G l RX8 cX8_measureNow 4 2 zE.1 0 0 false (some .int) (fun v' E' im' => E'.1 = zE.1 + 0 ∧ ∃ r, v' = some (.int r) ∧ E' = zE ∧ (r = op_rMeas (im 471) k v ∧ im' 471 = op_meas (im 471) k v ∧ zz_keep [471, 476, 477, 478] im im')) w →
      ∀ a : Int32, a = (if im 471 (20 + 3 * k) = 2 then 2 else im 471 (20 + 3 * k) + 1) → w 35 [some (.ref 470), some (.int x), some (.int v), some (.int (20 + 3 * x))] [] 0 zE (zz_u im 471 (20 + 3 * k) a) := by
    intro w S a ha
    have e3 : zz_u im 471 (20 + 3 * k) a 471 (20 + 3 * k + 1) = im 471 (20 + 3 * k + 1) := zz_u_n _ _ (Or.inr (by omega))
    refine zz_aload_0 S dX8_measureNow_35 (q := 36) rfl ?_
    refine zz_getR S fX8_7 rfl (Nat.le_of_ble_eq_true rfl) rfl rfl dX8_measureNow_36 (q := 39) rfl ?_
    refine zz_iload_3 S dX8_measureNow_39 (q := 40) rfl ?_
    refine zz_iconst S (v := 2) rfl dX8_measureNow_40 (q := 41) rfl ?_
    refine zz_iadd S dX8_measureNow_41 (q := 42) rfl ?_
    refine zz_aload_0 S dX8_measureNow_42 (q := 43) rfl ?_
    refine zz_getR S fX8_7 rfl (Nat.le_of_ble_eq_true rfl) rfl rfl dX8_measureNow_43 (q := 46) rfl ?_
    refine zz_iload_3 S dX8_measureNow_46 (q := 47) rfl ?_
    refine zz_iconst S (v := 1) rfl dX8_measureNow_47 (q := 48) rfl ?_
    refine zz_iadd S dX8_measureNow_48 (q := 49) rfl ?_
    refine zz_iaN S (j := 20 + 3 * k + 1) (Nat.le_of_ble_eq_true rfl) rfl (Nat.le_of_ble_eq_true rfl) e1 (by omega) dX8_measureNow_49 (q := 50) rfl ?_
    refine zz_iaS S (j := 20 + 3 * k + 2) (Nat.le_of_ble_eq_true rfl) rfl (Nat.le_of_ble_eq_true rfl) e2 (by omega) dX8_measureNow_50 (q := 51) rfl ?_
    refine zz_aload_0 S dX8_measureNow_51 (q := 52) rfl ?_
    refine zz_getR S fX8_7 rfl (Nat.le_of_ble_eq_true rfl) rfl rfl dX8_measureNow_52 (q := 55) rfl ?_
    refine zz_iload_3 S dX8_measureNow_55 (q := 56) rfl ?_
    refine zz_iconst S (v := 1) rfl dX8_measureNow_56 (q := 57) rfl ?_
    refine zz_iadd S dX8_measureNow_57 (q := 58) rfl ?_
    refine zz_iload_2 S dX8_measureNow_58 (q := 59) rfl ?_
    refine zz_iaS S (j := 20 + 3 * k + 1) (Nat.le_of_ble_eq_true rfl) rfl (Nat.le_of_ble_eq_true rfl) e1 (by omega) dX8_measureNow_59 (q := 60) rfl ?_
    refine zz_aload_0 S dX8_measureNow_60 (q := 61) rfl ?_
    refine zz_iload_1 S dX8_measureNow_61 (q := 62) rfl ?_
    -- at 62: invokevirtual 117
    rw [e3]
    have e4 : (zz_u (zz_u (zz_u im 471 (20 + 3 * k) a) 471 (20 + 3 * k + 2) (im 471 (20 + 3 * k + 1))) 471 (20 + 3 * k + 1) v) 471 = op_meas (im 471) k v := by
      rw [zz_u_row, zz_u_row, zz_u_row, ha]
      rfl
    have e5 : zz_keep [471, 476, 477, 478] im (zz_u (zz_u (zz_u im 471 (20 + 3 * k) a) 471 (20 + 3 * k + 2) (im 471 (20 + 3 * k + 1))) 471 (20 + 3 * k + 1) v) := ((zz_keep.rf.u (by decide)).u (by decide)).u (by decide)
    generalize (zz_u (zz_u (zz_u im 471 (20 + 3 * k) a) 471 (20 + 3 * k + 2) (im 471 (20 + 3 * k + 1))) 471 (20 + 3 * k + 1) v) = im2 at e4 e5 ⊢
    refine zz_virtP S yy_X8_declinationOfWall lX8_117 (ci := 8) (by decide) rfl (co_declinationOfWall x k im2 hx hk) rfl (Nat.le_of_ble_eq_true rfl) (Nat.le_of_ble_eq_true rfl) rfl (Nat.le_of_ble_eq_true rfl) rfl dX8_measureNow_62 (q := 65) rfl ?_
    refine zz_ldc S (v := (-100009)) kX8_83 dX8_measureNow_65 (q := 67) rfl ?_
    refine zz_icmp_ne S dX8_measureNow_67 (t := 74) (by decide) (q := 70) rfl (fun h1 => ?_) (fun h1 => ?_)
    · refine zz_iconst S (v := 1) rfl dX8_measureNow_74 (q := 75) rfl ?_
      refine zz_iret S dX8_measureNow_75 ⟨rfl, _, rfl, rfl, ?_⟩
      rw [e4] at h1
      first | exact ⟨by rw [op_rMeas, if_pos h1], e4, e5⟩ | exact ⟨by rw [op_rMeas, if_neg h1], e4, e5⟩
    · refine zz_iconst S (v := 0) rfl dX8_measureNow_70 (q := 71) rfl ?_
      refine zz_goto S dX8_measureNow_71 (t := 75) (by decide) ?_
      refine zz_iret S dX8_measureNow_75 ⟨rfl, _, rfl, rfl, ?_⟩
      rw [e4] at h1
      first | exact ⟨by rw [op_rMeas, if_pos h1], e4, e5⟩ | exact ⟨by rw [op_rMeas, if_neg h1], e4, e5⟩
  refine zz_intro (isI := false) (by decide) rfl (Nat.le_of_ble_eq_true rfl) (fun h => by cases h) (fun w S => ?_)
  refine zz_bipush S (v := 20) rfl dX8_measureNow_0 (q := 2) rfl ?_
  refine zz_iconst S (v := 3) rfl dX8_measureNow_2 (q := 3) rfl ?_
  refine zz_iload_1 S dX8_measureNow_3 (q := 4) rfl ?_
  refine zz_imul S dX8_measureNow_4 (q := 5) rfl ?_
  refine zz_iadd S dX8_measureNow_5 (q := 6) rfl ?_
  refine zz_istore_3 S rfl dX8_measureNow_6 (q := 7) rfl ?_
  refine zz_aload_0 S dX8_measureNow_7 (q := 8) rfl ?_
  refine zz_getR S fX8_7 rfl (Nat.le_of_ble_eq_true rfl) rfl rfl dX8_measureNow_8 (q := 11) rfl ?_
  refine zz_iload_3 S dX8_measureNow_11 (q := 12) rfl ?_
  refine zz_aload_0 S dX8_measureNow_12 (q := 13) rfl ?_
  refine zz_getR S fX8_7 rfl (Nat.le_of_ble_eq_true rfl) rfl rfl dX8_measureNow_13 (q := 16) rfl ?_
  refine zz_iload_3 S dX8_measureNow_16 (q := 17) rfl ?_
  refine zz_iaN S (j := 20 + 3 * k) (Nat.le_of_ble_eq_true rfl) rfl (Nat.le_of_ble_eq_true rfl) e0 (by omega) dX8_measureNow_17 (q := 18) rfl ?_
  refine zz_iconst S (v := 2) rfl dX8_measureNow_18 (q := 19) rfl ?_
  refine zz_icmp_ne S dX8_measureNow_19 (t := 26) (by decide) (q := 22) rfl (fun h1 => ?_) (fun h1 => ?_)
  · refine zz_aload_0 S dX8_measureNow_26 (q := 27) rfl ?_
    refine zz_getR S fX8_7 rfl (Nat.le_of_ble_eq_true rfl) rfl rfl dX8_measureNow_27 (q := 30) rfl ?_
    refine zz_iload_3 S dX8_measureNow_30 (q := 31) rfl ?_
    refine zz_iaN S (j := 20 + 3 * k) (Nat.le_of_ble_eq_true rfl) rfl (Nat.le_of_ble_eq_true rfl) e0 (by omega) dX8_measureNow_31 (q := 32) rfl ?_
    refine zz_iconst S (v := 1) rfl dX8_measureNow_32 (q := 33) rfl ?_
    refine zz_iadd S dX8_measureNow_33 (q := 34) rfl ?_
    refine zz_iaS S (j := 20 + 3 * k) (Nat.le_of_ble_eq_true rfl) rfl (Nat.le_of_ble_eq_true rfl) e0 (by omega) dX8_measureNow_34 (q := 35) rfl ?_
    first | exact fin w S _ (by rw [if_pos h1]) | exact fin w S _ (by rw [if_neg h1])
  · refine zz_iconst S (v := 2) rfl dX8_measureNow_22 (q := 23) rfl ?_
    refine zz_goto S dX8_measureNow_23 (t := 34) (by decide) ?_
    refine zz_iaS S (j := 20 + 3 * k) (Nat.le_of_ble_eq_true rfl) rfl (Nat.le_of_ble_eq_true rfl) e0 (by omega) dX8_measureNow_34 (q := 35) rfl ?_
    first | exact fin w S _ (by rw [if_pos h1]) | exact fin w S _ (by rw [if_neg h1])
theorem co_askCode (la x sz lo : Int32) (im : ZI) : zz_OP G l 2 mX8_askCode [.ref 470, .int la, .int x, .int sz, .int lo] zE im (op_cAsk (im 471) la x sz lo) := by
  have good : (la ≥ 10 ∧ la ≤ 70) → (x = -1 ∨ x ≥ 0 ∧ x ≤ im 471 0 - 1) → (sz ≥ 10 ∧ sz ≤ 60) → (lo ≥ -60 ∧ lo ≤ 60) → op_cAsk (im 471) la x sz lo = (if im 471 1 = 10 then -100003 else 0) := fun a b c d => by rw [op_cAsk, if_pos ⟨a, b, c, d⟩]
  refine zz_intro (isI := false) (by decide) rfl (Nat.le_of_ble_eq_true rfl) (fun h => by cases h) (fun w S => ?_)
  refine zz_iload_1 S dX8_askCode_0 (q := 1) rfl ?_
  refine zz_bipush S (v := 10) rfl dX8_askCode_1 (q := 3) rfl ?_
  refine zz_bipush S (v := 70) rfl dX8_askCode_3 (q := 5) rfl ?_
  refine zz_statP S yy_X8_in lX8_90 (co_in G l la 10 70 zE im) rfl (Nat.le_of_ble_eq_true rfl) (Nat.le_of_ble_eq_true rfl) rfl dX8_askCode_5 (q := 8) rfl ?_
  refine zz_if_eq S dX8_askCode_8 (t := 47) (by decide) (q := 11) rfl (fun h1 => ?_) (fun h1 => ?_)
  · refine zz_ldc S (v := (-100001)) kX8_94 dX8_askCode_47 (q := 49) rfl ?_
    refine zz_iret S dX8_askCode_49 ⟨rfl, _, rfl, rfl, ?_⟩
    refine ⟨?_, rfl⟩
    rw [op_cAsk, if_neg]
    rintro ⟨a, b, c, d⟩
    first | exact zs_b1.mp h1 a | exact zs_b1.mp h3 c | exact zs_b1.mp h4 d | exact (b.elim (fun q => h2 q) (fun q => zs_b1.mp h3 q)) | exact zs_b1.mp h4 c | exact zs_b1.mp h5 d
  · refine zz_iload_2 S dX8_askCode_11 (q := 12) rfl ?_
    refine zz_iconst S (v := (-1)) rfl dX8_askCode_12 (q := 13) rfl ?_
    refine zz_icmp_eq S dX8_askCode_13 (t := 24) (by decide) (q := 16) rfl (fun h2 => ?_) (fun h2 => ?_)
    · refine zz_iload_3 S dX8_askCode_24 (q := 25) rfl ?_
      refine zz_bipush S (v := 10) rfl dX8_askCode_25 (q := 27) rfl ?_
      refine zz_bipush S (v := 60) rfl dX8_askCode_27 (q := 29) rfl ?_
      refine zz_statP S yy_X8_in lX8_90 (co_in G l sz 10 60 zE im) rfl (Nat.le_of_ble_eq_true rfl) (Nat.le_of_ble_eq_true rfl) rfl dX8_askCode_29 (q := 32) rfl ?_
      refine zz_if_eq S dX8_askCode_32 (t := 47) (by decide) (q := 35) rfl (fun h3 => ?_) (fun h3 => ?_)
      · refine zz_ldc S (v := (-100001)) kX8_94 dX8_askCode_47 (q := 49) rfl ?_
        refine zz_iret S dX8_askCode_49 ⟨rfl, _, rfl, rfl, ?_⟩
        refine ⟨?_, rfl⟩
        rw [op_cAsk, if_neg]
        rintro ⟨a, b, c, d⟩
        first | exact zs_b1.mp h1 a | exact zs_b1.mp h3 c | exact zs_b1.mp h4 d | exact (b.elim (fun q => h2 q) (fun q => zs_b1.mp h3 q)) | exact zs_b1.mp h4 c | exact zs_b1.mp h5 d
      · refine zz_iload_4 S dX8_askCode_35 (q := 37) rfl ?_
        refine zz_bipush S (v := (-60)) rfl dX8_askCode_37 (q := 39) rfl ?_
        refine zz_bipush S (v := 60) rfl dX8_askCode_39 (q := 41) rfl ?_
        refine zz_statP S yy_X8_in lX8_90 (co_in G l lo (-60) 60 zE im) rfl (Nat.le_of_ble_eq_true rfl) (Nat.le_of_ble_eq_true rfl) rfl dX8_askCode_41 (q := 44) rfl ?_
        refine zz_if_ne S dX8_askCode_44 (t := 50) (by decide) (q := 47) rfl (fun h4 => ?_) (fun h4 => ?_)
        · refine zz_aload_0 S dX8_askCode_50 (q := 51) rfl ?_
          refine zz_getR S fX8_7 rfl (Nat.le_of_ble_eq_true rfl) rfl rfl dX8_askCode_51 (q := 54) rfl ?_
          refine zz_iconst S (v := 1) rfl dX8_askCode_54 (q := 55) rfl ?_
          refine zz_iaN S (j := 1) (Nat.le_of_ble_eq_true rfl) rfl (Nat.le_of_ble_eq_true rfl) rfl (Nat.le_of_ble_eq_true rfl) dX8_askCode_55 (q := 56) rfl ?_
          refine zz_bipush S (v := 10) rfl dX8_askCode_56 (q := 58) rfl ?_
          refine zz_icmp_ne S dX8_askCode_58 (t := 66) (by decide) (q := 61) rfl (fun h5 => ?_) (fun h5 => ?_)
          · refine zz_iconst S (v := 0) rfl dX8_askCode_66 (q := 67) rfl ?_
            refine zz_iret S dX8_askCode_67 ⟨rfl, _, rfl, rfl, ?_⟩
            refine ⟨?_, rfl⟩
            first | rw [good (zs_ne0 h1) (Or.inl h2) (zs_ne0 h3) (zs_ne0 h4)] | rw [good (zs_ne0 h1) (Or.inr (zs_ne0 h3)) (zs_ne0 h4) (zs_ne0 h5)]
            first | rw [if_pos h5] | rw [if_neg h5] | rw [if_pos h6] | rw [if_neg h6]
          · refine zz_ldc S (v := (-100003)) kX8_104 dX8_askCode_61 (q := 63) rfl ?_
            refine zz_goto S dX8_askCode_63 (t := 67) (by decide) ?_
            refine zz_iret S dX8_askCode_67 ⟨rfl, _, rfl, rfl, ?_⟩
            refine ⟨?_, rfl⟩
            first | rw [good (zs_ne0 h1) (Or.inl h2) (zs_ne0 h3) (zs_ne0 h4)] | rw [good (zs_ne0 h1) (Or.inr (zs_ne0 h3)) (zs_ne0 h4) (zs_ne0 h5)]
            first | rw [if_pos h5] | rw [if_neg h5] | rw [if_pos h6] | rw [if_neg h6]
        · refine zz_ldc S (v := (-100001)) kX8_94 dX8_askCode_47 (q := 49) rfl ?_
          refine zz_iret S dX8_askCode_49 ⟨rfl, _, rfl, rfl, ?_⟩
          refine ⟨?_, rfl⟩
          rw [op_cAsk, if_neg]
          rintro ⟨a, b, c, d⟩
          first | exact zs_b1.mp h1 a | exact zs_b1.mp h3 c | exact zs_b1.mp h4 d | exact (b.elim (fun q => h2 q) (fun q => zs_b1.mp h3 q)) | exact zs_b1.mp h4 c | exact zs_b1.mp h5 d
    · refine zz_aload_0 S dX8_askCode_16 (q := 17) rfl ?_
      refine zz_iload_2 S dX8_askCode_17 (q := 18) rfl ?_
      refine zz_virtP S yy_X8_isWall lX8_114 (ci := 8) (by decide) rfl (co_isWall x im) rfl (Nat.le_of_ble_eq_true rfl) (Nat.le_of_ble_eq_true rfl) rfl (Nat.le_of_ble_eq_true rfl) rfl dX8_askCode_18 (q := 21) rfl ?_
      refine zz_if_eq S dX8_askCode_21 (t := 47) (by decide) (q := 24) rfl (fun h3 => ?_) (fun h3 => ?_)
      · refine zz_ldc S (v := (-100001)) kX8_94 dX8_askCode_47 (q := 49) rfl ?_
        refine zz_iret S dX8_askCode_49 ⟨rfl, _, rfl, rfl, ?_⟩
        refine ⟨?_, rfl⟩
        rw [op_cAsk, if_neg]
        rintro ⟨a, b, c, d⟩
        first | exact zs_b1.mp h1 a | exact zs_b1.mp h3 c | exact zs_b1.mp h4 d | exact (b.elim (fun q => h2 q) (fun q => zs_b1.mp h3 q)) | exact zs_b1.mp h4 c | exact zs_b1.mp h5 d
      · refine zz_iload_3 S dX8_askCode_24 (q := 25) rfl ?_
        refine zz_bipush S (v := 10) rfl dX8_askCode_25 (q := 27) rfl ?_
        refine zz_bipush S (v := 60) rfl dX8_askCode_27 (q := 29) rfl ?_
        refine zz_statP S yy_X8_in lX8_90 (co_in G l sz 10 60 zE im) rfl (Nat.le_of_ble_eq_true rfl) (Nat.le_of_ble_eq_true rfl) rfl dX8_askCode_29 (q := 32) rfl ?_
        refine zz_if_eq S dX8_askCode_32 (t := 47) (by decide) (q := 35) rfl (fun h4 => ?_) (fun h4 => ?_)
        · refine zz_ldc S (v := (-100001)) kX8_94 dX8_askCode_47 (q := 49) rfl ?_
          refine zz_iret S dX8_askCode_49 ⟨rfl, _, rfl, rfl, ?_⟩
          refine ⟨?_, rfl⟩
          rw [op_cAsk, if_neg]
          rintro ⟨a, b, c, d⟩
          first | exact zs_b1.mp h1 a | exact zs_b1.mp h3 c | exact zs_b1.mp h4 d | exact (b.elim (fun q => h2 q) (fun q => zs_b1.mp h3 q)) | exact zs_b1.mp h4 c | exact zs_b1.mp h5 d
        · refine zz_iload_4 S dX8_askCode_35 (q := 37) rfl ?_
          refine zz_bipush S (v := (-60)) rfl dX8_askCode_37 (q := 39) rfl ?_
          refine zz_bipush S (v := 60) rfl dX8_askCode_39 (q := 41) rfl ?_
          refine zz_statP S yy_X8_in lX8_90 (co_in G l lo (-60) 60 zE im) rfl (Nat.le_of_ble_eq_true rfl) (Nat.le_of_ble_eq_true rfl) rfl dX8_askCode_41 (q := 44) rfl ?_
          refine zz_if_ne S dX8_askCode_44 (t := 50) (by decide) (q := 47) rfl (fun h5 => ?_) (fun h5 => ?_)
          · refine zz_aload_0 S dX8_askCode_50 (q := 51) rfl ?_
            refine zz_getR S fX8_7 rfl (Nat.le_of_ble_eq_true rfl) rfl rfl dX8_askCode_51 (q := 54) rfl ?_
            refine zz_iconst S (v := 1) rfl dX8_askCode_54 (q := 55) rfl ?_
            refine zz_iaN S (j := 1) (Nat.le_of_ble_eq_true rfl) rfl (Nat.le_of_ble_eq_true rfl) rfl (Nat.le_of_ble_eq_true rfl) dX8_askCode_55 (q := 56) rfl ?_
            refine zz_bipush S (v := 10) rfl dX8_askCode_56 (q := 58) rfl ?_
            refine zz_icmp_ne S dX8_askCode_58 (t := 66) (by decide) (q := 61) rfl (fun h6 => ?_) (fun h6 => ?_)
            · refine zz_iconst S (v := 0) rfl dX8_askCode_66 (q := 67) rfl ?_
              refine zz_iret S dX8_askCode_67 ⟨rfl, _, rfl, rfl, ?_⟩
              refine ⟨?_, rfl⟩
              first | rw [good (zs_ne0 h1) (Or.inl h2) (zs_ne0 h3) (zs_ne0 h4)] | rw [good (zs_ne0 h1) (Or.inr (zs_ne0 h3)) (zs_ne0 h4) (zs_ne0 h5)]
              first | rw [if_pos h5] | rw [if_neg h5] | rw [if_pos h6] | rw [if_neg h6]
            · refine zz_ldc S (v := (-100003)) kX8_104 dX8_askCode_61 (q := 63) rfl ?_
              refine zz_goto S dX8_askCode_63 (t := 67) (by decide) ?_
              refine zz_iret S dX8_askCode_67 ⟨rfl, _, rfl, rfl, ?_⟩
              refine ⟨?_, rfl⟩
              first | rw [good (zs_ne0 h1) (Or.inl h2) (zs_ne0 h3) (zs_ne0 h4)] | rw [good (zs_ne0 h1) (Or.inr (zs_ne0 h3)) (zs_ne0 h4) (zs_ne0 h5)]
              first | rw [if_pos h5] | rw [if_neg h5] | rw [if_pos h6] | rw [if_neg h6]
          · refine zz_ldc S (v := (-100001)) kX8_94 dX8_askCode_47 (q := 49) rfl ?_
            refine zz_iret S dX8_askCode_49 ⟨rfl, _, rfl, rfl, ?_⟩
            refine ⟨?_, rfl⟩
            rw [op_cAsk, if_neg]
            rintro ⟨a, b, c, d⟩
            first | exact zs_b1.mp h1 a | exact zs_b1.mp h3 c | exact zs_b1.mp h4 d | exact (b.elim (fun q => h2 q) (fun q => zs_b1.mp h3 q)) | exact zs_b1.mp h4 c | exact zs_b1.mp h5 d
end ZOPS
