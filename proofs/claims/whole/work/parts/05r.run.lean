/-! THE REFERENCE: a command, a program -/
def rk_nG (tx : Nat → Int32) (len v : Nat) : Nat → Nat → ZTok → (Nat → Int32) → Nat ⊕ (ZTok × (Nat → Int32))
  | 0, _, T, a => .inr (T, a)
  | n + 1, i, T, a => if rk_bad tx len (rk_n1 tx len v i T) then .inl (rk_n1 tx len v i T).1 else rk_nG tx len v n (i + 1) (tk tx len (rk_n1 tx len v i T).2.1) (upd a i (rk_sg tx len v i T * rk_v tx len (rk_n1 tx len v i T)))
def rk_end (tx : Nat → Int32) (len : Nat) (s : ZSt) (v p0 : Nat) : Nat ⊕ (ZTok × (Nat → Int32)) → Nat ⊕ (ZSt × ZTok)
  | .inl p => .inl p
  | .inr q => if q.1.2.2 = 3 ∧ ta tx len q.1.1 = 59 then (if rk_code s v q.2 ≥ 0 then .inr (rk_do s v q.2, tk tx len q.1.2.1) else .inl p0) else .inl q.1.1
def rk_cmd (tx : Nat → Int32) (len : Nat) (s : ZSt) (T : ZTok) : Nat ⊕ (ZSt × ZTok) := if rk_word tx T = 7 then .inl T.1 else rk_end tx len s (rk_word tx T) T.1 (rk_nG tx len (rk_word tx T) (rk_cnt (rk_word tx T)) 0 (tk tx len T.2.1) (fun _ => 0))
def rk_runG (tx : Nat → Int32) (len : Nat) : Nat → ZSt → ZTok → Nat → Nat ⊕ (ZSt × Nat)
  | 0, s, _, k => .inr (s, k)
  | n + 1, s, T, k => if T.2.2 = 0 then .inr (s, k) else match rk_cmd tx len s T with
    | .inl p => .inl p
    | .inr q => rk_runG tx len n q.1 q.2 (k + 1)
/-- a token as the readers leave it -/
def zTk (tx : Nat → Int32) (len p : Nat) (T : ZTok) : Prop := ∃ q, p ≤ q ∧ q ≤ len ∧ T = tk tx len q
theorem zTk.i {tx : Nat → Int32} {len p : Nat} {T : ZTok} (h : zTk tx len p T) : p ≤ T.1 ∧ T.1 ≤ T.2.1 ∧ T.2.1 ≤ len ∧ T.2.2 ≤ 3 ∧ (T.2.2 = 0 ↔ T.1 = len) ∧ (T.1 < len → T.1 < T.2.1) := by
  obtain ⟨q, h1, h2, rfl⟩ := h
  have := tk_in tx h2
  exact ⟨by omega, this.2⟩
theorem zTk.t {tx : Nat → Int32} {len p q : Nat} (h1 : p ≤ q) (h2 : q ≤ len) : zTk tx len p (tk tx len q) := ⟨q, h1, h2, rfl⟩
theorem zTk.le {tx : Nat → Int32} {len p q : Nat} {T : ZTok} (h : zTk tx len q T) (hp : p ≤ q) : zTk tx len p T := by
  obtain ⟨r, a, b, c⟩ := h
  exact ⟨r, by omega, b, c⟩
theorem rk_n1_t {tx : Nat → Int32} {len v i p : Nat} {T : ZTok} (h : zTk tx len p T) : zTk tx len p (rk_n1 tx len v i T) := by
  have hi := h.i
  unfold rk_n1
  split
  · exact zTk.t (by omega) hi.2.2.1
  · exact h
theorem rk_nG_t {tx : Nat → Int32} {len v : Nat} : ∀ (n i p : Nat) (T : ZTok) (a : Nat → Int32), zTk tx len p T → match rk_nG tx len v n i T a with
    | .inl f => f ≤ len
    | .inr q => zTk tx len p q.1 := by
  intro n
  induction n with
  | zero => intro i p T a h; exact h
  | succ n ih =>
    intro i p T a h
    have h1 := (rk_n1_t (v := v) (i := i) h)
    have h2 := h1.i
    rw [rk_nG]
    by_cases hb : rk_bad tx len (rk_n1 tx len v i T)
    · rw [if_pos hb]
      show (rk_n1 tx len v i T).1 ≤ len
      omega
    · rw [if_neg hb]
      exact ih (i + 1) p _ _ (zTk.t (by omega) h2.2.2.1)
theorem rk_cmd_t {tx : Nat → Int32} {len p : Nat} {s : ZSt} {T : ZTok} (h : zTk tx len p T) : match rk_cmd tx len s T with
    | .inl f => f ≤ len
    | .inr q => zTk tx len T.2.1 q.2 := by
  have hi := h.i
  unfold rk_cmd
  by_cases hw : rk_word tx T = 7
  · rw [if_pos hw]
    show T.1 ≤ len
    omega
  · rw [if_neg hw]
    have key := rk_nG_t (tx := tx) (len := len) (v := rk_word tx T) (rk_cnt (rk_word tx T)) 0 T.2.1 (tk tx len T.2.1) (fun _ => 0) (zTk.t (Nat.le_refl _) hi.2.2.1)
    generalize rk_nG tx len (rk_word tx T) (rk_cnt (rk_word tx T)) 0 (tk tx len T.2.1) (fun _ => 0) = R at key ⊢
    cases R with
    | inl f => exact key
    | inr q =>
      have k2 := key.i
      rw [rk_end]
      by_cases h3 : q.1.2.2 = 3 ∧ ta tx len q.1.1 = 59
      · rw [if_pos h3]
        by_cases h4 : rk_code s (rk_word tx T) q.2 ≥ 0
        · rw [if_pos h4]
          exact zTk.t (by omega) k2.2.2.1
        · rw [if_neg h4]
          show T.1 ≤ len
          omega
      · rw [if_neg h3]
        show q.1.1 ≤ len
        omega
/-- what a command leaves of the workshop -/
theorem rk_cmd_I {tx : Nat → Int32} {len nw nc : Nat} {s : ZSt} {T : ZTok} (hI : sI s nw nc) : match rk_cmd tx len s T with
    | .inl _ => True
    | .inr q => (∃ nw' nc', sI q.1 nw' nc') ∧ ∀ j, 118 ≤ j → q.1 j = s j := by
  have hw7 := rk_word_in tx T
  unfold rk_cmd
  by_cases hw : rk_word tx T = 7
  · rw [if_pos hw]
    trivial
  · rw [if_neg hw]
    generalize rk_nG tx len (rk_word tx T) (rk_cnt (rk_word tx T)) 0 (tk tx len T.2.1) (fun _ => 0) = R
    cases R with
    | inl f => trivial
    | inr q =>
      rw [rk_end]
      by_cases h3 : q.1.2.2 = 3 ∧ ta tx len q.1.1 = 59
      · rw [if_pos h3]
        by_cases h4 : rk_code s (rk_word tx T) q.2 ≥ 0
        · rw [if_pos h4]
          exact ⟨rk_do_I (by omega) hI h4, fun j hj => rk_do_far (by omega) hI h4 hj⟩
        · rw [if_neg h4]
          trivial
      · rw [if_neg h3]
        trivial
def zRes (im' : ZI) (len cnt : Nat) : Nat ⊕ (ZTok × (Nat → Int32)) → Prop
  | .inl p => im' 470 14 = nI p
  | .inr q => im' 470 14 = -1 ∧ zTx im' q.1 len ∧ ∀ j, j < cnt → im' 475 j = q.2 j
def zC (im im' : ZI) : Prop := zz_keep [470, 471, 475, 476, 477, 478] im im' ∧ ∀ j, j ≠ 11 → j ≠ 12 → j ≠ 13 → j ≠ 14 → im' 470 j = im 470 j
theorem zC.rf {im : ZI} : zC im im := ⟨zz_keep.rf, fun _ _ _ _ _ => rfl⟩
theorem zC.tr {im0 im1 im2 : ZI} (h : zC im0 im1) (h2 : zC im1 im2) : zC im0 im2 := ⟨h.1.tr h2.1 (fun _ q => q), fun j a b c d => (h2.2 j a b c d).trans (h.2 j a b c d)⟩
theorem zM.c {im im' : ZI} (h : zM im im') : zC im im' := ⟨h.1.le (by decide), h.2⟩
theorem zC_k {im im' : ZI} (h : zz_keep [471, 476, 477, 478] im im') : zC im im' := ⟨h.le (by decide), fun j _ _ _ _ => by rw [h 470 (by decide)]⟩
def zCo (im im' : ZI) (len : Nat) (r : Int32) : Nat ⊕ (ZSt × ZTok) → Prop
  | .inl p => r = 0 ∧ im' 470 14 = nI p ∧ im' 471 = im 471
  | .inr q => r = 1 ∧ im' 470 14 = -1 ∧ im' 471 = q.1 ∧ zTx im' q.2 len
section ZRUN
variable {G : ZG} {l : Launch}
set_option maxHeartbeats 4000000 in
theorem lo_command {n0 mcT msT : Nat} {isI : Bool} {Qf : Option Value → ZE → ZI → Prop} {w : Nat → ZL → List Value → Nat → ZE → ZI → Prop} {z len v cnt : Nat} {x f0 : Int32} {im0 : ZI} {R : Nat ⊕ (ZTok × (Nat → Int32))} {tx : Nat → Int32} (S : zz_S G l RX8 cX8_command 4 9 n0 mcT msT isI (some .int) Qf w)
    (hx : x = nI v) (hv : v < 7) (hcnt : cnt = rk_cnt v) (hRl : ∀ p, R = .inl p → p ≤ 140) (hQ : ∀ im' u, zM im0 im' → zRes im' len cnt R → w 59 [some (.ref 470), some (.int f0), some (.int x), u] [] z zE im') :
    ∀ (n i : Nat) (y : Int32) (T : ZTok) (a : Nat → Int32) (im : ZI), i + n = cnt → y = nI i → zTx im T len → im 474 = tx → im 470 14 = -1 → zM im0 im → (∀ j, j < i → im 475 j = a j) → R = rk_nG tx len v n i T a → w 32 [some (.ref 470), some (.int f0), some (.int x), some (.int y)] [] z zE im := by
  have hc3 : rk_cnt v ≤ 3 := by
    rcases rk_7 hv with rfl | rfl | rfl | rfl | rfl | rfl | rfl <;> decide
  intro n
  induction n with
  | zero =>
    intro i y T a im hi hy hT htx hf hM ha hR
    have hi : i = cnt := by omega
    subst hi
    refine zz_iload_3 S dX8_command_32 (q := 33) rfl ?_
    refine zz_iload_2 S dX8_command_33 (q := 34) rfl ?_
    -- at 34: invokestatic 237
    refine zz_statP S yy_X8_numbersOf lX8_237 (co_numbersOf v x hx hv zE im) rfl (Nat.le_of_ble_eq_true rfl) (Nat.le_of_ble_eq_true rfl) rfl dX8_command_34 (q := 37) rfl ?_
    refine zz_icmp_ge S dX8_command_37 (t := 59) (by decide) (q := 40) rfl (fun a1 => ?_) (fun a1 => ?_)
    -- then 59 else 40
    · exact hQ im _ hM (by rw [hR]; exact ⟨hf, hT, ha⟩)
    · exact absurd (by rw [hy, ← hcnt]; exact Int32.le_refl _) a1
  | succ n ih =>
    intro i y T a im hi hy hT htx hf hM ha hR
    refine zz_iload_3 S dX8_command_32 (q := 33) rfl ?_
    refine zz_iload_2 S dX8_command_33 (q := 34) rfl ?_
    -- at 34: invokestatic 237
    refine zz_statP S yy_X8_numbersOf lX8_237 (co_numbersOf v x hx hv zE im) rfl (Nat.le_of_ble_eq_true rfl) (Nat.le_of_ble_eq_true rfl) rfl dX8_command_34 (q := 37) rfl ?_
    refine zz_icmp_ge S dX8_command_37 (t := 59) (by decide) (q := 40) rfl (fun a1 => ?_) (fun a1 => ?_)
    -- then 59 else 40
    · exact absurd a1 (by rw [hy]; exact nI_ge (by omega) (by omega))
    · refine zz_aload_0 S dX8_command_40 (q := 41) rfl ?_
      refine zz_getI S fX8_214 rfl (Nat.le_of_ble_eq_true rfl) rfl dX8_command_41 (q := 44) rfl ?_
      refine zz_if_ge S dX8_command_44 (t := 59) (by decide) (q := 47) rfl (fun a2 => ?_) (fun a2 => ?_)
      -- then 59 else 47
      · exact absurd a2 (by rw [hf]; decide)
      · refine zz_aload_0 S dX8_command_47 (q := 48) rfl ?_
        refine zz_iload_2 S dX8_command_48 (q := 49) rfl ?_
        refine zz_iload_3 S dX8_command_49 (q := 50) rfl ?_
        -- at 50: invokevirtual 240
        refine zz_virtV S yy_X8_readNumber lX8_240 (ci := 8) (by decide) rfl (co_readNumber x y v i len T im hx hv hy (by omega) hT hf) rfl (Nat.le_of_ble_eq_true rfl) (Nat.le_of_ble_eq_true rfl) rfl (Nat.le_of_ble_eq_true rfl) rfl dX8_command_50 (q := 53) rfl ?_
        intro im1 hn
        obtain ⟨hM1, hn⟩ := hn
        have htx1 : im1 474 = tx := by rw [hM1.1 474 (by decide)]; exact htx
        rw [htx] at hn
        rw [rk_nG] at hR
        by_cases hb : rk_bad tx len (rk_n1 tx len v i T)
        · rw [if_pos hb] at hn hR
          obtain ⟨hn, -⟩ := hn
          refine zz_iinc_3 S rfl dX8_command_53 (q := 56) rfl ?_
          refine zz_goto S dX8_command_56 (t := 32) (by decide) ?_
          -- at 32
          refine zz_iload_3 S dX8_command_32 (q := 33) rfl ?_
          refine zz_iload_2 S dX8_command_33 (q := 34) rfl ?_
          -- at 34: invokestatic 237
          refine zz_statP S yy_X8_numbersOf lX8_237 (co_numbersOf v x hx hv zE im1) rfl (Nat.le_of_ble_eq_true rfl) (Nat.le_of_ble_eq_true rfl) rfl dX8_command_34 (q := 37) rfl ?_
          refine zz_icmp_ge S dX8_command_37 (t := 59) (by decide) (q := 40) rfl (fun a3 => ?_) (fun a3 => ?_)
          -- then 59 else 40
          · exact hQ im1 _ (hM.tr hM1) (by rw [hR]; exact hn)
          · refine zz_aload_0 S dX8_command_40 (q := 41) rfl ?_
            refine zz_getI S fX8_214 rfl (Nat.le_of_ble_eq_true rfl) rfl dX8_command_41 (q := 44) rfl ?_
            refine zz_if_ge S dX8_command_44 (t := 59) (by decide) (q := 47) rfl (fun a4 => ?_) (fun a4 => ?_)
            -- then 59 else 47
            · exact hQ im1 _ (hM.tr hM1) (by rw [hR]; exact hn)
            · exact absurd (by rw [hn]; exact nI_pos' (by have := hRl _ hR; omega)) a4
        · rw [if_neg hb] at hn hR
          obtain ⟨n1, n2, n3⟩ := hn
          have hT1 : zTx im1 (tk tx len (rk_n1 tx len v i T).2.1) len := by
            have hin : (rk_n1 tx len v i T).2.1 ≤ len := by
              unfold rk_n1
              split
              · exact (tk_in tx hT.2.2.2.1.2.1).2.2.1
              · exact hT.2.2.2.1.2.1
            have := zTx_tk (p := (rk_n1 tx len v i T).2.1) hT hM1 hin (by rw [htx]; exact n1)
            rw [htx] at this
            exact this
          refine zz_iinc_3 S rfl dX8_command_53 (q := 56) rfl ?_
          refine zz_goto S dX8_command_56 (t := 32) (by decide) ?_
          -- at 32
          refine ih (i + 1) _ _ (upd a i (rk_sg tx len v i T * rk_v tx len (rk_n1 tx len v i T))) im1 (by omega) (by rw [hy]; exact nI_1 i) hT1 htx1 (by rw [n2]; exact hf) (hM.tr hM1) (fun j hj => ?_) hR
          rw [n3]
          by_cases hji : j = i
          · rw [hji, u_eq, u_eq]
          · rw [u_ne _ _ hji, u_ne _ _ hji]
            exact ha j (by omega)
set_option maxHeartbeats 8000000 in
theorem co_command (len nw nc p : Nat) (T : ZTok) (im : ZI) (hT : zTx im T len) (hk : zTk (im 474) len p T) (hf : im 470 14 = -1) (hI : sI (im 471) nw nc) : zz_OI G l 9 mX8_command [.ref 470] zE im (fun r im' => zC im im' ∧ zCo im im' len r (rk_cmd (im 474) len (im 471) T)) := by
  have hki := hk.i
  have hln := hT.2.2.1
  have hw7 := rk_word_in (im 474) T
  have hN := rk_nG_t (tx := im 474) (len := len) (v := rk_word (im 474) T) (rk_cnt (rk_word (im 474) T)) 0 T.2.1 (tk (im 474) len T.2.1) (fun _ => 0) (zTk.t (Nat.le_refl _) hki.2.2.1)
  unfold rk_cmd
  generalize hvv : rk_word (im 474) T = v at hw7 hN ⊢
  generalize hRR : rk_nG (im 474) len v (rk_cnt v) 0 (tk (im 474) len T.2.1) (fun _ => 0) = R at hN ⊢
  have hRl : ∀ p, R = .inl p → p ≤ 140 := fun p e => by
    rw [e] at hN
    exact Nat.le_trans hN hln
  refine zz_intro (isI := false) (by decide) rfl (Nat.le_of_ble_eq_true rfl) (fun h => by cases h) (fun w S => ?_)
  refine zz_aload_0 S dX8_command_0 (q := 1) rfl ?_
  refine zz_getI S fX8_205 rfl (Nat.le_of_ble_eq_true rfl) rfl dX8_command_1 (q := 4) rfl ?_
  refine zz_istore_1 S rfl dX8_command_4 (q := 5) rfl ?_
  refine zz_aload_0 S dX8_command_5 (q := 6) rfl ?_
  -- at 6: invokevirtual 234
  refine zz_virtP S yy_X8_wordHere lX8_234 (ci := 8) (by decide) rfl (co_wordHere len T im hT) rfl (Nat.le_of_ble_eq_true rfl) (Nat.le_of_ble_eq_true rfl) rfl (Nat.le_of_ble_eq_true rfl) rfl dX8_command_6 (q := 9) rfl ?_
  rw [hvv]
  refine zz_istore_2 S rfl dX8_command_9 (q := 10) rfl ?_
  refine zz_iload_2 S dX8_command_10 (q := 11) rfl ?_
  refine zz_bipush S (v := 7) rfl dX8_command_11 (q := 13) rfl ?_
  refine zz_icmp_ne S dX8_command_13 (t := 26) (by decide) (q := 16) rfl (fun a1 => ?_) (fun a1 => ?_)
  -- then 26 else 16
  · have hv7 : ¬ v = 7 := fun e => a1 (by rw [e]; rfl)
    refine zz_aload_0 S dX8_command_26 (q := 27) rfl ?_
    -- at 27: invokevirtual 227
    refine zz_virtV S yy_X8_next lX8_227 (ci := 8) (by decide) rfl (co_next T.2.1 len im hT.1.2.1 hki.2.2.1 hT.2.1 hln) rfl (Nat.le_of_ble_eq_true rfl) (Nat.le_of_ble_eq_true rfl) rfl (Nat.le_of_ble_eq_true rfl) rfl dX8_command_27 (q := 30) rfl ?_
    intro im1 hn
    have hT1 : zTx im1 (tk (im 474) len T.2.1) len := zTx_tk hT (zM.rf.n hn.2) hki.2.2.1 hn.1
    have e474 : im1 474 = im 474 := hn.2.1 474 (by decide)
    have hf1 : im1 470 14 = -1 := by rw [hn.2.2 14 (by decide) (by decide) (by decide)]; exact hf
    refine zz_iconst S (v := 0) rfl dX8_command_30 (q := 31) rfl ?_
    refine zz_istore_3 S rfl dX8_command_31 (q := 32) rfl ?_
    -- at 32
    refine lo_command (tx := im 474) (R := R) S rfl (by omega) rfl hRl (fun im2 u hM2 hr => ?_) (rk_cnt v) 0 0 _ (fun _ => 0) im1 (by omega) rfl hT1 e474 hf1 zM.rf (fun j hj => absurd hj (by omega)) hRR.symm
    clear hRR
    have hC2 : zC im im2 := ((zM.rf.n hn.2).tr hM2).c
    have e474b : im2 474 = im 474 := (hM2.1 474 (by decide)).trans e474
    have e471b : im2 471 = im 471 := (hM2.1 471 (by decide)).trans (hn.2.1 471 (by decide))
    have bad : ∀ (p : Nat) (im3 : ZI) (u : Option Value), p ≤ 140 → im3 470 14 = nI p → zC im im3 → im3 471 = im 471 → rk_end (im 474) len (im 471) v T.1 R = .inl p → w 133 [some (.ref 470), some (.int (im 470 12)), some (.int (nI v)), u] [] 0 zE im3 := fun p im3 u hp h14 hC h471 he => by
      refine zz_aload_0 S dX8_command_133 (q := 134) rfl ?_
      refine zz_getI S fX8_214 rfl (Nat.le_of_ble_eq_true rfl) rfl dX8_command_134 (q := 137) rfl ?_
      refine zz_if_lt S dX8_command_137 (t := 142) (by decide) (q := 140) rfl (fun b1 => ?_) (fun b1 => ?_)
      -- then 142 else 140
      · exact absurd b1 (by rw [h14]; exact nI_pos (by omega))
      · refine zz_iconst S (v := 0) rfl dX8_command_140 (q := 141) rfl ?_
        -- at 141: ireturn 
        refine zz_iret S dX8_command_141 ⟨rfl, _, rfl, rfl, ?_⟩
        rw [if_neg hv7, he]
        exact ⟨hC, rfl, h14, h471⟩
    have bad95 : ∀ (p : Nat) (im3 : ZI) (u : Option Value), p ≤ 140 → im3 470 14 = nI p → zC im im3 → im3 471 = im 471 → rk_end (im 474) len (im 471) v T.1 R = .inl p → w 95 [some (.ref 470), some (.int (im 470 12)), some (.int (nI v)), u] [] 0 zE im3 := fun p im3 u hp h14 hC h471 he => by
      refine zz_aload_0 S dX8_command_95 (q := 96) rfl ?_
      refine zz_getI S fX8_214 rfl (Nat.le_of_ble_eq_true rfl) rfl dX8_command_96 (q := 99) rfl ?_
      refine zz_if_ge S dX8_command_99 (t := 133) (by decide) (q := 102) rfl (fun b1 => ?_) (fun b1 => ?_)
      -- then 133 else 102
      · exact bad p im3 u hp h14 hC h471 he
      · exact absurd (by rw [h14]; exact nI_pos' (by omega)) b1
    cases R with
    | inl p =>
      have h14 : im2 470 14 = nI p := hr
      have hp : p ≤ 140 := Nat.le_trans hN hln
      refine zz_aload_0 S dX8_command_59 (q := 60) rfl ?_
      refine zz_getI S fX8_214 rfl (Nat.le_of_ble_eq_true rfl) rfl dX8_command_60 (q := 63) rfl ?_
      refine zz_if_ge S dX8_command_63 (t := 95) (by decide) (q := 66) rfl (fun b1 => ?_) (fun b1 => ?_)
      -- then 95 else 66
      · exact bad95 p im2 u hp h14 hC2 e471b rfl
      · exact absurd (by rw [h14]; exact nI_pos' (by omega)) b1
    | inr q =>
      obtain ⟨h14, hTq, hrow⟩ := hr
      have hq := hN.i
      have hq12 : im2 470 12 = nI q.1.1 := hTq.1.1
      have hl2 : im2 470 6 = nI len := hTq.2.1
      have k3 : im2 470 11 = 3 ↔ q.1.2.2 = 3 := by rw [hTq.1.2.2]; exact nI_eq (a := q.1.2.2) (b := 3) (by omega) (by omega)
      have bad87 : ¬ (q.1.2.2 = 3 ∧ ta (im 474) len q.1.1 = 59) → w 87 [some (.ref 470), some (.int (im 470 12)), some (.int (nI v)), u] [] 0 zE im2 := fun h => by
        refine zz_aload_0 S dX8_command_87 (q := 88) rfl ?_
        refine zz_aload_0 S dX8_command_88 (q := 89) rfl ?_
        refine zz_getI S fX8_205 rfl (Nat.le_of_ble_eq_true rfl) rfl dX8_command_89 (q := 92) rfl ?_
        -- at 92: invokevirtual 230
        refine zz_virtV S yy_X8_fail lX8_230 (ci := 8) (by decide) rfl (co_fail (im2 470 12) im2) rfl (Nat.le_of_ble_eq_true rfl) (Nat.le_of_ble_eq_true rfl) rfl (Nat.le_of_ble_eq_true rfl) rfl dX8_command_92 (q := 95) rfl ?_
        rintro im3 rfl
        rw [if_pos (by rw [h14]; decide)]
        exact bad95 q.1.1 _ u (by omega) (by rw [zz_u_e]; exact hq12) (hC2.tr zM.rf.u14.c) (by rw [zz_u_off _ _ _ _ (by decide)]; exact e471b) (by rw [rk_end, if_neg h])
      refine zz_aload_0 S dX8_command_59 (q := 60) rfl ?_
      refine zz_getI S fX8_214 rfl (Nat.le_of_ble_eq_true rfl) rfl dX8_command_60 (q := 63) rfl ?_
      refine zz_if_ge S dX8_command_63 (t := 95) (by decide) (q := 66) rfl (fun b1 => ?_) (fun b1 => ?_)
      -- then 95 else 66
      · exact absurd b1 (by rw [h14]; decide)
      · refine zz_aload_0 S dX8_command_66 (q := 67) rfl ?_
        refine zz_getI S fX8_211 rfl (Nat.le_of_ble_eq_true rfl) rfl dX8_command_67 (q := 70) rfl ?_
        refine zz_iconst S (v := 3) rfl dX8_command_70 (q := 71) rfl ?_
        refine zz_icmp_ne S dX8_command_71 (t := 87) (by decide) (q := 74) rfl (fun b2 => ?_) (fun b2 => ?_)
        -- then 87 else 74
        · exact bad87 (fun e => b2 (k3.mpr e.1))
        · have b2' : q.1.2.2 = 3 := k3.mp b2
          refine zz_aload_0 S dX8_command_74 (q := 75) rfl ?_
          refine zz_aload_0 S dX8_command_75 (q := 76) rfl ?_
          refine zz_getI S fX8_205 rfl (Nat.le_of_ble_eq_true rfl) rfl dX8_command_76 (q := 79) rfl ?_
          -- at 79: invokevirtual 208
          refine zz_virtP S yy_X8_at lX8_208 (ci := 8) (by decide) rfl (co_at (im2 470 12) q.1.1 len im2 hq12 (by omega) hl2 hln) rfl (Nat.le_of_ble_eq_true rfl) (Nat.le_of_ble_eq_true rfl) rfl (Nat.le_of_ble_eq_true rfl) rfl dX8_command_79 (q := 82) rfl ?_
          rw [e474b]
          refine zz_bipush S (v := 59) rfl dX8_command_82 (q := 84) rfl ?_
          refine zz_icmp_eq S dX8_command_84 (t := 95) (by decide) (q := 87) rfl (fun b3 => ?_) (fun b3 => ?_)
          -- then 95 else 87
          · refine zz_aload_0 S dX8_command_95 (q := 96) rfl ?_
            refine zz_getI S fX8_214 rfl (Nat.le_of_ble_eq_true rfl) rfl dX8_command_96 (q := 99) rfl ?_
            refine zz_if_ge S dX8_command_99 (t := 133) (by decide) (q := 102) rfl (fun b4 => ?_) (fun b4 => ?_)
            -- then 133 else 102
            · exact absurd b4 (by rw [h14]; decide)
            · have hgood : q.1.2.2 = 3 ∧ ta (im 474) len q.1.1 = 59 := ⟨b2', b3⟩
              refine zz_aload_0 S dX8_command_102 (q := 103) rfl ?_
              refine zz_iload_2 S dX8_command_103 (q := 104) rfl ?_
              refine zz_aload_0 S dX8_command_104 (q := 105) rfl ?_
              refine zz_getR S fX8_22 rfl (Nat.le_of_ble_eq_true rfl) rfl rfl dX8_command_105 (q := 108) rfl ?_
              refine zz_iconst S (v := 0) rfl dX8_command_108 (q := 109) rfl ?_
              refine zz_iaN S (j := 0) (Nat.le_of_ble_eq_true rfl) rfl (Nat.le_of_ble_eq_true rfl) rfl (Nat.le_of_ble_eq_true rfl) dX8_command_109 (q := 110) rfl ?_
              refine zz_aload_0 S dX8_command_110 (q := 111) rfl ?_
              refine zz_getR S fX8_22 rfl (Nat.le_of_ble_eq_true rfl) rfl rfl dX8_command_111 (q := 114) rfl ?_
              refine zz_iconst S (v := 1) rfl dX8_command_114 (q := 115) rfl ?_
              refine zz_iaN S (j := 1) (Nat.le_of_ble_eq_true rfl) rfl (Nat.le_of_ble_eq_true rfl) rfl (Nat.le_of_ble_eq_true rfl) dX8_command_115 (q := 116) rfl ?_
              refine zz_aload_0 S dX8_command_116 (q := 117) rfl ?_
              refine zz_getR S fX8_22 rfl (Nat.le_of_ble_eq_true rfl) rfl rfl dX8_command_117 (q := 120) rfl ?_
              refine zz_iconst S (v := 2) rfl dX8_command_120 (q := 121) rfl ?_
              refine zz_iaN S (j := 2) (Nat.le_of_ble_eq_true rfl) rfl (Nat.le_of_ble_eq_true rfl) rfl (Nat.le_of_ble_eq_true rfl) dX8_command_121 (q := 122) rfl ?_
              -- at 122: invokevirtual 244
              refine zz_virtI S yy_X8_codeOf lX8_244 (ci := 8) (by decide) rfl (co_codeOf (nI v) v nw nc (im2 475) im2 rfl (by omega) (by rw [e471b]; exact hI)) rfl (Nat.le_of_ble_eq_true rfl) (Nat.le_of_ble_eq_true rfl) rfl (Nat.le_of_ble_eq_true rfl) rfl dX8_command_122 (q := 125) rfl ?_
              rintro r3 im3 ⟨rfl, hk3⟩
              have ec : rk_code (im2 471) v (im2 475) = rk_code (im 471) v q.2 := by rw [e471b]; exact rk_code_eq (by omega) hrow
              have h14c : im3 470 14 = -1 := by rw [hk3 470 (by decide)]; exact h14
              have hC3 : zC im im3 := hC2.tr (zC_k (hk3.le (by decide)))
              have e471c : im3 471 = im 471 := by rw [hk3 471 (by decide)]; exact e471b
              rw [ec]
              refine zz_if_ge S dX8_command_125 (t := 133) (by decide) (q := 128) rfl (fun b5 => ?_) (fun b5 => ?_)
              -- then 133 else 128
              · refine zz_aload_0 S dX8_command_133 (q := 134) rfl ?_
                refine zz_getI S fX8_214 rfl (Nat.le_of_ble_eq_true rfl) rfl dX8_command_134 (q := 137) rfl ?_
                refine zz_if_lt S dX8_command_137 (t := 142) (by decide) (q := 140) rfl (fun b6 => ?_) (fun b6 => ?_)
                -- then 142 else 140
                · refine zz_aload_0 S dX8_command_142 (q := 143) rfl ?_
                  refine zz_iload_2 S dX8_command_143 (q := 144) rfl ?_
                  refine zz_aload_0 S dX8_command_144 (q := 145) rfl ?_
                  refine zz_getR S fX8_22 rfl (Nat.le_of_ble_eq_true rfl) rfl rfl dX8_command_145 (q := 148) rfl ?_
                  refine zz_iconst S (v := 0) rfl dX8_command_148 (q := 149) rfl ?_
                  refine zz_iaN S (j := 0) (Nat.le_of_ble_eq_true rfl) rfl (Nat.le_of_ble_eq_true rfl) rfl (Nat.le_of_ble_eq_true rfl) dX8_command_149 (q := 150) rfl ?_
                  refine zz_aload_0 S dX8_command_150 (q := 151) rfl ?_
                  refine zz_getR S fX8_22 rfl (Nat.le_of_ble_eq_true rfl) rfl rfl dX8_command_151 (q := 154) rfl ?_
                  refine zz_iconst S (v := 1) rfl dX8_command_154 (q := 155) rfl ?_
                  refine zz_iaN S (j := 1) (Nat.le_of_ble_eq_true rfl) rfl (Nat.le_of_ble_eq_true rfl) rfl (Nat.le_of_ble_eq_true rfl) dX8_command_155 (q := 156) rfl ?_
                  refine zz_aload_0 S dX8_command_156 (q := 157) rfl ?_
                  refine zz_getR S fX8_22 rfl (Nat.le_of_ble_eq_true rfl) rfl rfl dX8_command_157 (q := 160) rfl ?_
                  refine zz_iconst S (v := 2) rfl dX8_command_160 (q := 161) rfl ?_
                  refine zz_iaN S (j := 2) (Nat.le_of_ble_eq_true rfl) rfl (Nat.le_of_ble_eq_true rfl) rfl (Nat.le_of_ble_eq_true rfl) dX8_command_161 (q := 162) rfl ?_
                  -- at 162: invokevirtual 247
                  have hrow3 : ∀ k, k < rk_cnt v → im3 475 k = q.2 k := fun k hk2 => by rw [hk3 475 (by decide)]; exact hrow k hk2
                  refine zz_virtI S yy_X8_carry lX8_247 (ci := 8) (by decide) rfl (co_carry (nI v) v nw nc (im3 475) im3 rfl (by omega) (by rw [e471c]; exact hI) (by rw [e471c, rk_code_eq (b := q.2) (by omega) hrow3]; exact b5)) rfl (Nat.le_of_ble_eq_true rfl) (Nat.le_of_ble_eq_true rfl) rfl (Nat.le_of_ble_eq_true rfl) rfl dX8_command_162 (q := 165) rfl ?_
                  rintro r4 im4 ⟨hr4, h471d, hk4⟩
                  have hC4 : zC im im4 := hC3.tr (zC_k hk4)
                  have h470d : im4 470 = im3 470 := hk4 470 (by decide)
                  have h470c : im3 470 = im2 470 := hk3 470 (by decide)
                  refine zz_istore_3 S rfl dX8_command_165 (q := 166) rfl ?_
                  refine zz_aload_0 S dX8_command_166 (q := 167) rfl ?_
                  -- at 167: invokevirtual 227
                  refine zz_virtV S yy_X8_next lX8_227 (ci := 8) (by decide) rfl (co_next q.1.2.1 len im4 (by rw [h470d, h470c]; exact hTq.1.2.1) hq.2.2.1 (by rw [h470d, h470c]; exact hl2) hln) rfl (Nat.le_of_ble_eq_true rfl) (Nat.le_of_ble_eq_true rfl) rfl (Nat.le_of_ble_eq_true rfl) rfl dX8_command_167 (q := 170) rfl ?_
                  intro im5 hn5
                  have e474d : im4 474 = im 474 := hC4.1 474 (by decide)
                  rw [e474d] at hn5
                  refine zz_iload_3 S dX8_command_170 (q := 171) rfl ?_
                  refine zz_if_ge S dX8_command_171 (t := 178) (by decide) (q := 174) rfl (fun b7 => ?_) (fun b7 => ?_)
                  -- then 178 else 174
                  · refine zz_iconst S (v := 1) rfl dX8_command_178 (q := 179) rfl ?_
                    -- at 179: ireturn 
                    refine zz_iret S dX8_command_179 ⟨rfl, _, rfl, rfl, ?_⟩
                    refine ⟨hC4.tr (zM.rf.n hn5.2).c, ?_⟩
                    rw [if_neg hv7, rk_end, if_pos hgood, if_pos b5]
                    refine ⟨rfl, ?_, ?_, ?_⟩
                    · rw [hn5.2.2 14 (by decide) (by decide) (by decide), h470d]
                      exact h14c
                    · rw [hn5.2.1 471 (by decide), h471d, e471c]
                      exact rk_do_eq (by omega) hrow3
                    · have hti := tk_in (im 474) (len := len) (p := q.1.2.1) hq.2.2.1
                      refine ⟨hn5.1, ?_, hln, ⟨hti.2.1, hti.2.2.1, hti.2.2.2.1⟩, ?_⟩
                      · rw [hn5.2.2 6 (by decide) (by decide) (by decide), h470d, h470c]
                        exact hl2
                      · rw [hn5.2.1 474 (by decide), e474d]
                        exact hT.2.2.2.2
                  · exact absurd hr4 b7
                · exact absurd (by rw [h14c]; decide) b6
              · refine zz_aload_0 S dX8_command_128 (q := 129) rfl ?_
                refine zz_iload_1 S dX8_command_129 (q := 130) rfl ?_
                -- at 130: invokevirtual 230
                refine zz_virtV S yy_X8_fail lX8_230 (ci := 8) (by decide) rfl (co_fail (im 470 12) im3) rfl (Nat.le_of_ble_eq_true rfl) (Nat.le_of_ble_eq_true rfl) rfl (Nat.le_of_ble_eq_true rfl) rfl dX8_command_130 (q := 133) rfl ?_
                rintro im4 rfl
                rw [if_pos (by rw [h14c]; decide)]
                exact bad T.1 _ u (by omega) (by rw [zz_u_e]; exact hT.1.1) (hC3.tr zM.rf.u14.c) (by rw [zz_u_off _ _ _ _ (by decide)]; exact e471c) (by rw [rk_end, if_pos hgood, if_neg b5])
          · exact bad87 (fun e => b3 e.2)
  · have hv7 : v = 7 := (nI_eq (a := v) (b := 7) (by omega) (by omega)).mp a1
    refine zz_aload_0 S dX8_command_16 (q := 17) rfl ?_
    refine zz_aload_0 S dX8_command_17 (q := 18) rfl ?_
    refine zz_getI S fX8_205 rfl (Nat.le_of_ble_eq_true rfl) rfl dX8_command_18 (q := 21) rfl ?_
    -- at 21: invokevirtual 230
    refine zz_virtV S yy_X8_fail lX8_230 (ci := 8) (by decide) rfl (co_fail (im 470 12) im) rfl (Nat.le_of_ble_eq_true rfl) (Nat.le_of_ble_eq_true rfl) rfl (Nat.le_of_ble_eq_true rfl) rfl dX8_command_21 (q := 24) rfl ?_
    rintro im1 rfl
    rw [if_pos (by rw [hf]; decide)]
    refine zz_iconst S (v := 0) rfl dX8_command_24 (q := 25) rfl ?_
    -- at 25: ireturn 
    refine zz_iret S dX8_command_25 ⟨rfl, _, rfl, rfl, ?_⟩
    rw [if_pos hv7]
    exact ⟨zM.rf.u14.c, rfl, by rw [zz_u_e]; exact hT.1.1, zz_u_off _ _ _ _ (by decide)⟩
end ZRUN
