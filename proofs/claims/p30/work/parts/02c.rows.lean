/-! ROWS: instructions that touch no cell -/
section ZR
variable {G : ZG} {l : Launch} {own : String} {cc : ByteArray} {nL d n0 mcT msT : Nat} {isI : Bool} {rt : Option FieldType} {Qf : Option Value → ZE → ZI → Prop} {w : Nat → ZL → List Value → Nat → ZE → ZI → Prop}
variable {pc q t : Nat} {L L' : ZL} {st st' : List Value} {z : Nat} {E : ZE} {im : ZI}
theorem zz_pure (S : zz_S G l own cc nL d n0 mcT msT isI rt Qf w)
    (h : ∀ (p : Program) (e : Env) (R : Room) (s : State) (m : MethodId) (args : Array Value) (below : List Frame) (meth : Method) (c : Code) (Q : State → Prop) (H : Heap) (locs : List Loc) (cells slots : Nat) (ls : Array Slot), p.tables.exec = Jvm.exec → c.code = cc → s.vm.findClass own = some m.cls → (∀ x ∈ zz_t, x.before args s = true) → zz_h G ls nL L →
      (∀ ls', zz_h G ls' nL L' → W p l e R s m args below meth c H locs cells slots Q (F0 m q ls' (st'.map (zz_v G)))) → W p l e R s m args below meth c H locs cells slots Q (F0 m pc ls (st.map (zz_v G))))
    (k : w q L' st' z E im) : w pc L st z E im := by
  obtain ⟨p, e, R, s, m, args, below, meth, c, Q, ⟨hx, hb, hml, hown, hts⟩, -, -, -, -, -, rfl⟩ := S
  intro H locs ls h1 h2 h3 h4 h5 h6
  exact h p e R s m args below meth c Q H locs _ _ ls hx hb hown hts h6 (fun ls' h7 => k H locs ls' h1 h2 h3 h4 h5 h7)
theorem zz_br {c1 : Prop} (S : zz_S G l own cc nL d n0 mcT msT isI rt Qf w)
    (h : ∀ (p : Program) (e : Env) (R : Room) (s : State) (m : MethodId) (args : Array Value) (below : List Frame) (meth : Method) (c : Code) (Q : State → Prop) (H : Heap) (locs : List Loc) (cells slots : Nat) (ls : Array Slot), p.tables.exec = Jvm.exec → c.code = cc →
      (c1 → W p l e R s m args below meth c H locs cells slots Q (F0 m t ls (st'.map (zz_v G)))) → (¬ c1 → W p l e R s m args below meth c H locs cells slots Q (F0 m q ls (st'.map (zz_v G)))) → W p l e R s m args below meth c H locs cells slots Q (F0 m pc ls (st.map (zz_v G))))
    (kt : c1 → w t L st' z E im) (kf : ¬ c1 → w q L st' z E im) : w pc L st z E im := by
  obtain ⟨p, e, R, s, m, args, below, meth, c, Q, ⟨hx, hb, hml, hown, hts⟩, -, -, -, -, -, rfl⟩ := S
  intro H locs ls h1 h2 h3 h4 h5 h6
  exact h p e R s m args below meth c Q H locs _ _ ls hx hb (fun hc => kt hc H locs ls h1 h2 h3 h4 h5 h6) (fun hc => kf hc H locs ls h1 h2 h3 h4 h5 h6)
/-- fewer locals known -/
theorem zz_lok (S : zz_S G l own cc nL d n0 mcT msT isI rt Qf w) (hl : L'.length ≤ L.length) (hs : ∀ (k : Nat) (v : Value), L'[k]? = some (some v) → L[k]? = some (some v)) (k : w pc L' st z E im) : w pc L st z E im := by
  obtain ⟨p, e, R, s, m, args, below, meth, c, Q, ⟨hx, hb, hml, hown, hts⟩, -, -, -, -, -, rfl⟩ := S
  intro H locs ls h1 h2 h3 h4 h5 h6
  exact k H locs ls h1 h2 h3 h4 h5 (zz_drop h6 hl hs)

theorem zz_iconst (S : zz_S G l own cc nL d n0 mcT msT isI rt Qf w) {n : Int} {v : Int32} (hv : Int32.ofInt n = v) (hd : decode cc pc = .ok (.iconst n, 1)) (hq : pc + 1 = q) (k : w q (L) (.int v :: st) z E im) : w pc (L) (st) z E im := by
  subst hq
  exact zz_pure S (fun _ _ _ _ _ _ _ _ _ _ _ _ _ _ _ hx hb hown hts hl kk => lv_iconst hx hb hd hv (kk _ hl)) k
theorem zz_bipush (S : zz_S G l own cc nL d n0 mcT msT isI rt Qf w) {n : Int} {v : Int32} (hv : (Int8.ofInt n).toInt32 = v) (hd : decode cc pc = .ok (.bipush n, 2)) (hq : pc + 2 = q) (k : w q (L) (.int v :: st) z E im) : w pc (L) (st) z E im := by
  subst hq
  exact zz_pure S (fun _ _ _ _ _ _ _ _ _ _ _ _ _ _ _ hx hb hown hts hl kk => lv_bipush hx hb hd hv (kk _ hl)) k
theorem zz_sipush (S : zz_S G l own cc nL d n0 mcT msT isI rt Qf w) {n : Int} {v : Int32} (hv : (Int16.ofInt n).toInt32 = v) (hd : decode cc pc = .ok (.sipush n, 3)) (hq : pc + 3 = q) (k : w q (L) (.int v :: st) z E im) : w pc (L) (st) z E im := by
  subst hq
  exact zz_pure S (fun _ _ _ _ _ _ _ _ _ _ _ _ _ _ _ hx hb hown hts hl kk => lv_sipush hx hb hd hv (kk _ hl)) k
theorem zz_lconst (S : zz_S G l own cc nL d n0 mcT msT isI rt Qf w) {n : Fin 2} {v : Int64} (hv : Int64.ofNat (n : Nat) = v) (hd : decode cc pc = .ok (.lconst n, 1)) (hq : pc + 1 = q) (k : w q (L) (.long v :: st) z E im) : w pc (L) (st) z E im := by
  subst hq
  exact zz_pure S (fun _ _ _ _ _ _ _ _ _ _ _ _ _ _ _ hx hb hown hts hl kk => lv_lconst hx hb hd hv (kk _ hl)) k
theorem zz_ldc (S : zz_S G l own cc nL d n0 mcT msT isI rt Qf w) {index : Nat} {v : Int32} (hc : Cond.constant own index v ∈ zz_t) (hd : decode cc pc = .ok (.ldc index, 2)) (hq : pc + 2 = q) (k : w q (L) (.int v :: st) z E im) : w pc (L) (st) z E im := by
  subst hq
  exact zz_pure S (fun _ _ _ _ _ _ _ _ _ _ _ _ _ _ _ hx hb hown hts hl kk => lv_ldc hx hb hown (hts _ hc) hd (kk _ hl)) k
theorem zz_ldcw (S : zz_S G l own cc nL d n0 mcT msT isI rt Qf w) {index : Nat} {v : Int32} (hc : Cond.constant own index v ∈ zz_t) (hd : decode cc pc = .ok (.ldc_w index, 3)) (hq : pc + 3 = q) (k : w q (L) (.int v :: st) z E im) : w pc (L) (st) z E im := by
  subst hq
  exact zz_pure S (fun _ _ _ _ _ _ _ _ _ _ _ _ _ _ _ hx hb hown hts hl kk => lv_ldcw hx hb hown (hts _ hc) hd (kk _ hl)) k
theorem zz_ldc2 (S : zz_S G l own cc nL d n0 mcT msT isI rt Qf w) {index : Nat} {v : Int64} (hc : Cond.constantLong own index v ∈ zz_t) (hd : decode cc pc = .ok (.ldc2_w index, 3)) (hq : pc + 3 = q) (k : w q (L) (.long v :: st) z E im) : w pc (L) (st) z E im := by
  subst hq
  exact zz_pure S (fun _ _ _ _ _ _ _ _ _ _ _ _ _ _ _ hx hb hown hts hl kk => lv_ldc2 hx hb hown (hts _ hc) hd (kk _ hl)) k
theorem zz_iadd (S : zz_S G l own cc nL d n0 mcT msT isI rt Qf w) {x y : Int32} (hd : decode cc pc = .ok (.iadd, 1)) (hq : pc + 1 = q) (k : w q (L) (.int (x + y) :: st) z E im) : w pc (L) (.int y :: .int x :: st) z E im := by
  subst hq
  exact zz_pure S (fun _ _ _ _ _ _ _ _ _ _ _ _ _ _ _ hx hb hown hts hl kk => lv_iadd hx hb hd (kk _ hl)) k
theorem zz_isub (S : zz_S G l own cc nL d n0 mcT msT isI rt Qf w) {x y : Int32} (hd : decode cc pc = .ok (.isub, 1)) (hq : pc + 1 = q) (k : w q (L) (.int (x - y) :: st) z E im) : w pc (L) (.int y :: .int x :: st) z E im := by
  subst hq
  exact zz_pure S (fun _ _ _ _ _ _ _ _ _ _ _ _ _ _ _ hx hb hown hts hl kk => lv_isub hx hb hd (kk _ hl)) k
theorem zz_imul (S : zz_S G l own cc nL d n0 mcT msT isI rt Qf w) {x y : Int32} (hd : decode cc pc = .ok (.imul, 1)) (hq : pc + 1 = q) (k : w q (L) (.int (x * y) :: st) z E im) : w pc (L) (.int y :: .int x :: st) z E im := by
  subst hq
  exact zz_pure S (fun _ _ _ _ _ _ _ _ _ _ _ _ _ _ _ hx hb hown hts hl kk => lv_imul hx hb hd (kk _ hl)) k
theorem zz_iand (S : zz_S G l own cc nL d n0 mcT msT isI rt Qf w) {x y : Int32} (hd : decode cc pc = .ok (.iand, 1)) (hq : pc + 1 = q) (k : w q (L) (.int (x &&& y) :: st) z E im) : w pc (L) (.int y :: .int x :: st) z E im := by
  subst hq
  exact zz_pure S (fun _ _ _ _ _ _ _ _ _ _ _ _ _ _ _ hx hb hown hts hl kk => lv_iand hx hb hd (kk _ hl)) k
theorem zz_ior (S : zz_S G l own cc nL d n0 mcT msT isI rt Qf w) {x y : Int32} (hd : decode cc pc = .ok (.ior, 1)) (hq : pc + 1 = q) (k : w q (L) (.int (x ||| y) :: st) z E im) : w pc (L) (.int y :: .int x :: st) z E im := by
  subst hq
  exact zz_pure S (fun _ _ _ _ _ _ _ _ _ _ _ _ _ _ _ hx hb hown hts hl kk => lv_ior hx hb hd (kk _ hl)) k
theorem zz_ixor (S : zz_S G l own cc nL d n0 mcT msT isI rt Qf w) {x y : Int32} (hd : decode cc pc = .ok (.ixor, 1)) (hq : pc + 1 = q) (k : w q (L) (.int (x ^^^ y) :: st) z E im) : w pc (L) (.int y :: .int x :: st) z E im := by
  subst hq
  exact zz_pure S (fun _ _ _ _ _ _ _ _ _ _ _ _ _ _ _ hx hb hown hts hl kk => lv_ixor hx hb hd (kk _ hl)) k
theorem zz_ishl (S : zz_S G l own cc nL d n0 mcT msT isI rt Qf w) {x y : Int32} (hd : decode cc pc = .ok (.ishl, 1)) (hq : pc + 1 = q) (k : w q (L) (.int (x <<< (y &&& 31)) :: st) z E im) : w pc (L) (.int y :: .int x :: st) z E im := by
  subst hq
  exact zz_pure S (fun _ _ _ _ _ _ _ _ _ _ _ _ _ _ _ hx hb hown hts hl kk => lv_ishl hx hb hd (kk _ hl)) k
theorem zz_ishr (S : zz_S G l own cc nL d n0 mcT msT isI rt Qf w) {x y : Int32} (hd : decode cc pc = .ok (.ishr, 1)) (hq : pc + 1 = q) (k : w q (L) (.int (x >>> (y &&& 31)) :: st) z E im) : w pc (L) (.int y :: .int x :: st) z E im := by
  subst hq
  exact zz_pure S (fun _ _ _ _ _ _ _ _ _ _ _ _ _ _ _ hx hb hown hts hl kk => lv_ishr hx hb hd (kk _ hl)) k
theorem zz_iushr (S : zz_S G l own cc nL d n0 mcT msT isI rt Qf w) {x y : Int32} (hd : decode cc pc = .ok (.iushr, 1)) (hq : pc + 1 = q) (k : w q (L) (.int ((x.toUInt32 >>> (y.toUInt32 &&& Int32.toUInt32 31)).toInt32) :: st) z E im) : w pc (L) (.int y :: .int x :: st) z E im := by
  subst hq
  exact zz_pure S (fun _ _ _ _ _ _ _ _ _ _ _ _ _ _ _ hx hb hown hts hl kk => lv_iushr hx hb hd rfl (kk _ hl)) k
theorem zz_idiv (S : zz_S G l own cc nL d n0 mcT msT isI rt Qf w) {x y : Int32} (hne : ¬ y = 0) (hd : decode cc pc = .ok (.idiv, 1)) (hq : pc + 1 = q) (k : w q (L) (.int (x / y) :: st) z E im) : w pc (L) (.int y :: .int x :: st) z E im := by
  subst hq
  exact zz_pure S (fun _ _ _ _ _ _ _ _ _ _ _ _ _ _ _ hx hb hown hts hl kk => lv_idiv hx hb hd hne (kk _ hl)) k
theorem zz_irem (S : zz_S G l own cc nL d n0 mcT msT isI rt Qf w) {x y : Int32} (hne : ¬ y = 0) (hd : decode cc pc = .ok (.irem, 1)) (hq : pc + 1 = q) (k : w q (L) (.int (x - x / y * y) :: st) z E im) : w pc (L) (.int y :: .int x :: st) z E im := by
  subst hq
  exact zz_pure S (fun _ _ _ _ _ _ _ _ _ _ _ _ _ _ _ hx hb hown hts hl kk => lv_irem hx hb hd hne (kk _ hl)) k
theorem zz_ineg (S : zz_S G l own cc nL d n0 mcT msT isI rt Qf w) {x : Int32} (hd : decode cc pc = .ok (.ineg, 1)) (hq : pc + 1 = q) (k : w q (L) (.int (-x) :: st) z E im) : w pc (L) (.int x :: st) z E im := by
  subst hq
  exact zz_pure S (fun _ _ _ _ _ _ _ _ _ _ _ _ _ _ _ hx hb hown hts hl kk => lv_ineg hx hb hd (kk _ hl)) k
theorem zz_ladd (S : zz_S G l own cc nL d n0 mcT msT isI rt Qf w) {x y : Int64} (hd : decode cc pc = .ok (.ladd, 1)) (hq : pc + 1 = q) (k : w q (L) (.long (x + y) :: st) z E im) : w pc (L) (.long y :: .long x :: st) z E im := by
  subst hq
  exact zz_pure S (fun _ _ _ _ _ _ _ _ _ _ _ _ _ _ _ hx hb hown hts hl kk => lv_ladd hx hb hd (kk _ hl)) k
theorem zz_lsub (S : zz_S G l own cc nL d n0 mcT msT isI rt Qf w) {x y : Int64} (hd : decode cc pc = .ok (.lsub, 1)) (hq : pc + 1 = q) (k : w q (L) (.long (x - y) :: st) z E im) : w pc (L) (.long y :: .long x :: st) z E im := by
  subst hq
  exact zz_pure S (fun _ _ _ _ _ _ _ _ _ _ _ _ _ _ _ hx hb hown hts hl kk => lv_lsub hx hb hd (kk _ hl)) k
theorem zz_lmul (S : zz_S G l own cc nL d n0 mcT msT isI rt Qf w) {x y : Int64} (hd : decode cc pc = .ok (.lmul, 1)) (hq : pc + 1 = q) (k : w q (L) (.long (x * y) :: st) z E im) : w pc (L) (.long y :: .long x :: st) z E im := by
  subst hq
  exact zz_pure S (fun _ _ _ _ _ _ _ _ _ _ _ _ _ _ _ hx hb hown hts hl kk => lv_lmul hx hb hd (kk _ hl)) k
theorem zz_ldiv (S : zz_S G l own cc nL d n0 mcT msT isI rt Qf w) {x y : Int64} (hne : ¬ y = 0) (hd : decode cc pc = .ok (.ldiv, 1)) (hq : pc + 1 = q) (k : w q (L) (.long (x / y) :: st) z E im) : w pc (L) (.long y :: .long x :: st) z E im := by
  subst hq
  exact zz_pure S (fun _ _ _ _ _ _ _ _ _ _ _ _ _ _ _ hx hb hown hts hl kk => lv_ldiv hx hb hd hne (kk _ hl)) k
theorem zz_lrem (S : zz_S G l own cc nL d n0 mcT msT isI rt Qf w) {x y : Int64} (hne : ¬ y = 0) (hd : decode cc pc = .ok (.lrem, 1)) (hq : pc + 1 = q) (k : w q (L) (.long (x - x / y * y) :: st) z E im) : w pc (L) (.long y :: .long x :: st) z E im := by
  subst hq
  exact zz_pure S (fun _ _ _ _ _ _ _ _ _ _ _ _ _ _ _ hx hb hown hts hl kk => lv_lrem hx hb hd hne (kk _ hl)) k
theorem zz_lneg (S : zz_S G l own cc nL d n0 mcT msT isI rt Qf w) {x : Int64} (hd : decode cc pc = .ok (.lneg, 1)) (hq : pc + 1 = q) (k : w q (L) (.long (-x) :: st) z E im) : w pc (L) (.long x :: st) z E im := by
  subst hq
  exact zz_pure S (fun _ _ _ _ _ _ _ _ _ _ _ _ _ _ _ hx hb hown hts hl kk => lv_lneg hx hb hd (kk _ hl)) k
theorem zz_lcmp (S : zz_S G l own cc nL d n0 mcT msT isI rt Qf w) {x y : Int64} (hd : decode cc pc = .ok (.lcmp, 1)) (hq : pc + 1 = q) (k : w q (L) (.int (lg_cmp x y) :: st) z E im) : w pc (L) (.long y :: .long x :: st) z E im := by
  subst hq
  exact zz_pure S (fun _ _ _ _ _ _ _ _ _ _ _ _ _ _ _ hx hb hown hts hl kk => W.lcmp hx hb hd (kk _ hl)) k
theorem zz_i2l (S : zz_S G l own cc nL d n0 mcT msT isI rt Qf w) {x : Int32} (hd : decode cc pc = .ok (.i2l, 1)) (hq : pc + 1 = q) (k : w q (L) (.long x.toInt64 :: st) z E im) : w pc (L) (.int x :: st) z E im := by
  subst hq
  exact zz_pure S (fun _ _ _ _ _ _ _ _ _ _ _ _ _ _ _ hx hb hown hts hl kk => lv_i2l hx hb hd rfl (kk _ hl)) k
theorem zz_l2i (S : zz_S G l own cc nL d n0 mcT msT isI rt Qf w) {x : Int64} (hd : decode cc pc = .ok (.l2i, 1)) (hq : pc + 1 = q) (k : w q (L) (.int x.toInt32 :: st) z E im) : w pc (L) (.long x :: st) z E im := by
  subst hq
  exact zz_pure S (fun _ _ _ _ _ _ _ _ _ _ _ _ _ _ _ hx hb hown hts hl kk => lv_l2i hx hb hd rfl (kk _ hl)) k
theorem zz_i2c (S : zz_S G l own cc nL d n0 mcT msT isI rt Qf w) {x : Int32} (hd : decode cc pc = .ok (.i2c, 1)) (hq : pc + 1 = q) (k : w q (L) (.int ((x.toUInt32 % 65536).toInt32) :: st) z E im) : w pc (L) (.int x :: st) z E im := by
  subst hq
  exact zz_pure S (fun _ _ _ _ _ _ _ _ _ _ _ _ _ _ _ hx hb hown hts hl kk => lv_i2c hx hb hd rfl (kk _ hl)) k
theorem zz_dup (S : zz_S G l own cc nL d n0 mcT msT isI rt Qf w) {v : Value} (hc : v.category = 1) (hd : decode cc pc = .ok (.dup, 1)) (hq : pc + 1 = q) (k : w q (L) (v :: v :: st) z E im) : w pc (L) (v :: st) z E im := by
  subst hq
  exact zz_pure S (fun _ _ _ _ _ _ _ _ _ _ _ _ _ _ _ hx hb hown hts hl kk => lv_dup hx hb hd ((zz_v_cat _ _).trans hc) (kk _ hl)) k
theorem zz_pop (S : zz_S G l own cc nL d n0 mcT msT isI rt Qf w) {v : Value} (hc : v.category = 1) (hd : decode cc pc = .ok (.pop, 1)) (hq : pc + 1 = q) (k : w q (L) (st) z E im) : w pc (L) (v :: st) z E im := by
  subst hq
  exact zz_pure S (fun _ _ _ _ _ _ _ _ _ _ _ _ _ _ _ hx hb hown hts hl kk => lv_pop hx hb hd ((zz_v_cat _ _).trans hc) (kk _ hl)) k
theorem zz_dup2 (S : zz_S G l own cc nL d n0 mcT msT isI rt Qf w) {v u : Value} (hc : v.category = 1) (hc2 : u.category = 1) (hd : decode cc pc = .ok (.dup2, 1)) (hq : pc + 1 = q) (k : w q (L) (v :: u :: v :: u :: st) z E im) : w pc (L) (v :: u :: st) z E im := by
  subst hq
  exact zz_pure S (fun _ _ _ _ _ _ _ _ _ _ _ _ _ _ _ hx hb hown hts hl kk => lv_dup2_11 hx hb hd ((zz_v_cat _ _).trans hc) ((zz_v_cat _ _).trans hc2) (kk _ hl)) k
theorem zz_iload_0 (S : zz_S G l own cc nL d n0 mcT msT isI rt Qf w) {x : Int32} (hd : decode cc pc = .ok (.iload_n 0, 1)) (hq : pc + 1 = q) (k : w q (some (.int x) :: L) (.int x :: st) z E im) : w pc (some (.int x) :: L) (st) z E im := by
  subst hq
  exact zz_pure S (fun _ _ _ _ _ _ _ _ _ _ _ _ _ _ _ hx hb hown hts hl kk => lv_iload_n (i := 0) hx hb hd rfl (zz_ld (i := 0) (v := .int x) hl rfl) (kk _ hl)) k
theorem zz_iload_1 (S : zz_S G l own cc nL d n0 mcT msT isI rt Qf w) {a0 : Option Value} {x : Int32} (hd : decode cc pc = .ok (.iload_n 1, 1)) (hq : pc + 1 = q) (k : w q (a0 :: some (.int x) :: L) (.int x :: st) z E im) : w pc (a0 :: some (.int x) :: L) (st) z E im := by
  subst hq
  exact zz_pure S (fun _ _ _ _ _ _ _ _ _ _ _ _ _ _ _ hx hb hown hts hl kk => lv_iload_n (i := 1) hx hb hd rfl (zz_ld (i := 1) (v := .int x) hl rfl) (kk _ hl)) k
theorem zz_iload_2 (S : zz_S G l own cc nL d n0 mcT msT isI rt Qf w) {a0 a1 : Option Value} {x : Int32} (hd : decode cc pc = .ok (.iload_n 2, 1)) (hq : pc + 1 = q) (k : w q (a0 :: a1 :: some (.int x) :: L) (.int x :: st) z E im) : w pc (a0 :: a1 :: some (.int x) :: L) (st) z E im := by
  subst hq
  exact zz_pure S (fun _ _ _ _ _ _ _ _ _ _ _ _ _ _ _ hx hb hown hts hl kk => lv_iload_n (i := 2) hx hb hd rfl (zz_ld (i := 2) (v := .int x) hl rfl) (kk _ hl)) k
theorem zz_iload_3 (S : zz_S G l own cc nL d n0 mcT msT isI rt Qf w) {a0 a1 a2 : Option Value} {x : Int32} (hd : decode cc pc = .ok (.iload_n 3, 1)) (hq : pc + 1 = q) (k : w q (a0 :: a1 :: a2 :: some (.int x) :: L) (.int x :: st) z E im) : w pc (a0 :: a1 :: a2 :: some (.int x) :: L) (st) z E im := by
  subst hq
  exact zz_pure S (fun _ _ _ _ _ _ _ _ _ _ _ _ _ _ _ hx hb hown hts hl kk => lv_iload_n (i := 3) hx hb hd rfl (zz_ld (i := 3) (v := .int x) hl rfl) (kk _ hl)) k
theorem zz_iload_4 (S : zz_S G l own cc nL d n0 mcT msT isI rt Qf w) {a0 a1 a2 a3 : Option Value} {x : Int32} (hd : decode cc pc = .ok (.iload 4, 2)) (hq : pc + 2 = q) (k : w q (a0 :: a1 :: a2 :: a3 :: some (.int x) :: L) (.int x :: st) z E im) : w pc (a0 :: a1 :: a2 :: a3 :: some (.int x) :: L) (st) z E im := by
  subst hq
  exact zz_pure S (fun _ _ _ _ _ _ _ _ _ _ _ _ _ _ _ hx hb hown hts hl kk => lv_iload hx hb hd (zz_ld (i := 4) (v := .int x) hl rfl) (kk _ hl)) k
theorem zz_iload_5 (S : zz_S G l own cc nL d n0 mcT msT isI rt Qf w) {a0 a1 a2 a3 a4 : Option Value} {x : Int32} (hd : decode cc pc = .ok (.iload 5, 2)) (hq : pc + 2 = q) (k : w q (a0 :: a1 :: a2 :: a3 :: a4 :: some (.int x) :: L) (.int x :: st) z E im) : w pc (a0 :: a1 :: a2 :: a3 :: a4 :: some (.int x) :: L) (st) z E im := by
  subst hq
  exact zz_pure S (fun _ _ _ _ _ _ _ _ _ _ _ _ _ _ _ hx hb hown hts hl kk => lv_iload hx hb hd (zz_ld (i := 5) (v := .int x) hl rfl) (kk _ hl)) k
theorem zz_iload_6 (S : zz_S G l own cc nL d n0 mcT msT isI rt Qf w) {a0 a1 a2 a3 a4 a5 : Option Value} {x : Int32} (hd : decode cc pc = .ok (.iload 6, 2)) (hq : pc + 2 = q) (k : w q (a0 :: a1 :: a2 :: a3 :: a4 :: a5 :: some (.int x) :: L) (.int x :: st) z E im) : w pc (a0 :: a1 :: a2 :: a3 :: a4 :: a5 :: some (.int x) :: L) (st) z E im := by
  subst hq
  exact zz_pure S (fun _ _ _ _ _ _ _ _ _ _ _ _ _ _ _ hx hb hown hts hl kk => lv_iload hx hb hd (zz_ld (i := 6) (v := .int x) hl rfl) (kk _ hl)) k
theorem zz_iload_7 (S : zz_S G l own cc nL d n0 mcT msT isI rt Qf w) {a0 a1 a2 a3 a4 a5 a6 : Option Value} {x : Int32} (hd : decode cc pc = .ok (.iload 7, 2)) (hq : pc + 2 = q) (k : w q (a0 :: a1 :: a2 :: a3 :: a4 :: a5 :: a6 :: some (.int x) :: L) (.int x :: st) z E im) : w pc (a0 :: a1 :: a2 :: a3 :: a4 :: a5 :: a6 :: some (.int x) :: L) (st) z E im := by
  subst hq
  exact zz_pure S (fun _ _ _ _ _ _ _ _ _ _ _ _ _ _ _ hx hb hown hts hl kk => lv_iload hx hb hd (zz_ld (i := 7) (v := .int x) hl rfl) (kk _ hl)) k
theorem zz_iload_8 (S : zz_S G l own cc nL d n0 mcT msT isI rt Qf w) {a0 a1 a2 a3 a4 a5 a6 a7 : Option Value} {x : Int32} (hd : decode cc pc = .ok (.iload 8, 2)) (hq : pc + 2 = q) (k : w q (a0 :: a1 :: a2 :: a3 :: a4 :: a5 :: a6 :: a7 :: some (.int x) :: L) (.int x :: st) z E im) : w pc (a0 :: a1 :: a2 :: a3 :: a4 :: a5 :: a6 :: a7 :: some (.int x) :: L) (st) z E im := by
  subst hq
  exact zz_pure S (fun _ _ _ _ _ _ _ _ _ _ _ _ _ _ _ hx hb hown hts hl kk => lv_iload hx hb hd (zz_ld (i := 8) (v := .int x) hl rfl) (kk _ hl)) k
theorem zz_iload_9 (S : zz_S G l own cc nL d n0 mcT msT isI rt Qf w) {a0 a1 a2 a3 a4 a5 a6 a7 a8 : Option Value} {x : Int32} (hd : decode cc pc = .ok (.iload 9, 2)) (hq : pc + 2 = q) (k : w q (a0 :: a1 :: a2 :: a3 :: a4 :: a5 :: a6 :: a7 :: a8 :: some (.int x) :: L) (.int x :: st) z E im) : w pc (a0 :: a1 :: a2 :: a3 :: a4 :: a5 :: a6 :: a7 :: a8 :: some (.int x) :: L) (st) z E im := by
  subst hq
  exact zz_pure S (fun _ _ _ _ _ _ _ _ _ _ _ _ _ _ _ hx hb hown hts hl kk => lv_iload hx hb hd (zz_ld (i := 9) (v := .int x) hl rfl) (kk _ hl)) k
theorem zz_iload_10 (S : zz_S G l own cc nL d n0 mcT msT isI rt Qf w) {a0 a1 a2 a3 a4 a5 a6 a7 a8 a9 : Option Value} {x : Int32} (hd : decode cc pc = .ok (.iload 10, 2)) (hq : pc + 2 = q) (k : w q (a0 :: a1 :: a2 :: a3 :: a4 :: a5 :: a6 :: a7 :: a8 :: a9 :: some (.int x) :: L) (.int x :: st) z E im) : w pc (a0 :: a1 :: a2 :: a3 :: a4 :: a5 :: a6 :: a7 :: a8 :: a9 :: some (.int x) :: L) (st) z E im := by
  subst hq
  exact zz_pure S (fun _ _ _ _ _ _ _ _ _ _ _ _ _ _ _ hx hb hown hts hl kk => lv_iload hx hb hd (zz_ld (i := 10) (v := .int x) hl rfl) (kk _ hl)) k
theorem zz_iload_11 (S : zz_S G l own cc nL d n0 mcT msT isI rt Qf w) {a0 a1 a2 a3 a4 a5 a6 a7 a8 a9 a10 : Option Value} {x : Int32} (hd : decode cc pc = .ok (.iload 11, 2)) (hq : pc + 2 = q) (k : w q (a0 :: a1 :: a2 :: a3 :: a4 :: a5 :: a6 :: a7 :: a8 :: a9 :: a10 :: some (.int x) :: L) (.int x :: st) z E im) : w pc (a0 :: a1 :: a2 :: a3 :: a4 :: a5 :: a6 :: a7 :: a8 :: a9 :: a10 :: some (.int x) :: L) (st) z E im := by
  subst hq
  exact zz_pure S (fun _ _ _ _ _ _ _ _ _ _ _ _ _ _ _ hx hb hown hts hl kk => lv_iload hx hb hd (zz_ld (i := 11) (v := .int x) hl rfl) (kk _ hl)) k
theorem zz_iload_12 (S : zz_S G l own cc nL d n0 mcT msT isI rt Qf w) {a0 a1 a2 a3 a4 a5 a6 a7 a8 a9 a10 a11 : Option Value} {x : Int32} (hd : decode cc pc = .ok (.iload 12, 2)) (hq : pc + 2 = q) (k : w q (a0 :: a1 :: a2 :: a3 :: a4 :: a5 :: a6 :: a7 :: a8 :: a9 :: a10 :: a11 :: some (.int x) :: L) (.int x :: st) z E im) : w pc (a0 :: a1 :: a2 :: a3 :: a4 :: a5 :: a6 :: a7 :: a8 :: a9 :: a10 :: a11 :: some (.int x) :: L) (st) z E im := by
  subst hq
  exact zz_pure S (fun _ _ _ _ _ _ _ _ _ _ _ _ _ _ _ hx hb hown hts hl kk => lv_iload hx hb hd (zz_ld (i := 12) (v := .int x) hl rfl) (kk _ hl)) k
theorem zz_iload_13 (S : zz_S G l own cc nL d n0 mcT msT isI rt Qf w) {a0 a1 a2 a3 a4 a5 a6 a7 a8 a9 a10 a11 a12 : Option Value} {x : Int32} (hd : decode cc pc = .ok (.iload 13, 2)) (hq : pc + 2 = q) (k : w q (a0 :: a1 :: a2 :: a3 :: a4 :: a5 :: a6 :: a7 :: a8 :: a9 :: a10 :: a11 :: a12 :: some (.int x) :: L) (.int x :: st) z E im) : w pc (a0 :: a1 :: a2 :: a3 :: a4 :: a5 :: a6 :: a7 :: a8 :: a9 :: a10 :: a11 :: a12 :: some (.int x) :: L) (st) z E im := by
  subst hq
  exact zz_pure S (fun _ _ _ _ _ _ _ _ _ _ _ _ _ _ _ hx hb hown hts hl kk => lv_iload hx hb hd (zz_ld (i := 13) (v := .int x) hl rfl) (kk _ hl)) k
theorem zz_iload_14 (S : zz_S G l own cc nL d n0 mcT msT isI rt Qf w) {a0 a1 a2 a3 a4 a5 a6 a7 a8 a9 a10 a11 a12 a13 : Option Value} {x : Int32} (hd : decode cc pc = .ok (.iload 14, 2)) (hq : pc + 2 = q) (k : w q (a0 :: a1 :: a2 :: a3 :: a4 :: a5 :: a6 :: a7 :: a8 :: a9 :: a10 :: a11 :: a12 :: a13 :: some (.int x) :: L) (.int x :: st) z E im) : w pc (a0 :: a1 :: a2 :: a3 :: a4 :: a5 :: a6 :: a7 :: a8 :: a9 :: a10 :: a11 :: a12 :: a13 :: some (.int x) :: L) (st) z E im := by
  subst hq
  exact zz_pure S (fun _ _ _ _ _ _ _ _ _ _ _ _ _ _ _ hx hb hown hts hl kk => lv_iload hx hb hd (zz_ld (i := 14) (v := .int x) hl rfl) (kk _ hl)) k
theorem zz_iload_15 (S : zz_S G l own cc nL d n0 mcT msT isI rt Qf w) {a0 a1 a2 a3 a4 a5 a6 a7 a8 a9 a10 a11 a12 a13 a14 : Option Value} {x : Int32} (hd : decode cc pc = .ok (.iload 15, 2)) (hq : pc + 2 = q) (k : w q (a0 :: a1 :: a2 :: a3 :: a4 :: a5 :: a6 :: a7 :: a8 :: a9 :: a10 :: a11 :: a12 :: a13 :: a14 :: some (.int x) :: L) (.int x :: st) z E im) : w pc (a0 :: a1 :: a2 :: a3 :: a4 :: a5 :: a6 :: a7 :: a8 :: a9 :: a10 :: a11 :: a12 :: a13 :: a14 :: some (.int x) :: L) (st) z E im := by
  subst hq
  exact zz_pure S (fun _ _ _ _ _ _ _ _ _ _ _ _ _ _ _ hx hb hown hts hl kk => lv_iload hx hb hd (zz_ld (i := 15) (v := .int x) hl rfl) (kk _ hl)) k
theorem zz_iload_16 (S : zz_S G l own cc nL d n0 mcT msT isI rt Qf w) {a0 a1 a2 a3 a4 a5 a6 a7 a8 a9 a10 a11 a12 a13 a14 a15 : Option Value} {x : Int32} (hd : decode cc pc = .ok (.iload 16, 2)) (hq : pc + 2 = q) (k : w q (a0 :: a1 :: a2 :: a3 :: a4 :: a5 :: a6 :: a7 :: a8 :: a9 :: a10 :: a11 :: a12 :: a13 :: a14 :: a15 :: some (.int x) :: L) (.int x :: st) z E im) : w pc (a0 :: a1 :: a2 :: a3 :: a4 :: a5 :: a6 :: a7 :: a8 :: a9 :: a10 :: a11 :: a12 :: a13 :: a14 :: a15 :: some (.int x) :: L) (st) z E im := by
  subst hq
  exact zz_pure S (fun _ _ _ _ _ _ _ _ _ _ _ _ _ _ _ hx hb hown hts hl kk => lv_iload hx hb hd (zz_ld (i := 16) (v := .int x) hl rfl) (kk _ hl)) k
theorem zz_lload_0 (S : zz_S G l own cc nL d n0 mcT msT isI rt Qf w) {x : Int64} (hd : decode cc pc = .ok (.lload_n 0, 1)) (hq : pc + 1 = q) (k : w q (some (.long x) :: L) (.long x :: st) z E im) : w pc (some (.long x) :: L) (st) z E im := by
  subst hq
  exact zz_pure S (fun _ _ _ _ _ _ _ _ _ _ _ _ _ _ _ hx hb hown hts hl kk => lv_lload_n (i := 0) hx hb hd rfl (zz_ld (i := 0) (v := .long x) hl rfl) (kk _ hl)) k
theorem zz_lload_1 (S : zz_S G l own cc nL d n0 mcT msT isI rt Qf w) {a0 : Option Value} {x : Int64} (hd : decode cc pc = .ok (.lload_n 1, 1)) (hq : pc + 1 = q) (k : w q (a0 :: some (.long x) :: L) (.long x :: st) z E im) : w pc (a0 :: some (.long x) :: L) (st) z E im := by
  subst hq
  exact zz_pure S (fun _ _ _ _ _ _ _ _ _ _ _ _ _ _ _ hx hb hown hts hl kk => lv_lload_n (i := 1) hx hb hd rfl (zz_ld (i := 1) (v := .long x) hl rfl) (kk _ hl)) k
theorem zz_lload_2 (S : zz_S G l own cc nL d n0 mcT msT isI rt Qf w) {a0 a1 : Option Value} {x : Int64} (hd : decode cc pc = .ok (.lload_n 2, 1)) (hq : pc + 1 = q) (k : w q (a0 :: a1 :: some (.long x) :: L) (.long x :: st) z E im) : w pc (a0 :: a1 :: some (.long x) :: L) (st) z E im := by
  subst hq
  exact zz_pure S (fun _ _ _ _ _ _ _ _ _ _ _ _ _ _ _ hx hb hown hts hl kk => lv_lload_n (i := 2) hx hb hd rfl (zz_ld (i := 2) (v := .long x) hl rfl) (kk _ hl)) k
theorem zz_lload_3 (S : zz_S G l own cc nL d n0 mcT msT isI rt Qf w) {a0 a1 a2 : Option Value} {x : Int64} (hd : decode cc pc = .ok (.lload_n 3, 1)) (hq : pc + 1 = q) (k : w q (a0 :: a1 :: a2 :: some (.long x) :: L) (.long x :: st) z E im) : w pc (a0 :: a1 :: a2 :: some (.long x) :: L) (st) z E im := by
  subst hq
  exact zz_pure S (fun _ _ _ _ _ _ _ _ _ _ _ _ _ _ _ hx hb hown hts hl kk => lv_lload_n (i := 3) hx hb hd rfl (zz_ld (i := 3) (v := .long x) hl rfl) (kk _ hl)) k
theorem zz_lload_4 (S : zz_S G l own cc nL d n0 mcT msT isI rt Qf w) {a0 a1 a2 a3 : Option Value} {x : Int64} (hd : decode cc pc = .ok (.lload 4, 2)) (hq : pc + 2 = q) (k : w q (a0 :: a1 :: a2 :: a3 :: some (.long x) :: L) (.long x :: st) z E im) : w pc (a0 :: a1 :: a2 :: a3 :: some (.long x) :: L) (st) z E im := by
  subst hq
  exact zz_pure S (fun _ _ _ _ _ _ _ _ _ _ _ _ _ _ _ hx hb hown hts hl kk => lv_lload hx hb hd (zz_ld (i := 4) (v := .long x) hl rfl) (kk _ hl)) k
theorem zz_lload_5 (S : zz_S G l own cc nL d n0 mcT msT isI rt Qf w) {a0 a1 a2 a3 a4 : Option Value} {x : Int64} (hd : decode cc pc = .ok (.lload 5, 2)) (hq : pc + 2 = q) (k : w q (a0 :: a1 :: a2 :: a3 :: a4 :: some (.long x) :: L) (.long x :: st) z E im) : w pc (a0 :: a1 :: a2 :: a3 :: a4 :: some (.long x) :: L) (st) z E im := by
  subst hq
  exact zz_pure S (fun _ _ _ _ _ _ _ _ _ _ _ _ _ _ _ hx hb hown hts hl kk => lv_lload hx hb hd (zz_ld (i := 5) (v := .long x) hl rfl) (kk _ hl)) k
theorem zz_lload_6 (S : zz_S G l own cc nL d n0 mcT msT isI rt Qf w) {a0 a1 a2 a3 a4 a5 : Option Value} {x : Int64} (hd : decode cc pc = .ok (.lload 6, 2)) (hq : pc + 2 = q) (k : w q (a0 :: a1 :: a2 :: a3 :: a4 :: a5 :: some (.long x) :: L) (.long x :: st) z E im) : w pc (a0 :: a1 :: a2 :: a3 :: a4 :: a5 :: some (.long x) :: L) (st) z E im := by
  subst hq
  exact zz_pure S (fun _ _ _ _ _ _ _ _ _ _ _ _ _ _ _ hx hb hown hts hl kk => lv_lload hx hb hd (zz_ld (i := 6) (v := .long x) hl rfl) (kk _ hl)) k
theorem zz_lload_7 (S : zz_S G l own cc nL d n0 mcT msT isI rt Qf w) {a0 a1 a2 a3 a4 a5 a6 : Option Value} {x : Int64} (hd : decode cc pc = .ok (.lload 7, 2)) (hq : pc + 2 = q) (k : w q (a0 :: a1 :: a2 :: a3 :: a4 :: a5 :: a6 :: some (.long x) :: L) (.long x :: st) z E im) : w pc (a0 :: a1 :: a2 :: a3 :: a4 :: a5 :: a6 :: some (.long x) :: L) (st) z E im := by
  subst hq
  exact zz_pure S (fun _ _ _ _ _ _ _ _ _ _ _ _ _ _ _ hx hb hown hts hl kk => lv_lload hx hb hd (zz_ld (i := 7) (v := .long x) hl rfl) (kk _ hl)) k
theorem zz_lload_8 (S : zz_S G l own cc nL d n0 mcT msT isI rt Qf w) {a0 a1 a2 a3 a4 a5 a6 a7 : Option Value} {x : Int64} (hd : decode cc pc = .ok (.lload 8, 2)) (hq : pc + 2 = q) (k : w q (a0 :: a1 :: a2 :: a3 :: a4 :: a5 :: a6 :: a7 :: some (.long x) :: L) (.long x :: st) z E im) : w pc (a0 :: a1 :: a2 :: a3 :: a4 :: a5 :: a6 :: a7 :: some (.long x) :: L) (st) z E im := by
  subst hq
  exact zz_pure S (fun _ _ _ _ _ _ _ _ _ _ _ _ _ _ _ hx hb hown hts hl kk => lv_lload hx hb hd (zz_ld (i := 8) (v := .long x) hl rfl) (kk _ hl)) k
theorem zz_lload_9 (S : zz_S G l own cc nL d n0 mcT msT isI rt Qf w) {a0 a1 a2 a3 a4 a5 a6 a7 a8 : Option Value} {x : Int64} (hd : decode cc pc = .ok (.lload 9, 2)) (hq : pc + 2 = q) (k : w q (a0 :: a1 :: a2 :: a3 :: a4 :: a5 :: a6 :: a7 :: a8 :: some (.long x) :: L) (.long x :: st) z E im) : w pc (a0 :: a1 :: a2 :: a3 :: a4 :: a5 :: a6 :: a7 :: a8 :: some (.long x) :: L) (st) z E im := by
  subst hq
  exact zz_pure S (fun _ _ _ _ _ _ _ _ _ _ _ _ _ _ _ hx hb hown hts hl kk => lv_lload hx hb hd (zz_ld (i := 9) (v := .long x) hl rfl) (kk _ hl)) k
theorem zz_lload_10 (S : zz_S G l own cc nL d n0 mcT msT isI rt Qf w) {a0 a1 a2 a3 a4 a5 a6 a7 a8 a9 : Option Value} {x : Int64} (hd : decode cc pc = .ok (.lload 10, 2)) (hq : pc + 2 = q) (k : w q (a0 :: a1 :: a2 :: a3 :: a4 :: a5 :: a6 :: a7 :: a8 :: a9 :: some (.long x) :: L) (.long x :: st) z E im) : w pc (a0 :: a1 :: a2 :: a3 :: a4 :: a5 :: a6 :: a7 :: a8 :: a9 :: some (.long x) :: L) (st) z E im := by
  subst hq
  exact zz_pure S (fun _ _ _ _ _ _ _ _ _ _ _ _ _ _ _ hx hb hown hts hl kk => lv_lload hx hb hd (zz_ld (i := 10) (v := .long x) hl rfl) (kk _ hl)) k
theorem zz_lload_11 (S : zz_S G l own cc nL d n0 mcT msT isI rt Qf w) {a0 a1 a2 a3 a4 a5 a6 a7 a8 a9 a10 : Option Value} {x : Int64} (hd : decode cc pc = .ok (.lload 11, 2)) (hq : pc + 2 = q) (k : w q (a0 :: a1 :: a2 :: a3 :: a4 :: a5 :: a6 :: a7 :: a8 :: a9 :: a10 :: some (.long x) :: L) (.long x :: st) z E im) : w pc (a0 :: a1 :: a2 :: a3 :: a4 :: a5 :: a6 :: a7 :: a8 :: a9 :: a10 :: some (.long x) :: L) (st) z E im := by
  subst hq
  exact zz_pure S (fun _ _ _ _ _ _ _ _ _ _ _ _ _ _ _ hx hb hown hts hl kk => lv_lload hx hb hd (zz_ld (i := 11) (v := .long x) hl rfl) (kk _ hl)) k
theorem zz_lload_12 (S : zz_S G l own cc nL d n0 mcT msT isI rt Qf w) {a0 a1 a2 a3 a4 a5 a6 a7 a8 a9 a10 a11 : Option Value} {x : Int64} (hd : decode cc pc = .ok (.lload 12, 2)) (hq : pc + 2 = q) (k : w q (a0 :: a1 :: a2 :: a3 :: a4 :: a5 :: a6 :: a7 :: a8 :: a9 :: a10 :: a11 :: some (.long x) :: L) (.long x :: st) z E im) : w pc (a0 :: a1 :: a2 :: a3 :: a4 :: a5 :: a6 :: a7 :: a8 :: a9 :: a10 :: a11 :: some (.long x) :: L) (st) z E im := by
  subst hq
  exact zz_pure S (fun _ _ _ _ _ _ _ _ _ _ _ _ _ _ _ hx hb hown hts hl kk => lv_lload hx hb hd (zz_ld (i := 12) (v := .long x) hl rfl) (kk _ hl)) k
theorem zz_lload_13 (S : zz_S G l own cc nL d n0 mcT msT isI rt Qf w) {a0 a1 a2 a3 a4 a5 a6 a7 a8 a9 a10 a11 a12 : Option Value} {x : Int64} (hd : decode cc pc = .ok (.lload 13, 2)) (hq : pc + 2 = q) (k : w q (a0 :: a1 :: a2 :: a3 :: a4 :: a5 :: a6 :: a7 :: a8 :: a9 :: a10 :: a11 :: a12 :: some (.long x) :: L) (.long x :: st) z E im) : w pc (a0 :: a1 :: a2 :: a3 :: a4 :: a5 :: a6 :: a7 :: a8 :: a9 :: a10 :: a11 :: a12 :: some (.long x) :: L) (st) z E im := by
  subst hq
  exact zz_pure S (fun _ _ _ _ _ _ _ _ _ _ _ _ _ _ _ hx hb hown hts hl kk => lv_lload hx hb hd (zz_ld (i := 13) (v := .long x) hl rfl) (kk _ hl)) k
theorem zz_lload_14 (S : zz_S G l own cc nL d n0 mcT msT isI rt Qf w) {a0 a1 a2 a3 a4 a5 a6 a7 a8 a9 a10 a11 a12 a13 : Option Value} {x : Int64} (hd : decode cc pc = .ok (.lload 14, 2)) (hq : pc + 2 = q) (k : w q (a0 :: a1 :: a2 :: a3 :: a4 :: a5 :: a6 :: a7 :: a8 :: a9 :: a10 :: a11 :: a12 :: a13 :: some (.long x) :: L) (.long x :: st) z E im) : w pc (a0 :: a1 :: a2 :: a3 :: a4 :: a5 :: a6 :: a7 :: a8 :: a9 :: a10 :: a11 :: a12 :: a13 :: some (.long x) :: L) (st) z E im := by
  subst hq
  exact zz_pure S (fun _ _ _ _ _ _ _ _ _ _ _ _ _ _ _ hx hb hown hts hl kk => lv_lload hx hb hd (zz_ld (i := 14) (v := .long x) hl rfl) (kk _ hl)) k
theorem zz_lload_15 (S : zz_S G l own cc nL d n0 mcT msT isI rt Qf w) {a0 a1 a2 a3 a4 a5 a6 a7 a8 a9 a10 a11 a12 a13 a14 : Option Value} {x : Int64} (hd : decode cc pc = .ok (.lload 15, 2)) (hq : pc + 2 = q) (k : w q (a0 :: a1 :: a2 :: a3 :: a4 :: a5 :: a6 :: a7 :: a8 :: a9 :: a10 :: a11 :: a12 :: a13 :: a14 :: some (.long x) :: L) (.long x :: st) z E im) : w pc (a0 :: a1 :: a2 :: a3 :: a4 :: a5 :: a6 :: a7 :: a8 :: a9 :: a10 :: a11 :: a12 :: a13 :: a14 :: some (.long x) :: L) (st) z E im := by
  subst hq
  exact zz_pure S (fun _ _ _ _ _ _ _ _ _ _ _ _ _ _ _ hx hb hown hts hl kk => lv_lload hx hb hd (zz_ld (i := 15) (v := .long x) hl rfl) (kk _ hl)) k
theorem zz_lload_16 (S : zz_S G l own cc nL d n0 mcT msT isI rt Qf w) {a0 a1 a2 a3 a4 a5 a6 a7 a8 a9 a10 a11 a12 a13 a14 a15 : Option Value} {x : Int64} (hd : decode cc pc = .ok (.lload 16, 2)) (hq : pc + 2 = q) (k : w q (a0 :: a1 :: a2 :: a3 :: a4 :: a5 :: a6 :: a7 :: a8 :: a9 :: a10 :: a11 :: a12 :: a13 :: a14 :: a15 :: some (.long x) :: L) (.long x :: st) z E im) : w pc (a0 :: a1 :: a2 :: a3 :: a4 :: a5 :: a6 :: a7 :: a8 :: a9 :: a10 :: a11 :: a12 :: a13 :: a14 :: a15 :: some (.long x) :: L) (st) z E im := by
  subst hq
  exact zz_pure S (fun _ _ _ _ _ _ _ _ _ _ _ _ _ _ _ hx hb hown hts hl kk => lv_lload hx hb hd (zz_ld (i := 16) (v := .long x) hl rfl) (kk _ hl)) k
theorem zz_aload_0 (S : zz_S G l own cc nL d n0 mcT msT isI rt Qf w) {x : Nat} (hd : decode cc pc = .ok (.aload_n 0, 1)) (hq : pc + 1 = q) (k : w q (some (.ref x) :: L) (.ref x :: st) z E im) : w pc (some (.ref x) :: L) (st) z E im := by
  subst hq
  exact zz_pure S (fun _ _ _ _ _ _ _ _ _ _ _ _ _ _ _ hx hb hown hts hl kk => lv_aload_n (i := 0) hx hb hd rfl (zz_ld (i := 0) (v := .ref x) hl rfl) (kk _ hl)) k
theorem zz_aload_1 (S : zz_S G l own cc nL d n0 mcT msT isI rt Qf w) {a0 : Option Value} {x : Nat} (hd : decode cc pc = .ok (.aload_n 1, 1)) (hq : pc + 1 = q) (k : w q (a0 :: some (.ref x) :: L) (.ref x :: st) z E im) : w pc (a0 :: some (.ref x) :: L) (st) z E im := by
  subst hq
  exact zz_pure S (fun _ _ _ _ _ _ _ _ _ _ _ _ _ _ _ hx hb hown hts hl kk => lv_aload_n (i := 1) hx hb hd rfl (zz_ld (i := 1) (v := .ref x) hl rfl) (kk _ hl)) k
theorem zz_aload_2 (S : zz_S G l own cc nL d n0 mcT msT isI rt Qf w) {a0 a1 : Option Value} {x : Nat} (hd : decode cc pc = .ok (.aload_n 2, 1)) (hq : pc + 1 = q) (k : w q (a0 :: a1 :: some (.ref x) :: L) (.ref x :: st) z E im) : w pc (a0 :: a1 :: some (.ref x) :: L) (st) z E im := by
  subst hq
  exact zz_pure S (fun _ _ _ _ _ _ _ _ _ _ _ _ _ _ _ hx hb hown hts hl kk => lv_aload_n (i := 2) hx hb hd rfl (zz_ld (i := 2) (v := .ref x) hl rfl) (kk _ hl)) k
theorem zz_aload_3 (S : zz_S G l own cc nL d n0 mcT msT isI rt Qf w) {a0 a1 a2 : Option Value} {x : Nat} (hd : decode cc pc = .ok (.aload_n 3, 1)) (hq : pc + 1 = q) (k : w q (a0 :: a1 :: a2 :: some (.ref x) :: L) (.ref x :: st) z E im) : w pc (a0 :: a1 :: a2 :: some (.ref x) :: L) (st) z E im := by
  subst hq
  exact zz_pure S (fun _ _ _ _ _ _ _ _ _ _ _ _ _ _ _ hx hb hown hts hl kk => lv_aload_n (i := 3) hx hb hd rfl (zz_ld (i := 3) (v := .ref x) hl rfl) (kk _ hl)) k
theorem zz_aload_4 (S : zz_S G l own cc nL d n0 mcT msT isI rt Qf w) {a0 a1 a2 a3 : Option Value} {x : Nat} (hd : decode cc pc = .ok (.aload 4, 2)) (hq : pc + 2 = q) (k : w q (a0 :: a1 :: a2 :: a3 :: some (.ref x) :: L) (.ref x :: st) z E im) : w pc (a0 :: a1 :: a2 :: a3 :: some (.ref x) :: L) (st) z E im := by
  subst hq
  exact zz_pure S (fun _ _ _ _ _ _ _ _ _ _ _ _ _ _ _ hx hb hown hts hl kk => lv_aload hx hb hd (zz_ld (i := 4) (v := .ref x) hl rfl) (kk _ hl)) k
theorem zz_aload_5 (S : zz_S G l own cc nL d n0 mcT msT isI rt Qf w) {a0 a1 a2 a3 a4 : Option Value} {x : Nat} (hd : decode cc pc = .ok (.aload 5, 2)) (hq : pc + 2 = q) (k : w q (a0 :: a1 :: a2 :: a3 :: a4 :: some (.ref x) :: L) (.ref x :: st) z E im) : w pc (a0 :: a1 :: a2 :: a3 :: a4 :: some (.ref x) :: L) (st) z E im := by
  subst hq
  exact zz_pure S (fun _ _ _ _ _ _ _ _ _ _ _ _ _ _ _ hx hb hown hts hl kk => lv_aload hx hb hd (zz_ld (i := 5) (v := .ref x) hl rfl) (kk _ hl)) k
theorem zz_aload_6 (S : zz_S G l own cc nL d n0 mcT msT isI rt Qf w) {a0 a1 a2 a3 a4 a5 : Option Value} {x : Nat} (hd : decode cc pc = .ok (.aload 6, 2)) (hq : pc + 2 = q) (k : w q (a0 :: a1 :: a2 :: a3 :: a4 :: a5 :: some (.ref x) :: L) (.ref x :: st) z E im) : w pc (a0 :: a1 :: a2 :: a3 :: a4 :: a5 :: some (.ref x) :: L) (st) z E im := by
  subst hq
  exact zz_pure S (fun _ _ _ _ _ _ _ _ _ _ _ _ _ _ _ hx hb hown hts hl kk => lv_aload hx hb hd (zz_ld (i := 6) (v := .ref x) hl rfl) (kk _ hl)) k
theorem zz_aload_7 (S : zz_S G l own cc nL d n0 mcT msT isI rt Qf w) {a0 a1 a2 a3 a4 a5 a6 : Option Value} {x : Nat} (hd : decode cc pc = .ok (.aload 7, 2)) (hq : pc + 2 = q) (k : w q (a0 :: a1 :: a2 :: a3 :: a4 :: a5 :: a6 :: some (.ref x) :: L) (.ref x :: st) z E im) : w pc (a0 :: a1 :: a2 :: a3 :: a4 :: a5 :: a6 :: some (.ref x) :: L) (st) z E im := by
  subst hq
  exact zz_pure S (fun _ _ _ _ _ _ _ _ _ _ _ _ _ _ _ hx hb hown hts hl kk => lv_aload hx hb hd (zz_ld (i := 7) (v := .ref x) hl rfl) (kk _ hl)) k
theorem zz_aload_8 (S : zz_S G l own cc nL d n0 mcT msT isI rt Qf w) {a0 a1 a2 a3 a4 a5 a6 a7 : Option Value} {x : Nat} (hd : decode cc pc = .ok (.aload 8, 2)) (hq : pc + 2 = q) (k : w q (a0 :: a1 :: a2 :: a3 :: a4 :: a5 :: a6 :: a7 :: some (.ref x) :: L) (.ref x :: st) z E im) : w pc (a0 :: a1 :: a2 :: a3 :: a4 :: a5 :: a6 :: a7 :: some (.ref x) :: L) (st) z E im := by
  subst hq
  exact zz_pure S (fun _ _ _ _ _ _ _ _ _ _ _ _ _ _ _ hx hb hown hts hl kk => lv_aload hx hb hd (zz_ld (i := 8) (v := .ref x) hl rfl) (kk _ hl)) k
theorem zz_aload_9 (S : zz_S G l own cc nL d n0 mcT msT isI rt Qf w) {a0 a1 a2 a3 a4 a5 a6 a7 a8 : Option Value} {x : Nat} (hd : decode cc pc = .ok (.aload 9, 2)) (hq : pc + 2 = q) (k : w q (a0 :: a1 :: a2 :: a3 :: a4 :: a5 :: a6 :: a7 :: a8 :: some (.ref x) :: L) (.ref x :: st) z E im) : w pc (a0 :: a1 :: a2 :: a3 :: a4 :: a5 :: a6 :: a7 :: a8 :: some (.ref x) :: L) (st) z E im := by
  subst hq
  exact zz_pure S (fun _ _ _ _ _ _ _ _ _ _ _ _ _ _ _ hx hb hown hts hl kk => lv_aload hx hb hd (zz_ld (i := 9) (v := .ref x) hl rfl) (kk _ hl)) k
theorem zz_aload_10 (S : zz_S G l own cc nL d n0 mcT msT isI rt Qf w) {a0 a1 a2 a3 a4 a5 a6 a7 a8 a9 : Option Value} {x : Nat} (hd : decode cc pc = .ok (.aload 10, 2)) (hq : pc + 2 = q) (k : w q (a0 :: a1 :: a2 :: a3 :: a4 :: a5 :: a6 :: a7 :: a8 :: a9 :: some (.ref x) :: L) (.ref x :: st) z E im) : w pc (a0 :: a1 :: a2 :: a3 :: a4 :: a5 :: a6 :: a7 :: a8 :: a9 :: some (.ref x) :: L) (st) z E im := by
  subst hq
  exact zz_pure S (fun _ _ _ _ _ _ _ _ _ _ _ _ _ _ _ hx hb hown hts hl kk => lv_aload hx hb hd (zz_ld (i := 10) (v := .ref x) hl rfl) (kk _ hl)) k
theorem zz_aload_11 (S : zz_S G l own cc nL d n0 mcT msT isI rt Qf w) {a0 a1 a2 a3 a4 a5 a6 a7 a8 a9 a10 : Option Value} {x : Nat} (hd : decode cc pc = .ok (.aload 11, 2)) (hq : pc + 2 = q) (k : w q (a0 :: a1 :: a2 :: a3 :: a4 :: a5 :: a6 :: a7 :: a8 :: a9 :: a10 :: some (.ref x) :: L) (.ref x :: st) z E im) : w pc (a0 :: a1 :: a2 :: a3 :: a4 :: a5 :: a6 :: a7 :: a8 :: a9 :: a10 :: some (.ref x) :: L) (st) z E im := by
  subst hq
  exact zz_pure S (fun _ _ _ _ _ _ _ _ _ _ _ _ _ _ _ hx hb hown hts hl kk => lv_aload hx hb hd (zz_ld (i := 11) (v := .ref x) hl rfl) (kk _ hl)) k
theorem zz_aload_12 (S : zz_S G l own cc nL d n0 mcT msT isI rt Qf w) {a0 a1 a2 a3 a4 a5 a6 a7 a8 a9 a10 a11 : Option Value} {x : Nat} (hd : decode cc pc = .ok (.aload 12, 2)) (hq : pc + 2 = q) (k : w q (a0 :: a1 :: a2 :: a3 :: a4 :: a5 :: a6 :: a7 :: a8 :: a9 :: a10 :: a11 :: some (.ref x) :: L) (.ref x :: st) z E im) : w pc (a0 :: a1 :: a2 :: a3 :: a4 :: a5 :: a6 :: a7 :: a8 :: a9 :: a10 :: a11 :: some (.ref x) :: L) (st) z E im := by
  subst hq
  exact zz_pure S (fun _ _ _ _ _ _ _ _ _ _ _ _ _ _ _ hx hb hown hts hl kk => lv_aload hx hb hd (zz_ld (i := 12) (v := .ref x) hl rfl) (kk _ hl)) k
theorem zz_aload_13 (S : zz_S G l own cc nL d n0 mcT msT isI rt Qf w) {a0 a1 a2 a3 a4 a5 a6 a7 a8 a9 a10 a11 a12 : Option Value} {x : Nat} (hd : decode cc pc = .ok (.aload 13, 2)) (hq : pc + 2 = q) (k : w q (a0 :: a1 :: a2 :: a3 :: a4 :: a5 :: a6 :: a7 :: a8 :: a9 :: a10 :: a11 :: a12 :: some (.ref x) :: L) (.ref x :: st) z E im) : w pc (a0 :: a1 :: a2 :: a3 :: a4 :: a5 :: a6 :: a7 :: a8 :: a9 :: a10 :: a11 :: a12 :: some (.ref x) :: L) (st) z E im := by
  subst hq
  exact zz_pure S (fun _ _ _ _ _ _ _ _ _ _ _ _ _ _ _ hx hb hown hts hl kk => lv_aload hx hb hd (zz_ld (i := 13) (v := .ref x) hl rfl) (kk _ hl)) k
theorem zz_aload_14 (S : zz_S G l own cc nL d n0 mcT msT isI rt Qf w) {a0 a1 a2 a3 a4 a5 a6 a7 a8 a9 a10 a11 a12 a13 : Option Value} {x : Nat} (hd : decode cc pc = .ok (.aload 14, 2)) (hq : pc + 2 = q) (k : w q (a0 :: a1 :: a2 :: a3 :: a4 :: a5 :: a6 :: a7 :: a8 :: a9 :: a10 :: a11 :: a12 :: a13 :: some (.ref x) :: L) (.ref x :: st) z E im) : w pc (a0 :: a1 :: a2 :: a3 :: a4 :: a5 :: a6 :: a7 :: a8 :: a9 :: a10 :: a11 :: a12 :: a13 :: some (.ref x) :: L) (st) z E im := by
  subst hq
  exact zz_pure S (fun _ _ _ _ _ _ _ _ _ _ _ _ _ _ _ hx hb hown hts hl kk => lv_aload hx hb hd (zz_ld (i := 14) (v := .ref x) hl rfl) (kk _ hl)) k
theorem zz_aload_15 (S : zz_S G l own cc nL d n0 mcT msT isI rt Qf w) {a0 a1 a2 a3 a4 a5 a6 a7 a8 a9 a10 a11 a12 a13 a14 : Option Value} {x : Nat} (hd : decode cc pc = .ok (.aload 15, 2)) (hq : pc + 2 = q) (k : w q (a0 :: a1 :: a2 :: a3 :: a4 :: a5 :: a6 :: a7 :: a8 :: a9 :: a10 :: a11 :: a12 :: a13 :: a14 :: some (.ref x) :: L) (.ref x :: st) z E im) : w pc (a0 :: a1 :: a2 :: a3 :: a4 :: a5 :: a6 :: a7 :: a8 :: a9 :: a10 :: a11 :: a12 :: a13 :: a14 :: some (.ref x) :: L) (st) z E im := by
  subst hq
  exact zz_pure S (fun _ _ _ _ _ _ _ _ _ _ _ _ _ _ _ hx hb hown hts hl kk => lv_aload hx hb hd (zz_ld (i := 15) (v := .ref x) hl rfl) (kk _ hl)) k
theorem zz_aload_16 (S : zz_S G l own cc nL d n0 mcT msT isI rt Qf w) {a0 a1 a2 a3 a4 a5 a6 a7 a8 a9 a10 a11 a12 a13 a14 a15 : Option Value} {x : Nat} (hd : decode cc pc = .ok (.aload 16, 2)) (hq : pc + 2 = q) (k : w q (a0 :: a1 :: a2 :: a3 :: a4 :: a5 :: a6 :: a7 :: a8 :: a9 :: a10 :: a11 :: a12 :: a13 :: a14 :: a15 :: some (.ref x) :: L) (.ref x :: st) z E im) : w pc (a0 :: a1 :: a2 :: a3 :: a4 :: a5 :: a6 :: a7 :: a8 :: a9 :: a10 :: a11 :: a12 :: a13 :: a14 :: a15 :: some (.ref x) :: L) (st) z E im := by
  subst hq
  exact zz_pure S (fun _ _ _ _ _ _ _ _ _ _ _ _ _ _ _ hx hb hown hts hl kk => lv_aload hx hb hd (zz_ld (i := 16) (v := .ref x) hl rfl) (kk _ hl)) k
def zz_c1 : Option Value → Bool
  | some v => v.category == 1
  | none => true
theorem zz_hp {M : ZL} {i : Nat} {a : Option Value} (hM : M[i]? = some a) (h : zz_c1 a = true) : ∀ (j : Nat) (v : Value), j + 1 = i + 1 → M[j]? = some (some v) → v.category = 1 := by
  intro j v hj hv
  have hj2 : j = i := by omega
  rw [hj2, hM] at hv
  rw [Option.some.inj hv] at h
  simpa [zz_c1] using h
theorem zz_c1_of {a : Option Value} (h : zz_c1 a = true) {v : Value} (e : a = some v) : v.category = 1 := by
  subst e
  simpa [zz_c1] using h
theorem zz_istore_0 (S : zz_S G l own cc nL d n0 mcT msT isI rt Qf w) {b0 : Option Value} {x : Int32}  (hd : decode cc pc = .ok (.istore_n 0, 1)) (hq : pc + 1 = q) (k : w q (some (.int x) :: L) (st) z E im) : w pc (b0 :: L) (.int x :: st) z E im := by
  subst hq
  exact zz_pure S (fun _ _ _ _ _ _ _ _ _ _ _ _ _ _ _ hx hb hown hts hl kk => lv_istore_n (i := 0) hx hb hd rfl hl.1 (by have := hl.2; simp only [List.length_cons] at this; omega) rfl (fun ls9 h9 => kk _ (zz_set1 (v := .int x) (i := 0) hl.2 (fun j v hj _ => absurd hj (Nat.succ_ne_zero j)) h9))) k
theorem zz_istore_1 (S : zz_S G l own cc nL d n0 mcT msT isI rt Qf w) {a0 b0 : Option Value} {x : Int32} (hp : zz_c1 a0 = true) (hd : decode cc pc = .ok (.istore_n 1, 1)) (hq : pc + 1 = q) (k : w q (a0 :: some (.int x) :: L) (st) z E im) : w pc (a0 :: b0 :: L) (.int x :: st) z E im := by
  subst hq
  exact zz_pure S (fun _ _ _ _ _ _ _ _ _ _ _ _ _ _ _ hx hb hown hts hl kk => lv_istore_n (i := 1) hx hb hd rfl hl.1 (by have := hl.2; simp only [List.length_cons] at this; omega) rfl (fun ls9 h9 => kk _ (zz_set1 (v := .int x) (i := 1) hl.2 (zz_hp (i := 0) rfl hp) h9))) k
theorem zz_istore_2 (S : zz_S G l own cc nL d n0 mcT msT isI rt Qf w) {a0 a1 b0 : Option Value} {x : Int32} (hp : zz_c1 a1 = true) (hd : decode cc pc = .ok (.istore_n 2, 1)) (hq : pc + 1 = q) (k : w q (a0 :: a1 :: some (.int x) :: L) (st) z E im) : w pc (a0 :: a1 :: b0 :: L) (.int x :: st) z E im := by
  subst hq
  exact zz_pure S (fun _ _ _ _ _ _ _ _ _ _ _ _ _ _ _ hx hb hown hts hl kk => lv_istore_n (i := 2) hx hb hd rfl hl.1 (by have := hl.2; simp only [List.length_cons] at this; omega) rfl (fun ls9 h9 => kk _ (zz_set1 (v := .int x) (i := 2) hl.2 (zz_hp (i := 1) rfl hp) h9))) k
theorem zz_istore_3 (S : zz_S G l own cc nL d n0 mcT msT isI rt Qf w) {a0 a1 a2 b0 : Option Value} {x : Int32} (hp : zz_c1 a2 = true) (hd : decode cc pc = .ok (.istore_n 3, 1)) (hq : pc + 1 = q) (k : w q (a0 :: a1 :: a2 :: some (.int x) :: L) (st) z E im) : w pc (a0 :: a1 :: a2 :: b0 :: L) (.int x :: st) z E im := by
  subst hq
  exact zz_pure S (fun _ _ _ _ _ _ _ _ _ _ _ _ _ _ _ hx hb hown hts hl kk => lv_istore_n (i := 3) hx hb hd rfl hl.1 (by have := hl.2; simp only [List.length_cons] at this; omega) rfl (fun ls9 h9 => kk _ (zz_set1 (v := .int x) (i := 3) hl.2 (zz_hp (i := 2) rfl hp) h9))) k
theorem zz_istore_4 (S : zz_S G l own cc nL d n0 mcT msT isI rt Qf w) {a0 a1 a2 a3 b0 : Option Value} {x : Int32} (hp : zz_c1 a3 = true) (hd : decode cc pc = .ok (.istore 4, 2)) (hq : pc + 2 = q) (k : w q (a0 :: a1 :: a2 :: a3 :: some (.int x) :: L) (st) z E im) : w pc (a0 :: a1 :: a2 :: a3 :: b0 :: L) (.int x :: st) z E im := by
  subst hq
  exact zz_pure S (fun _ _ _ _ _ _ _ _ _ _ _ _ _ _ _ hx hb hown hts hl kk => lv_istore hx hb hd hl.1 (by have := hl.2; simp only [List.length_cons] at this; omega) rfl (fun ls9 h9 => kk _ (zz_set1 (v := .int x) (i := 4) hl.2 (zz_hp (i := 3) rfl hp) h9))) k
theorem zz_istore_5 (S : zz_S G l own cc nL d n0 mcT msT isI rt Qf w) {a0 a1 a2 a3 a4 b0 : Option Value} {x : Int32} (hp : zz_c1 a4 = true) (hd : decode cc pc = .ok (.istore 5, 2)) (hq : pc + 2 = q) (k : w q (a0 :: a1 :: a2 :: a3 :: a4 :: some (.int x) :: L) (st) z E im) : w pc (a0 :: a1 :: a2 :: a3 :: a4 :: b0 :: L) (.int x :: st) z E im := by
  subst hq
  exact zz_pure S (fun _ _ _ _ _ _ _ _ _ _ _ _ _ _ _ hx hb hown hts hl kk => lv_istore hx hb hd hl.1 (by have := hl.2; simp only [List.length_cons] at this; omega) rfl (fun ls9 h9 => kk _ (zz_set1 (v := .int x) (i := 5) hl.2 (zz_hp (i := 4) rfl hp) h9))) k
theorem zz_istore_6 (S : zz_S G l own cc nL d n0 mcT msT isI rt Qf w) {a0 a1 a2 a3 a4 a5 b0 : Option Value} {x : Int32} (hp : zz_c1 a5 = true) (hd : decode cc pc = .ok (.istore 6, 2)) (hq : pc + 2 = q) (k : w q (a0 :: a1 :: a2 :: a3 :: a4 :: a5 :: some (.int x) :: L) (st) z E im) : w pc (a0 :: a1 :: a2 :: a3 :: a4 :: a5 :: b0 :: L) (.int x :: st) z E im := by
  subst hq
  exact zz_pure S (fun _ _ _ _ _ _ _ _ _ _ _ _ _ _ _ hx hb hown hts hl kk => lv_istore hx hb hd hl.1 (by have := hl.2; simp only [List.length_cons] at this; omega) rfl (fun ls9 h9 => kk _ (zz_set1 (v := .int x) (i := 6) hl.2 (zz_hp (i := 5) rfl hp) h9))) k
theorem zz_istore_7 (S : zz_S G l own cc nL d n0 mcT msT isI rt Qf w) {a0 a1 a2 a3 a4 a5 a6 b0 : Option Value} {x : Int32} (hp : zz_c1 a6 = true) (hd : decode cc pc = .ok (.istore 7, 2)) (hq : pc + 2 = q) (k : w q (a0 :: a1 :: a2 :: a3 :: a4 :: a5 :: a6 :: some (.int x) :: L) (st) z E im) : w pc (a0 :: a1 :: a2 :: a3 :: a4 :: a5 :: a6 :: b0 :: L) (.int x :: st) z E im := by
  subst hq
  exact zz_pure S (fun _ _ _ _ _ _ _ _ _ _ _ _ _ _ _ hx hb hown hts hl kk => lv_istore hx hb hd hl.1 (by have := hl.2; simp only [List.length_cons] at this; omega) rfl (fun ls9 h9 => kk _ (zz_set1 (v := .int x) (i := 7) hl.2 (zz_hp (i := 6) rfl hp) h9))) k
theorem zz_istore_8 (S : zz_S G l own cc nL d n0 mcT msT isI rt Qf w) {a0 a1 a2 a3 a4 a5 a6 a7 b0 : Option Value} {x : Int32} (hp : zz_c1 a7 = true) (hd : decode cc pc = .ok (.istore 8, 2)) (hq : pc + 2 = q) (k : w q (a0 :: a1 :: a2 :: a3 :: a4 :: a5 :: a6 :: a7 :: some (.int x) :: L) (st) z E im) : w pc (a0 :: a1 :: a2 :: a3 :: a4 :: a5 :: a6 :: a7 :: b0 :: L) (.int x :: st) z E im := by
  subst hq
  exact zz_pure S (fun _ _ _ _ _ _ _ _ _ _ _ _ _ _ _ hx hb hown hts hl kk => lv_istore hx hb hd hl.1 (by have := hl.2; simp only [List.length_cons] at this; omega) rfl (fun ls9 h9 => kk _ (zz_set1 (v := .int x) (i := 8) hl.2 (zz_hp (i := 7) rfl hp) h9))) k
theorem zz_istore_9 (S : zz_S G l own cc nL d n0 mcT msT isI rt Qf w) {a0 a1 a2 a3 a4 a5 a6 a7 a8 b0 : Option Value} {x : Int32} (hp : zz_c1 a8 = true) (hd : decode cc pc = .ok (.istore 9, 2)) (hq : pc + 2 = q) (k : w q (a0 :: a1 :: a2 :: a3 :: a4 :: a5 :: a6 :: a7 :: a8 :: some (.int x) :: L) (st) z E im) : w pc (a0 :: a1 :: a2 :: a3 :: a4 :: a5 :: a6 :: a7 :: a8 :: b0 :: L) (.int x :: st) z E im := by
  subst hq
  exact zz_pure S (fun _ _ _ _ _ _ _ _ _ _ _ _ _ _ _ hx hb hown hts hl kk => lv_istore hx hb hd hl.1 (by have := hl.2; simp only [List.length_cons] at this; omega) rfl (fun ls9 h9 => kk _ (zz_set1 (v := .int x) (i := 9) hl.2 (zz_hp (i := 8) rfl hp) h9))) k
theorem zz_istore_10 (S : zz_S G l own cc nL d n0 mcT msT isI rt Qf w) {a0 a1 a2 a3 a4 a5 a6 a7 a8 a9 b0 : Option Value} {x : Int32} (hp : zz_c1 a9 = true) (hd : decode cc pc = .ok (.istore 10, 2)) (hq : pc + 2 = q) (k : w q (a0 :: a1 :: a2 :: a3 :: a4 :: a5 :: a6 :: a7 :: a8 :: a9 :: some (.int x) :: L) (st) z E im) : w pc (a0 :: a1 :: a2 :: a3 :: a4 :: a5 :: a6 :: a7 :: a8 :: a9 :: b0 :: L) (.int x :: st) z E im := by
  subst hq
  exact zz_pure S (fun _ _ _ _ _ _ _ _ _ _ _ _ _ _ _ hx hb hown hts hl kk => lv_istore hx hb hd hl.1 (by have := hl.2; simp only [List.length_cons] at this; omega) rfl (fun ls9 h9 => kk _ (zz_set1 (v := .int x) (i := 10) hl.2 (zz_hp (i := 9) rfl hp) h9))) k
theorem zz_istore_11 (S : zz_S G l own cc nL d n0 mcT msT isI rt Qf w) {a0 a1 a2 a3 a4 a5 a6 a7 a8 a9 a10 b0 : Option Value} {x : Int32} (hp : zz_c1 a10 = true) (hd : decode cc pc = .ok (.istore 11, 2)) (hq : pc + 2 = q) (k : w q (a0 :: a1 :: a2 :: a3 :: a4 :: a5 :: a6 :: a7 :: a8 :: a9 :: a10 :: some (.int x) :: L) (st) z E im) : w pc (a0 :: a1 :: a2 :: a3 :: a4 :: a5 :: a6 :: a7 :: a8 :: a9 :: a10 :: b0 :: L) (.int x :: st) z E im := by
  subst hq
  exact zz_pure S (fun _ _ _ _ _ _ _ _ _ _ _ _ _ _ _ hx hb hown hts hl kk => lv_istore hx hb hd hl.1 (by have := hl.2; simp only [List.length_cons] at this; omega) rfl (fun ls9 h9 => kk _ (zz_set1 (v := .int x) (i := 11) hl.2 (zz_hp (i := 10) rfl hp) h9))) k
theorem zz_istore_12 (S : zz_S G l own cc nL d n0 mcT msT isI rt Qf w) {a0 a1 a2 a3 a4 a5 a6 a7 a8 a9 a10 a11 b0 : Option Value} {x : Int32} (hp : zz_c1 a11 = true) (hd : decode cc pc = .ok (.istore 12, 2)) (hq : pc + 2 = q) (k : w q (a0 :: a1 :: a2 :: a3 :: a4 :: a5 :: a6 :: a7 :: a8 :: a9 :: a10 :: a11 :: some (.int x) :: L) (st) z E im) : w pc (a0 :: a1 :: a2 :: a3 :: a4 :: a5 :: a6 :: a7 :: a8 :: a9 :: a10 :: a11 :: b0 :: L) (.int x :: st) z E im := by
  subst hq
  exact zz_pure S (fun _ _ _ _ _ _ _ _ _ _ _ _ _ _ _ hx hb hown hts hl kk => lv_istore hx hb hd hl.1 (by have := hl.2; simp only [List.length_cons] at this; omega) rfl (fun ls9 h9 => kk _ (zz_set1 (v := .int x) (i := 12) hl.2 (zz_hp (i := 11) rfl hp) h9))) k
theorem zz_istore_13 (S : zz_S G l own cc nL d n0 mcT msT isI rt Qf w) {a0 a1 a2 a3 a4 a5 a6 a7 a8 a9 a10 a11 a12 b0 : Option Value} {x : Int32} (hp : zz_c1 a12 = true) (hd : decode cc pc = .ok (.istore 13, 2)) (hq : pc + 2 = q) (k : w q (a0 :: a1 :: a2 :: a3 :: a4 :: a5 :: a6 :: a7 :: a8 :: a9 :: a10 :: a11 :: a12 :: some (.int x) :: L) (st) z E im) : w pc (a0 :: a1 :: a2 :: a3 :: a4 :: a5 :: a6 :: a7 :: a8 :: a9 :: a10 :: a11 :: a12 :: b0 :: L) (.int x :: st) z E im := by
  subst hq
  exact zz_pure S (fun _ _ _ _ _ _ _ _ _ _ _ _ _ _ _ hx hb hown hts hl kk => lv_istore hx hb hd hl.1 (by have := hl.2; simp only [List.length_cons] at this; omega) rfl (fun ls9 h9 => kk _ (zz_set1 (v := .int x) (i := 13) hl.2 (zz_hp (i := 12) rfl hp) h9))) k
theorem zz_istore_14 (S : zz_S G l own cc nL d n0 mcT msT isI rt Qf w) {a0 a1 a2 a3 a4 a5 a6 a7 a8 a9 a10 a11 a12 a13 b0 : Option Value} {x : Int32} (hp : zz_c1 a13 = true) (hd : decode cc pc = .ok (.istore 14, 2)) (hq : pc + 2 = q) (k : w q (a0 :: a1 :: a2 :: a3 :: a4 :: a5 :: a6 :: a7 :: a8 :: a9 :: a10 :: a11 :: a12 :: a13 :: some (.int x) :: L) (st) z E im) : w pc (a0 :: a1 :: a2 :: a3 :: a4 :: a5 :: a6 :: a7 :: a8 :: a9 :: a10 :: a11 :: a12 :: a13 :: b0 :: L) (.int x :: st) z E im := by
  subst hq
  exact zz_pure S (fun _ _ _ _ _ _ _ _ _ _ _ _ _ _ _ hx hb hown hts hl kk => lv_istore hx hb hd hl.1 (by have := hl.2; simp only [List.length_cons] at this; omega) rfl (fun ls9 h9 => kk _ (zz_set1 (v := .int x) (i := 14) hl.2 (zz_hp (i := 13) rfl hp) h9))) k
theorem zz_istore_15 (S : zz_S G l own cc nL d n0 mcT msT isI rt Qf w) {a0 a1 a2 a3 a4 a5 a6 a7 a8 a9 a10 a11 a12 a13 a14 b0 : Option Value} {x : Int32} (hp : zz_c1 a14 = true) (hd : decode cc pc = .ok (.istore 15, 2)) (hq : pc + 2 = q) (k : w q (a0 :: a1 :: a2 :: a3 :: a4 :: a5 :: a6 :: a7 :: a8 :: a9 :: a10 :: a11 :: a12 :: a13 :: a14 :: some (.int x) :: L) (st) z E im) : w pc (a0 :: a1 :: a2 :: a3 :: a4 :: a5 :: a6 :: a7 :: a8 :: a9 :: a10 :: a11 :: a12 :: a13 :: a14 :: b0 :: L) (.int x :: st) z E im := by
  subst hq
  exact zz_pure S (fun _ _ _ _ _ _ _ _ _ _ _ _ _ _ _ hx hb hown hts hl kk => lv_istore hx hb hd hl.1 (by have := hl.2; simp only [List.length_cons] at this; omega) rfl (fun ls9 h9 => kk _ (zz_set1 (v := .int x) (i := 15) hl.2 (zz_hp (i := 14) rfl hp) h9))) k
theorem zz_istore_16 (S : zz_S G l own cc nL d n0 mcT msT isI rt Qf w) {a0 a1 a2 a3 a4 a5 a6 a7 a8 a9 a10 a11 a12 a13 a14 a15 b0 : Option Value} {x : Int32} (hp : zz_c1 a15 = true) (hd : decode cc pc = .ok (.istore 16, 2)) (hq : pc + 2 = q) (k : w q (a0 :: a1 :: a2 :: a3 :: a4 :: a5 :: a6 :: a7 :: a8 :: a9 :: a10 :: a11 :: a12 :: a13 :: a14 :: a15 :: some (.int x) :: L) (st) z E im) : w pc (a0 :: a1 :: a2 :: a3 :: a4 :: a5 :: a6 :: a7 :: a8 :: a9 :: a10 :: a11 :: a12 :: a13 :: a14 :: a15 :: b0 :: L) (.int x :: st) z E im := by
  subst hq
  exact zz_pure S (fun _ _ _ _ _ _ _ _ _ _ _ _ _ _ _ hx hb hown hts hl kk => lv_istore hx hb hd hl.1 (by have := hl.2; simp only [List.length_cons] at this; omega) rfl (fun ls9 h9 => kk _ (zz_set1 (v := .int x) (i := 16) hl.2 (zz_hp (i := 15) rfl hp) h9))) k
theorem zz_lstore_0 (S : zz_S G l own cc nL d n0 mcT msT isI rt Qf w) {b0 b1 : Option Value} {x : Int64}  (hd : decode cc pc = .ok (.lstore_n 0, 1)) (hq : pc + 1 = q) (k : w q (some (.long x) :: none :: L) (st) z E im) : w pc (b0 :: b1 :: L) (.long x :: st) z E im := by
  subst hq
  exact zz_pure S (fun _ _ _ _ _ _ _ _ _ _ _ _ _ _ _ hx hb hown hts hl kk => lv_lstore_n (i := 0) hx hb hd rfl hl.1 (by have := hl.2; simp only [List.length_cons] at this; omega) rfl (fun ls9 h9 => kk _ (zz_set2 (v := .long x) (i := 0) hl.2 (fun j v hj _ => absurd hj (Nat.succ_ne_zero j)) h9))) k
theorem zz_lstore_1 (S : zz_S G l own cc nL d n0 mcT msT isI rt Qf w) {a0 b0 b1 : Option Value} {x : Int64} (hp : zz_c1 a0 = true) (hd : decode cc pc = .ok (.lstore_n 1, 1)) (hq : pc + 1 = q) (k : w q (a0 :: some (.long x) :: none :: L) (st) z E im) : w pc (a0 :: b0 :: b1 :: L) (.long x :: st) z E im := by
  subst hq
  exact zz_pure S (fun _ _ _ _ _ _ _ _ _ _ _ _ _ _ _ hx hb hown hts hl kk => lv_lstore_n (i := 1) hx hb hd rfl hl.1 (by have := hl.2; simp only [List.length_cons] at this; omega) rfl (fun ls9 h9 => kk _ (zz_set2 (v := .long x) (i := 1) hl.2 (zz_hp (i := 0) rfl hp) h9))) k
theorem zz_lstore_2 (S : zz_S G l own cc nL d n0 mcT msT isI rt Qf w) {a0 a1 b0 b1 : Option Value} {x : Int64} (hp : zz_c1 a1 = true) (hd : decode cc pc = .ok (.lstore_n 2, 1)) (hq : pc + 1 = q) (k : w q (a0 :: a1 :: some (.long x) :: none :: L) (st) z E im) : w pc (a0 :: a1 :: b0 :: b1 :: L) (.long x :: st) z E im := by
  subst hq
  exact zz_pure S (fun _ _ _ _ _ _ _ _ _ _ _ _ _ _ _ hx hb hown hts hl kk => lv_lstore_n (i := 2) hx hb hd rfl hl.1 (by have := hl.2; simp only [List.length_cons] at this; omega) rfl (fun ls9 h9 => kk _ (zz_set2 (v := .long x) (i := 2) hl.2 (zz_hp (i := 1) rfl hp) h9))) k
theorem zz_lstore_3 (S : zz_S G l own cc nL d n0 mcT msT isI rt Qf w) {a0 a1 a2 b0 b1 : Option Value} {x : Int64} (hp : zz_c1 a2 = true) (hd : decode cc pc = .ok (.lstore_n 3, 1)) (hq : pc + 1 = q) (k : w q (a0 :: a1 :: a2 :: some (.long x) :: none :: L) (st) z E im) : w pc (a0 :: a1 :: a2 :: b0 :: b1 :: L) (.long x :: st) z E im := by
  subst hq
  exact zz_pure S (fun _ _ _ _ _ _ _ _ _ _ _ _ _ _ _ hx hb hown hts hl kk => lv_lstore_n (i := 3) hx hb hd rfl hl.1 (by have := hl.2; simp only [List.length_cons] at this; omega) rfl (fun ls9 h9 => kk _ (zz_set2 (v := .long x) (i := 3) hl.2 (zz_hp (i := 2) rfl hp) h9))) k
theorem zz_lstore_4 (S : zz_S G l own cc nL d n0 mcT msT isI rt Qf w) {a0 a1 a2 a3 b0 b1 : Option Value} {x : Int64} (hp : zz_c1 a3 = true) (hd : decode cc pc = .ok (.lstore 4, 2)) (hq : pc + 2 = q) (k : w q (a0 :: a1 :: a2 :: a3 :: some (.long x) :: none :: L) (st) z E im) : w pc (a0 :: a1 :: a2 :: a3 :: b0 :: b1 :: L) (.long x :: st) z E im := by
  subst hq
  exact zz_pure S (fun _ _ _ _ _ _ _ _ _ _ _ _ _ _ _ hx hb hown hts hl kk => lv_lstore hx hb hd hl.1 (by have := hl.2; simp only [List.length_cons] at this; omega) rfl (fun ls9 h9 => kk _ (zz_set2 (v := .long x) (i := 4) hl.2 (zz_hp (i := 3) rfl hp) h9))) k
theorem zz_lstore_5 (S : zz_S G l own cc nL d n0 mcT msT isI rt Qf w) {a0 a1 a2 a3 a4 b0 b1 : Option Value} {x : Int64} (hp : zz_c1 a4 = true) (hd : decode cc pc = .ok (.lstore 5, 2)) (hq : pc + 2 = q) (k : w q (a0 :: a1 :: a2 :: a3 :: a4 :: some (.long x) :: none :: L) (st) z E im) : w pc (a0 :: a1 :: a2 :: a3 :: a4 :: b0 :: b1 :: L) (.long x :: st) z E im := by
  subst hq
  exact zz_pure S (fun _ _ _ _ _ _ _ _ _ _ _ _ _ _ _ hx hb hown hts hl kk => lv_lstore hx hb hd hl.1 (by have := hl.2; simp only [List.length_cons] at this; omega) rfl (fun ls9 h9 => kk _ (zz_set2 (v := .long x) (i := 5) hl.2 (zz_hp (i := 4) rfl hp) h9))) k
theorem zz_lstore_6 (S : zz_S G l own cc nL d n0 mcT msT isI rt Qf w) {a0 a1 a2 a3 a4 a5 b0 b1 : Option Value} {x : Int64} (hp : zz_c1 a5 = true) (hd : decode cc pc = .ok (.lstore 6, 2)) (hq : pc + 2 = q) (k : w q (a0 :: a1 :: a2 :: a3 :: a4 :: a5 :: some (.long x) :: none :: L) (st) z E im) : w pc (a0 :: a1 :: a2 :: a3 :: a4 :: a5 :: b0 :: b1 :: L) (.long x :: st) z E im := by
  subst hq
  exact zz_pure S (fun _ _ _ _ _ _ _ _ _ _ _ _ _ _ _ hx hb hown hts hl kk => lv_lstore hx hb hd hl.1 (by have := hl.2; simp only [List.length_cons] at this; omega) rfl (fun ls9 h9 => kk _ (zz_set2 (v := .long x) (i := 6) hl.2 (zz_hp (i := 5) rfl hp) h9))) k
theorem zz_lstore_7 (S : zz_S G l own cc nL d n0 mcT msT isI rt Qf w) {a0 a1 a2 a3 a4 a5 a6 b0 b1 : Option Value} {x : Int64} (hp : zz_c1 a6 = true) (hd : decode cc pc = .ok (.lstore 7, 2)) (hq : pc + 2 = q) (k : w q (a0 :: a1 :: a2 :: a3 :: a4 :: a5 :: a6 :: some (.long x) :: none :: L) (st) z E im) : w pc (a0 :: a1 :: a2 :: a3 :: a4 :: a5 :: a6 :: b0 :: b1 :: L) (.long x :: st) z E im := by
  subst hq
  exact zz_pure S (fun _ _ _ _ _ _ _ _ _ _ _ _ _ _ _ hx hb hown hts hl kk => lv_lstore hx hb hd hl.1 (by have := hl.2; simp only [List.length_cons] at this; omega) rfl (fun ls9 h9 => kk _ (zz_set2 (v := .long x) (i := 7) hl.2 (zz_hp (i := 6) rfl hp) h9))) k
theorem zz_lstore_8 (S : zz_S G l own cc nL d n0 mcT msT isI rt Qf w) {a0 a1 a2 a3 a4 a5 a6 a7 b0 b1 : Option Value} {x : Int64} (hp : zz_c1 a7 = true) (hd : decode cc pc = .ok (.lstore 8, 2)) (hq : pc + 2 = q) (k : w q (a0 :: a1 :: a2 :: a3 :: a4 :: a5 :: a6 :: a7 :: some (.long x) :: none :: L) (st) z E im) : w pc (a0 :: a1 :: a2 :: a3 :: a4 :: a5 :: a6 :: a7 :: b0 :: b1 :: L) (.long x :: st) z E im := by
  subst hq
  exact zz_pure S (fun _ _ _ _ _ _ _ _ _ _ _ _ _ _ _ hx hb hown hts hl kk => lv_lstore hx hb hd hl.1 (by have := hl.2; simp only [List.length_cons] at this; omega) rfl (fun ls9 h9 => kk _ (zz_set2 (v := .long x) (i := 8) hl.2 (zz_hp (i := 7) rfl hp) h9))) k
theorem zz_lstore_9 (S : zz_S G l own cc nL d n0 mcT msT isI rt Qf w) {a0 a1 a2 a3 a4 a5 a6 a7 a8 b0 b1 : Option Value} {x : Int64} (hp : zz_c1 a8 = true) (hd : decode cc pc = .ok (.lstore 9, 2)) (hq : pc + 2 = q) (k : w q (a0 :: a1 :: a2 :: a3 :: a4 :: a5 :: a6 :: a7 :: a8 :: some (.long x) :: none :: L) (st) z E im) : w pc (a0 :: a1 :: a2 :: a3 :: a4 :: a5 :: a6 :: a7 :: a8 :: b0 :: b1 :: L) (.long x :: st) z E im := by
  subst hq
  exact zz_pure S (fun _ _ _ _ _ _ _ _ _ _ _ _ _ _ _ hx hb hown hts hl kk => lv_lstore hx hb hd hl.1 (by have := hl.2; simp only [List.length_cons] at this; omega) rfl (fun ls9 h9 => kk _ (zz_set2 (v := .long x) (i := 9) hl.2 (zz_hp (i := 8) rfl hp) h9))) k
theorem zz_lstore_10 (S : zz_S G l own cc nL d n0 mcT msT isI rt Qf w) {a0 a1 a2 a3 a4 a5 a6 a7 a8 a9 b0 b1 : Option Value} {x : Int64} (hp : zz_c1 a9 = true) (hd : decode cc pc = .ok (.lstore 10, 2)) (hq : pc + 2 = q) (k : w q (a0 :: a1 :: a2 :: a3 :: a4 :: a5 :: a6 :: a7 :: a8 :: a9 :: some (.long x) :: none :: L) (st) z E im) : w pc (a0 :: a1 :: a2 :: a3 :: a4 :: a5 :: a6 :: a7 :: a8 :: a9 :: b0 :: b1 :: L) (.long x :: st) z E im := by
  subst hq
  exact zz_pure S (fun _ _ _ _ _ _ _ _ _ _ _ _ _ _ _ hx hb hown hts hl kk => lv_lstore hx hb hd hl.1 (by have := hl.2; simp only [List.length_cons] at this; omega) rfl (fun ls9 h9 => kk _ (zz_set2 (v := .long x) (i := 10) hl.2 (zz_hp (i := 9) rfl hp) h9))) k
theorem zz_lstore_11 (S : zz_S G l own cc nL d n0 mcT msT isI rt Qf w) {a0 a1 a2 a3 a4 a5 a6 a7 a8 a9 a10 b0 b1 : Option Value} {x : Int64} (hp : zz_c1 a10 = true) (hd : decode cc pc = .ok (.lstore 11, 2)) (hq : pc + 2 = q) (k : w q (a0 :: a1 :: a2 :: a3 :: a4 :: a5 :: a6 :: a7 :: a8 :: a9 :: a10 :: some (.long x) :: none :: L) (st) z E im) : w pc (a0 :: a1 :: a2 :: a3 :: a4 :: a5 :: a6 :: a7 :: a8 :: a9 :: a10 :: b0 :: b1 :: L) (.long x :: st) z E im := by
  subst hq
  exact zz_pure S (fun _ _ _ _ _ _ _ _ _ _ _ _ _ _ _ hx hb hown hts hl kk => lv_lstore hx hb hd hl.1 (by have := hl.2; simp only [List.length_cons] at this; omega) rfl (fun ls9 h9 => kk _ (zz_set2 (v := .long x) (i := 11) hl.2 (zz_hp (i := 10) rfl hp) h9))) k
theorem zz_lstore_12 (S : zz_S G l own cc nL d n0 mcT msT isI rt Qf w) {a0 a1 a2 a3 a4 a5 a6 a7 a8 a9 a10 a11 b0 b1 : Option Value} {x : Int64} (hp : zz_c1 a11 = true) (hd : decode cc pc = .ok (.lstore 12, 2)) (hq : pc + 2 = q) (k : w q (a0 :: a1 :: a2 :: a3 :: a4 :: a5 :: a6 :: a7 :: a8 :: a9 :: a10 :: a11 :: some (.long x) :: none :: L) (st) z E im) : w pc (a0 :: a1 :: a2 :: a3 :: a4 :: a5 :: a6 :: a7 :: a8 :: a9 :: a10 :: a11 :: b0 :: b1 :: L) (.long x :: st) z E im := by
  subst hq
  exact zz_pure S (fun _ _ _ _ _ _ _ _ _ _ _ _ _ _ _ hx hb hown hts hl kk => lv_lstore hx hb hd hl.1 (by have := hl.2; simp only [List.length_cons] at this; omega) rfl (fun ls9 h9 => kk _ (zz_set2 (v := .long x) (i := 12) hl.2 (zz_hp (i := 11) rfl hp) h9))) k
theorem zz_lstore_13 (S : zz_S G l own cc nL d n0 mcT msT isI rt Qf w) {a0 a1 a2 a3 a4 a5 a6 a7 a8 a9 a10 a11 a12 b0 b1 : Option Value} {x : Int64} (hp : zz_c1 a12 = true) (hd : decode cc pc = .ok (.lstore 13, 2)) (hq : pc + 2 = q) (k : w q (a0 :: a1 :: a2 :: a3 :: a4 :: a5 :: a6 :: a7 :: a8 :: a9 :: a10 :: a11 :: a12 :: some (.long x) :: none :: L) (st) z E im) : w pc (a0 :: a1 :: a2 :: a3 :: a4 :: a5 :: a6 :: a7 :: a8 :: a9 :: a10 :: a11 :: a12 :: b0 :: b1 :: L) (.long x :: st) z E im := by
  subst hq
  exact zz_pure S (fun _ _ _ _ _ _ _ _ _ _ _ _ _ _ _ hx hb hown hts hl kk => lv_lstore hx hb hd hl.1 (by have := hl.2; simp only [List.length_cons] at this; omega) rfl (fun ls9 h9 => kk _ (zz_set2 (v := .long x) (i := 13) hl.2 (zz_hp (i := 12) rfl hp) h9))) k
theorem zz_lstore_14 (S : zz_S G l own cc nL d n0 mcT msT isI rt Qf w) {a0 a1 a2 a3 a4 a5 a6 a7 a8 a9 a10 a11 a12 a13 b0 b1 : Option Value} {x : Int64} (hp : zz_c1 a13 = true) (hd : decode cc pc = .ok (.lstore 14, 2)) (hq : pc + 2 = q) (k : w q (a0 :: a1 :: a2 :: a3 :: a4 :: a5 :: a6 :: a7 :: a8 :: a9 :: a10 :: a11 :: a12 :: a13 :: some (.long x) :: none :: L) (st) z E im) : w pc (a0 :: a1 :: a2 :: a3 :: a4 :: a5 :: a6 :: a7 :: a8 :: a9 :: a10 :: a11 :: a12 :: a13 :: b0 :: b1 :: L) (.long x :: st) z E im := by
  subst hq
  exact zz_pure S (fun _ _ _ _ _ _ _ _ _ _ _ _ _ _ _ hx hb hown hts hl kk => lv_lstore hx hb hd hl.1 (by have := hl.2; simp only [List.length_cons] at this; omega) rfl (fun ls9 h9 => kk _ (zz_set2 (v := .long x) (i := 14) hl.2 (zz_hp (i := 13) rfl hp) h9))) k
theorem zz_lstore_15 (S : zz_S G l own cc nL d n0 mcT msT isI rt Qf w) {a0 a1 a2 a3 a4 a5 a6 a7 a8 a9 a10 a11 a12 a13 a14 b0 b1 : Option Value} {x : Int64} (hp : zz_c1 a14 = true) (hd : decode cc pc = .ok (.lstore 15, 2)) (hq : pc + 2 = q) (k : w q (a0 :: a1 :: a2 :: a3 :: a4 :: a5 :: a6 :: a7 :: a8 :: a9 :: a10 :: a11 :: a12 :: a13 :: a14 :: some (.long x) :: none :: L) (st) z E im) : w pc (a0 :: a1 :: a2 :: a3 :: a4 :: a5 :: a6 :: a7 :: a8 :: a9 :: a10 :: a11 :: a12 :: a13 :: a14 :: b0 :: b1 :: L) (.long x :: st) z E im := by
  subst hq
  exact zz_pure S (fun _ _ _ _ _ _ _ _ _ _ _ _ _ _ _ hx hb hown hts hl kk => lv_lstore hx hb hd hl.1 (by have := hl.2; simp only [List.length_cons] at this; omega) rfl (fun ls9 h9 => kk _ (zz_set2 (v := .long x) (i := 15) hl.2 (zz_hp (i := 14) rfl hp) h9))) k
theorem zz_astore_0 (S : zz_S G l own cc nL d n0 mcT msT isI rt Qf w) {b0 : Option Value} {x : Nat}  (hd : decode cc pc = .ok (.astore_n 0, 1)) (hq : pc + 1 = q) (k : w q (some (.ref x) :: L) (st) z E im) : w pc (b0 :: L) (.ref x :: st) z E im := by
  subst hq
  exact zz_pure S (fun _ _ _ _ _ _ _ _ _ _ _ _ _ _ _ hx hb hown hts hl kk => lv_astore_n (i := 0) hx hb hd rfl hl.1 (by have := hl.2; simp only [List.length_cons] at this; omega) rfl (fun ls9 h9 => kk _ (zz_set1 (v := .ref x) (i := 0) hl.2 (fun j v hj _ => absurd hj (Nat.succ_ne_zero j)) h9))) k
theorem zz_astore_1 (S : zz_S G l own cc nL d n0 mcT msT isI rt Qf w) {a0 b0 : Option Value} {x : Nat} (hp : zz_c1 a0 = true) (hd : decode cc pc = .ok (.astore_n 1, 1)) (hq : pc + 1 = q) (k : w q (a0 :: some (.ref x) :: L) (st) z E im) : w pc (a0 :: b0 :: L) (.ref x :: st) z E im := by
  subst hq
  exact zz_pure S (fun _ _ _ _ _ _ _ _ _ _ _ _ _ _ _ hx hb hown hts hl kk => lv_astore_n (i := 1) hx hb hd rfl hl.1 (by have := hl.2; simp only [List.length_cons] at this; omega) rfl (fun ls9 h9 => kk _ (zz_set1 (v := .ref x) (i := 1) hl.2 (zz_hp (i := 0) rfl hp) h9))) k
theorem zz_astore_2 (S : zz_S G l own cc nL d n0 mcT msT isI rt Qf w) {a0 a1 b0 : Option Value} {x : Nat} (hp : zz_c1 a1 = true) (hd : decode cc pc = .ok (.astore_n 2, 1)) (hq : pc + 1 = q) (k : w q (a0 :: a1 :: some (.ref x) :: L) (st) z E im) : w pc (a0 :: a1 :: b0 :: L) (.ref x :: st) z E im := by
  subst hq
  exact zz_pure S (fun _ _ _ _ _ _ _ _ _ _ _ _ _ _ _ hx hb hown hts hl kk => lv_astore_n (i := 2) hx hb hd rfl hl.1 (by have := hl.2; simp only [List.length_cons] at this; omega) rfl (fun ls9 h9 => kk _ (zz_set1 (v := .ref x) (i := 2) hl.2 (zz_hp (i := 1) rfl hp) h9))) k
theorem zz_astore_3 (S : zz_S G l own cc nL d n0 mcT msT isI rt Qf w) {a0 a1 a2 b0 : Option Value} {x : Nat} (hp : zz_c1 a2 = true) (hd : decode cc pc = .ok (.astore_n 3, 1)) (hq : pc + 1 = q) (k : w q (a0 :: a1 :: a2 :: some (.ref x) :: L) (st) z E im) : w pc (a0 :: a1 :: a2 :: b0 :: L) (.ref x :: st) z E im := by
  subst hq
  exact zz_pure S (fun _ _ _ _ _ _ _ _ _ _ _ _ _ _ _ hx hb hown hts hl kk => lv_astore_n (i := 3) hx hb hd rfl hl.1 (by have := hl.2; simp only [List.length_cons] at this; omega) rfl (fun ls9 h9 => kk _ (zz_set1 (v := .ref x) (i := 3) hl.2 (zz_hp (i := 2) rfl hp) h9))) k
theorem zz_astore_4 (S : zz_S G l own cc nL d n0 mcT msT isI rt Qf w) {a0 a1 a2 a3 b0 : Option Value} {x : Nat} (hp : zz_c1 a3 = true) (hd : decode cc pc = .ok (.astore 4, 2)) (hq : pc + 2 = q) (k : w q (a0 :: a1 :: a2 :: a3 :: some (.ref x) :: L) (st) z E im) : w pc (a0 :: a1 :: a2 :: a3 :: b0 :: L) (.ref x :: st) z E im := by
  subst hq
  exact zz_pure S (fun _ _ _ _ _ _ _ _ _ _ _ _ _ _ _ hx hb hown hts hl kk => lv_astore hx hb hd hl.1 (by have := hl.2; simp only [List.length_cons] at this; omega) rfl (fun ls9 h9 => kk _ (zz_set1 (v := .ref x) (i := 4) hl.2 (zz_hp (i := 3) rfl hp) h9))) k
theorem zz_astore_5 (S : zz_S G l own cc nL d n0 mcT msT isI rt Qf w) {a0 a1 a2 a3 a4 b0 : Option Value} {x : Nat} (hp : zz_c1 a4 = true) (hd : decode cc pc = .ok (.astore 5, 2)) (hq : pc + 2 = q) (k : w q (a0 :: a1 :: a2 :: a3 :: a4 :: some (.ref x) :: L) (st) z E im) : w pc (a0 :: a1 :: a2 :: a3 :: a4 :: b0 :: L) (.ref x :: st) z E im := by
  subst hq
  exact zz_pure S (fun _ _ _ _ _ _ _ _ _ _ _ _ _ _ _ hx hb hown hts hl kk => lv_astore hx hb hd hl.1 (by have := hl.2; simp only [List.length_cons] at this; omega) rfl (fun ls9 h9 => kk _ (zz_set1 (v := .ref x) (i := 5) hl.2 (zz_hp (i := 4) rfl hp) h9))) k
theorem zz_astore_6 (S : zz_S G l own cc nL d n0 mcT msT isI rt Qf w) {a0 a1 a2 a3 a4 a5 b0 : Option Value} {x : Nat} (hp : zz_c1 a5 = true) (hd : decode cc pc = .ok (.astore 6, 2)) (hq : pc + 2 = q) (k : w q (a0 :: a1 :: a2 :: a3 :: a4 :: a5 :: some (.ref x) :: L) (st) z E im) : w pc (a0 :: a1 :: a2 :: a3 :: a4 :: a5 :: b0 :: L) (.ref x :: st) z E im := by
  subst hq
  exact zz_pure S (fun _ _ _ _ _ _ _ _ _ _ _ _ _ _ _ hx hb hown hts hl kk => lv_astore hx hb hd hl.1 (by have := hl.2; simp only [List.length_cons] at this; omega) rfl (fun ls9 h9 => kk _ (zz_set1 (v := .ref x) (i := 6) hl.2 (zz_hp (i := 5) rfl hp) h9))) k
theorem zz_astore_7 (S : zz_S G l own cc nL d n0 mcT msT isI rt Qf w) {a0 a1 a2 a3 a4 a5 a6 b0 : Option Value} {x : Nat} (hp : zz_c1 a6 = true) (hd : decode cc pc = .ok (.astore 7, 2)) (hq : pc + 2 = q) (k : w q (a0 :: a1 :: a2 :: a3 :: a4 :: a5 :: a6 :: some (.ref x) :: L) (st) z E im) : w pc (a0 :: a1 :: a2 :: a3 :: a4 :: a5 :: a6 :: b0 :: L) (.ref x :: st) z E im := by
  subst hq
  exact zz_pure S (fun _ _ _ _ _ _ _ _ _ _ _ _ _ _ _ hx hb hown hts hl kk => lv_astore hx hb hd hl.1 (by have := hl.2; simp only [List.length_cons] at this; omega) rfl (fun ls9 h9 => kk _ (zz_set1 (v := .ref x) (i := 7) hl.2 (zz_hp (i := 6) rfl hp) h9))) k
theorem zz_astore_8 (S : zz_S G l own cc nL d n0 mcT msT isI rt Qf w) {a0 a1 a2 a3 a4 a5 a6 a7 b0 : Option Value} {x : Nat} (hp : zz_c1 a7 = true) (hd : decode cc pc = .ok (.astore 8, 2)) (hq : pc + 2 = q) (k : w q (a0 :: a1 :: a2 :: a3 :: a4 :: a5 :: a6 :: a7 :: some (.ref x) :: L) (st) z E im) : w pc (a0 :: a1 :: a2 :: a3 :: a4 :: a5 :: a6 :: a7 :: b0 :: L) (.ref x :: st) z E im := by
  subst hq
  exact zz_pure S (fun _ _ _ _ _ _ _ _ _ _ _ _ _ _ _ hx hb hown hts hl kk => lv_astore hx hb hd hl.1 (by have := hl.2; simp only [List.length_cons] at this; omega) rfl (fun ls9 h9 => kk _ (zz_set1 (v := .ref x) (i := 8) hl.2 (zz_hp (i := 7) rfl hp) h9))) k
theorem zz_astore_9 (S : zz_S G l own cc nL d n0 mcT msT isI rt Qf w) {a0 a1 a2 a3 a4 a5 a6 a7 a8 b0 : Option Value} {x : Nat} (hp : zz_c1 a8 = true) (hd : decode cc pc = .ok (.astore 9, 2)) (hq : pc + 2 = q) (k : w q (a0 :: a1 :: a2 :: a3 :: a4 :: a5 :: a6 :: a7 :: a8 :: some (.ref x) :: L) (st) z E im) : w pc (a0 :: a1 :: a2 :: a3 :: a4 :: a5 :: a6 :: a7 :: a8 :: b0 :: L) (.ref x :: st) z E im := by
  subst hq
  exact zz_pure S (fun _ _ _ _ _ _ _ _ _ _ _ _ _ _ _ hx hb hown hts hl kk => lv_astore hx hb hd hl.1 (by have := hl.2; simp only [List.length_cons] at this; omega) rfl (fun ls9 h9 => kk _ (zz_set1 (v := .ref x) (i := 9) hl.2 (zz_hp (i := 8) rfl hp) h9))) k
theorem zz_astore_10 (S : zz_S G l own cc nL d n0 mcT msT isI rt Qf w) {a0 a1 a2 a3 a4 a5 a6 a7 a8 a9 b0 : Option Value} {x : Nat} (hp : zz_c1 a9 = true) (hd : decode cc pc = .ok (.astore 10, 2)) (hq : pc + 2 = q) (k : w q (a0 :: a1 :: a2 :: a3 :: a4 :: a5 :: a6 :: a7 :: a8 :: a9 :: some (.ref x) :: L) (st) z E im) : w pc (a0 :: a1 :: a2 :: a3 :: a4 :: a5 :: a6 :: a7 :: a8 :: a9 :: b0 :: L) (.ref x :: st) z E im := by
  subst hq
  exact zz_pure S (fun _ _ _ _ _ _ _ _ _ _ _ _ _ _ _ hx hb hown hts hl kk => lv_astore hx hb hd hl.1 (by have := hl.2; simp only [List.length_cons] at this; omega) rfl (fun ls9 h9 => kk _ (zz_set1 (v := .ref x) (i := 10) hl.2 (zz_hp (i := 9) rfl hp) h9))) k
theorem zz_astore_11 (S : zz_S G l own cc nL d n0 mcT msT isI rt Qf w) {a0 a1 a2 a3 a4 a5 a6 a7 a8 a9 a10 b0 : Option Value} {x : Nat} (hp : zz_c1 a10 = true) (hd : decode cc pc = .ok (.astore 11, 2)) (hq : pc + 2 = q) (k : w q (a0 :: a1 :: a2 :: a3 :: a4 :: a5 :: a6 :: a7 :: a8 :: a9 :: a10 :: some (.ref x) :: L) (st) z E im) : w pc (a0 :: a1 :: a2 :: a3 :: a4 :: a5 :: a6 :: a7 :: a8 :: a9 :: a10 :: b0 :: L) (.ref x :: st) z E im := by
  subst hq
  exact zz_pure S (fun _ _ _ _ _ _ _ _ _ _ _ _ _ _ _ hx hb hown hts hl kk => lv_astore hx hb hd hl.1 (by have := hl.2; simp only [List.length_cons] at this; omega) rfl (fun ls9 h9 => kk _ (zz_set1 (v := .ref x) (i := 11) hl.2 (zz_hp (i := 10) rfl hp) h9))) k
theorem zz_astore_12 (S : zz_S G l own cc nL d n0 mcT msT isI rt Qf w) {a0 a1 a2 a3 a4 a5 a6 a7 a8 a9 a10 a11 b0 : Option Value} {x : Nat} (hp : zz_c1 a11 = true) (hd : decode cc pc = .ok (.astore 12, 2)) (hq : pc + 2 = q) (k : w q (a0 :: a1 :: a2 :: a3 :: a4 :: a5 :: a6 :: a7 :: a8 :: a9 :: a10 :: a11 :: some (.ref x) :: L) (st) z E im) : w pc (a0 :: a1 :: a2 :: a3 :: a4 :: a5 :: a6 :: a7 :: a8 :: a9 :: a10 :: a11 :: b0 :: L) (.ref x :: st) z E im := by
  subst hq
  exact zz_pure S (fun _ _ _ _ _ _ _ _ _ _ _ _ _ _ _ hx hb hown hts hl kk => lv_astore hx hb hd hl.1 (by have := hl.2; simp only [List.length_cons] at this; omega) rfl (fun ls9 h9 => kk _ (zz_set1 (v := .ref x) (i := 12) hl.2 (zz_hp (i := 11) rfl hp) h9))) k
theorem zz_astore_13 (S : zz_S G l own cc nL d n0 mcT msT isI rt Qf w) {a0 a1 a2 a3 a4 a5 a6 a7 a8 a9 a10 a11 a12 b0 : Option Value} {x : Nat} (hp : zz_c1 a12 = true) (hd : decode cc pc = .ok (.astore 13, 2)) (hq : pc + 2 = q) (k : w q (a0 :: a1 :: a2 :: a3 :: a4 :: a5 :: a6 :: a7 :: a8 :: a9 :: a10 :: a11 :: a12 :: some (.ref x) :: L) (st) z E im) : w pc (a0 :: a1 :: a2 :: a3 :: a4 :: a5 :: a6 :: a7 :: a8 :: a9 :: a10 :: a11 :: a12 :: b0 :: L) (.ref x :: st) z E im := by
  subst hq
  exact zz_pure S (fun _ _ _ _ _ _ _ _ _ _ _ _ _ _ _ hx hb hown hts hl kk => lv_astore hx hb hd hl.1 (by have := hl.2; simp only [List.length_cons] at this; omega) rfl (fun ls9 h9 => kk _ (zz_set1 (v := .ref x) (i := 13) hl.2 (zz_hp (i := 12) rfl hp) h9))) k
theorem zz_astore_14 (S : zz_S G l own cc nL d n0 mcT msT isI rt Qf w) {a0 a1 a2 a3 a4 a5 a6 a7 a8 a9 a10 a11 a12 a13 b0 : Option Value} {x : Nat} (hp : zz_c1 a13 = true) (hd : decode cc pc = .ok (.astore 14, 2)) (hq : pc + 2 = q) (k : w q (a0 :: a1 :: a2 :: a3 :: a4 :: a5 :: a6 :: a7 :: a8 :: a9 :: a10 :: a11 :: a12 :: a13 :: some (.ref x) :: L) (st) z E im) : w pc (a0 :: a1 :: a2 :: a3 :: a4 :: a5 :: a6 :: a7 :: a8 :: a9 :: a10 :: a11 :: a12 :: a13 :: b0 :: L) (.ref x :: st) z E im := by
  subst hq
  exact zz_pure S (fun _ _ _ _ _ _ _ _ _ _ _ _ _ _ _ hx hb hown hts hl kk => lv_astore hx hb hd hl.1 (by have := hl.2; simp only [List.length_cons] at this; omega) rfl (fun ls9 h9 => kk _ (zz_set1 (v := .ref x) (i := 14) hl.2 (zz_hp (i := 13) rfl hp) h9))) k
theorem zz_astore_15 (S : zz_S G l own cc nL d n0 mcT msT isI rt Qf w) {a0 a1 a2 a3 a4 a5 a6 a7 a8 a9 a10 a11 a12 a13 a14 b0 : Option Value} {x : Nat} (hp : zz_c1 a14 = true) (hd : decode cc pc = .ok (.astore 15, 2)) (hq : pc + 2 = q) (k : w q (a0 :: a1 :: a2 :: a3 :: a4 :: a5 :: a6 :: a7 :: a8 :: a9 :: a10 :: a11 :: a12 :: a13 :: a14 :: some (.ref x) :: L) (st) z E im) : w pc (a0 :: a1 :: a2 :: a3 :: a4 :: a5 :: a6 :: a7 :: a8 :: a9 :: a10 :: a11 :: a12 :: a13 :: a14 :: b0 :: L) (.ref x :: st) z E im := by
  subst hq
  exact zz_pure S (fun _ _ _ _ _ _ _ _ _ _ _ _ _ _ _ hx hb hown hts hl kk => lv_astore hx hb hd hl.1 (by have := hl.2; simp only [List.length_cons] at this; omega) rfl (fun ls9 h9 => kk _ (zz_set1 (v := .ref x) (i := 15) hl.2 (zz_hp (i := 14) rfl hp) h9))) k
theorem zz_astore_16 (S : zz_S G l own cc nL d n0 mcT msT isI rt Qf w) {a0 a1 a2 a3 a4 a5 a6 a7 a8 a9 a10 a11 a12 a13 a14 a15 b0 : Option Value} {x : Nat} (hp : zz_c1 a15 = true) (hd : decode cc pc = .ok (.astore 16, 2)) (hq : pc + 2 = q) (k : w q (a0 :: a1 :: a2 :: a3 :: a4 :: a5 :: a6 :: a7 :: a8 :: a9 :: a10 :: a11 :: a12 :: a13 :: a14 :: a15 :: some (.ref x) :: L) (st) z E im) : w pc (a0 :: a1 :: a2 :: a3 :: a4 :: a5 :: a6 :: a7 :: a8 :: a9 :: a10 :: a11 :: a12 :: a13 :: a14 :: a15 :: b0 :: L) (.ref x :: st) z E im := by
  subst hq
  exact zz_pure S (fun _ _ _ _ _ _ _ _ _ _ _ _ _ _ _ hx hb hown hts hl kk => lv_astore hx hb hd hl.1 (by have := hl.2; simp only [List.length_cons] at this; omega) rfl (fun ls9 h9 => kk _ (zz_set1 (v := .ref x) (i := 16) hl.2 (zz_hp (i := 15) rfl hp) h9))) k
theorem zz_iinc_0 (S : zz_S G l own cc nL d n0 mcT msT isI rt Qf w) {n : Int} {x : Int32}  (hd : decode cc pc = .ok (.iinc 0 n, 3)) (hq : pc + 3 = q) (k : w q (some (.int (x + Int32.ofInt n)) :: L) (st) z E im) : w pc (some (.int x) :: L) (st) z E im := by
  subst hq
  exact zz_pure S (fun _ _ _ _ _ _ _ _ _ _ _ _ _ _ _ hx hb hown hts hl kk => by
    obtain ⟨k9, hk9⟩ := List.getElem?_of_mem (zz_l_mem (G := G) (i := 0) (L := some (.int x) :: L) (q := (0, .int x)) |>.mpr ⟨0, .int x, rfl, rfl⟩)
    exact lv_iinc (k := k9) hx hb hd hl.1 hk9 rfl (by have := hl.2; simp only [List.length_cons] at this; omega) rfl (fun ls9 h9 => kk _ (zz_set1 (v := .int (x + Int32.ofInt n)) (i := 0) hl.2 (fun j v hj _ => absurd hj (Nat.succ_ne_zero j)) h9))) k
theorem zz_iinc_1 (S : zz_S G l own cc nL d n0 mcT msT isI rt Qf w) {a0 : Option Value} {n : Int} {x : Int32} (hp : zz_c1 a0 = true) (hd : decode cc pc = .ok (.iinc 1 n, 3)) (hq : pc + 3 = q) (k : w q (a0 :: some (.int (x + Int32.ofInt n)) :: L) (st) z E im) : w pc (a0 :: some (.int x) :: L) (st) z E im := by
  subst hq
  exact zz_pure S (fun _ _ _ _ _ _ _ _ _ _ _ _ _ _ _ hx hb hown hts hl kk => by
    obtain ⟨k9, hk9⟩ := List.getElem?_of_mem (zz_l_mem (G := G) (i := 0) (L := a0 :: some (.int x) :: L) (q := (1, .int x)) |>.mpr ⟨1, .int x, rfl, rfl⟩)
    exact lv_iinc (k := k9) hx hb hd hl.1 hk9 rfl (by have := hl.2; simp only [List.length_cons] at this; omega) rfl (fun ls9 h9 => kk _ (zz_set1 (v := .int (x + Int32.ofInt n)) (i := 1) hl.2 (zz_hp (i := 0) rfl hp) h9))) k
theorem zz_iinc_2 (S : zz_S G l own cc nL d n0 mcT msT isI rt Qf w) {a0 a1 : Option Value} {n : Int} {x : Int32} (hp : zz_c1 a1 = true) (hd : decode cc pc = .ok (.iinc 2 n, 3)) (hq : pc + 3 = q) (k : w q (a0 :: a1 :: some (.int (x + Int32.ofInt n)) :: L) (st) z E im) : w pc (a0 :: a1 :: some (.int x) :: L) (st) z E im := by
  subst hq
  exact zz_pure S (fun _ _ _ _ _ _ _ _ _ _ _ _ _ _ _ hx hb hown hts hl kk => by
    obtain ⟨k9, hk9⟩ := List.getElem?_of_mem (zz_l_mem (G := G) (i := 0) (L := a0 :: a1 :: some (.int x) :: L) (q := (2, .int x)) |>.mpr ⟨2, .int x, rfl, rfl⟩)
    exact lv_iinc (k := k9) hx hb hd hl.1 hk9 rfl (by have := hl.2; simp only [List.length_cons] at this; omega) rfl (fun ls9 h9 => kk _ (zz_set1 (v := .int (x + Int32.ofInt n)) (i := 2) hl.2 (zz_hp (i := 1) rfl hp) h9))) k
theorem zz_iinc_3 (S : zz_S G l own cc nL d n0 mcT msT isI rt Qf w) {a0 a1 a2 : Option Value} {n : Int} {x : Int32} (hp : zz_c1 a2 = true) (hd : decode cc pc = .ok (.iinc 3 n, 3)) (hq : pc + 3 = q) (k : w q (a0 :: a1 :: a2 :: some (.int (x + Int32.ofInt n)) :: L) (st) z E im) : w pc (a0 :: a1 :: a2 :: some (.int x) :: L) (st) z E im := by
  subst hq
  exact zz_pure S (fun _ _ _ _ _ _ _ _ _ _ _ _ _ _ _ hx hb hown hts hl kk => by
    obtain ⟨k9, hk9⟩ := List.getElem?_of_mem (zz_l_mem (G := G) (i := 0) (L := a0 :: a1 :: a2 :: some (.int x) :: L) (q := (3, .int x)) |>.mpr ⟨3, .int x, rfl, rfl⟩)
    exact lv_iinc (k := k9) hx hb hd hl.1 hk9 rfl (by have := hl.2; simp only [List.length_cons] at this; omega) rfl (fun ls9 h9 => kk _ (zz_set1 (v := .int (x + Int32.ofInt n)) (i := 3) hl.2 (zz_hp (i := 2) rfl hp) h9))) k
theorem zz_iinc_4 (S : zz_S G l own cc nL d n0 mcT msT isI rt Qf w) {a0 a1 a2 a3 : Option Value} {n : Int} {x : Int32} (hp : zz_c1 a3 = true) (hd : decode cc pc = .ok (.iinc 4 n, 3)) (hq : pc + 3 = q) (k : w q (a0 :: a1 :: a2 :: a3 :: some (.int (x + Int32.ofInt n)) :: L) (st) z E im) : w pc (a0 :: a1 :: a2 :: a3 :: some (.int x) :: L) (st) z E im := by
  subst hq
  exact zz_pure S (fun _ _ _ _ _ _ _ _ _ _ _ _ _ _ _ hx hb hown hts hl kk => by
    obtain ⟨k9, hk9⟩ := List.getElem?_of_mem (zz_l_mem (G := G) (i := 0) (L := a0 :: a1 :: a2 :: a3 :: some (.int x) :: L) (q := (4, .int x)) |>.mpr ⟨4, .int x, rfl, rfl⟩)
    exact lv_iinc (k := k9) hx hb hd hl.1 hk9 rfl (by have := hl.2; simp only [List.length_cons] at this; omega) rfl (fun ls9 h9 => kk _ (zz_set1 (v := .int (x + Int32.ofInt n)) (i := 4) hl.2 (zz_hp (i := 3) rfl hp) h9))) k
theorem zz_iinc_5 (S : zz_S G l own cc nL d n0 mcT msT isI rt Qf w) {a0 a1 a2 a3 a4 : Option Value} {n : Int} {x : Int32} (hp : zz_c1 a4 = true) (hd : decode cc pc = .ok (.iinc 5 n, 3)) (hq : pc + 3 = q) (k : w q (a0 :: a1 :: a2 :: a3 :: a4 :: some (.int (x + Int32.ofInt n)) :: L) (st) z E im) : w pc (a0 :: a1 :: a2 :: a3 :: a4 :: some (.int x) :: L) (st) z E im := by
  subst hq
  exact zz_pure S (fun _ _ _ _ _ _ _ _ _ _ _ _ _ _ _ hx hb hown hts hl kk => by
    obtain ⟨k9, hk9⟩ := List.getElem?_of_mem (zz_l_mem (G := G) (i := 0) (L := a0 :: a1 :: a2 :: a3 :: a4 :: some (.int x) :: L) (q := (5, .int x)) |>.mpr ⟨5, .int x, rfl, rfl⟩)
    exact lv_iinc (k := k9) hx hb hd hl.1 hk9 rfl (by have := hl.2; simp only [List.length_cons] at this; omega) rfl (fun ls9 h9 => kk _ (zz_set1 (v := .int (x + Int32.ofInt n)) (i := 5) hl.2 (zz_hp (i := 4) rfl hp) h9))) k
theorem zz_iinc_6 (S : zz_S G l own cc nL d n0 mcT msT isI rt Qf w) {a0 a1 a2 a3 a4 a5 : Option Value} {n : Int} {x : Int32} (hp : zz_c1 a5 = true) (hd : decode cc pc = .ok (.iinc 6 n, 3)) (hq : pc + 3 = q) (k : w q (a0 :: a1 :: a2 :: a3 :: a4 :: a5 :: some (.int (x + Int32.ofInt n)) :: L) (st) z E im) : w pc (a0 :: a1 :: a2 :: a3 :: a4 :: a5 :: some (.int x) :: L) (st) z E im := by
  subst hq
  exact zz_pure S (fun _ _ _ _ _ _ _ _ _ _ _ _ _ _ _ hx hb hown hts hl kk => by
    obtain ⟨k9, hk9⟩ := List.getElem?_of_mem (zz_l_mem (G := G) (i := 0) (L := a0 :: a1 :: a2 :: a3 :: a4 :: a5 :: some (.int x) :: L) (q := (6, .int x)) |>.mpr ⟨6, .int x, rfl, rfl⟩)
    exact lv_iinc (k := k9) hx hb hd hl.1 hk9 rfl (by have := hl.2; simp only [List.length_cons] at this; omega) rfl (fun ls9 h9 => kk _ (zz_set1 (v := .int (x + Int32.ofInt n)) (i := 6) hl.2 (zz_hp (i := 5) rfl hp) h9))) k
theorem zz_iinc_7 (S : zz_S G l own cc nL d n0 mcT msT isI rt Qf w) {a0 a1 a2 a3 a4 a5 a6 : Option Value} {n : Int} {x : Int32} (hp : zz_c1 a6 = true) (hd : decode cc pc = .ok (.iinc 7 n, 3)) (hq : pc + 3 = q) (k : w q (a0 :: a1 :: a2 :: a3 :: a4 :: a5 :: a6 :: some (.int (x + Int32.ofInt n)) :: L) (st) z E im) : w pc (a0 :: a1 :: a2 :: a3 :: a4 :: a5 :: a6 :: some (.int x) :: L) (st) z E im := by
  subst hq
  exact zz_pure S (fun _ _ _ _ _ _ _ _ _ _ _ _ _ _ _ hx hb hown hts hl kk => by
    obtain ⟨k9, hk9⟩ := List.getElem?_of_mem (zz_l_mem (G := G) (i := 0) (L := a0 :: a1 :: a2 :: a3 :: a4 :: a5 :: a6 :: some (.int x) :: L) (q := (7, .int x)) |>.mpr ⟨7, .int x, rfl, rfl⟩)
    exact lv_iinc (k := k9) hx hb hd hl.1 hk9 rfl (by have := hl.2; simp only [List.length_cons] at this; omega) rfl (fun ls9 h9 => kk _ (zz_set1 (v := .int (x + Int32.ofInt n)) (i := 7) hl.2 (zz_hp (i := 6) rfl hp) h9))) k
theorem zz_iinc_8 (S : zz_S G l own cc nL d n0 mcT msT isI rt Qf w) {a0 a1 a2 a3 a4 a5 a6 a7 : Option Value} {n : Int} {x : Int32} (hp : zz_c1 a7 = true) (hd : decode cc pc = .ok (.iinc 8 n, 3)) (hq : pc + 3 = q) (k : w q (a0 :: a1 :: a2 :: a3 :: a4 :: a5 :: a6 :: a7 :: some (.int (x + Int32.ofInt n)) :: L) (st) z E im) : w pc (a0 :: a1 :: a2 :: a3 :: a4 :: a5 :: a6 :: a7 :: some (.int x) :: L) (st) z E im := by
  subst hq
  exact zz_pure S (fun _ _ _ _ _ _ _ _ _ _ _ _ _ _ _ hx hb hown hts hl kk => by
    obtain ⟨k9, hk9⟩ := List.getElem?_of_mem (zz_l_mem (G := G) (i := 0) (L := a0 :: a1 :: a2 :: a3 :: a4 :: a5 :: a6 :: a7 :: some (.int x) :: L) (q := (8, .int x)) |>.mpr ⟨8, .int x, rfl, rfl⟩)
    exact lv_iinc (k := k9) hx hb hd hl.1 hk9 rfl (by have := hl.2; simp only [List.length_cons] at this; omega) rfl (fun ls9 h9 => kk _ (zz_set1 (v := .int (x + Int32.ofInt n)) (i := 8) hl.2 (zz_hp (i := 7) rfl hp) h9))) k
theorem zz_iinc_9 (S : zz_S G l own cc nL d n0 mcT msT isI rt Qf w) {a0 a1 a2 a3 a4 a5 a6 a7 a8 : Option Value} {n : Int} {x : Int32} (hp : zz_c1 a8 = true) (hd : decode cc pc = .ok (.iinc 9 n, 3)) (hq : pc + 3 = q) (k : w q (a0 :: a1 :: a2 :: a3 :: a4 :: a5 :: a6 :: a7 :: a8 :: some (.int (x + Int32.ofInt n)) :: L) (st) z E im) : w pc (a0 :: a1 :: a2 :: a3 :: a4 :: a5 :: a6 :: a7 :: a8 :: some (.int x) :: L) (st) z E im := by
  subst hq
  exact zz_pure S (fun _ _ _ _ _ _ _ _ _ _ _ _ _ _ _ hx hb hown hts hl kk => by
    obtain ⟨k9, hk9⟩ := List.getElem?_of_mem (zz_l_mem (G := G) (i := 0) (L := a0 :: a1 :: a2 :: a3 :: a4 :: a5 :: a6 :: a7 :: a8 :: some (.int x) :: L) (q := (9, .int x)) |>.mpr ⟨9, .int x, rfl, rfl⟩)
    exact lv_iinc (k := k9) hx hb hd hl.1 hk9 rfl (by have := hl.2; simp only [List.length_cons] at this; omega) rfl (fun ls9 h9 => kk _ (zz_set1 (v := .int (x + Int32.ofInt n)) (i := 9) hl.2 (zz_hp (i := 8) rfl hp) h9))) k
theorem zz_iinc_10 (S : zz_S G l own cc nL d n0 mcT msT isI rt Qf w) {a0 a1 a2 a3 a4 a5 a6 a7 a8 a9 : Option Value} {n : Int} {x : Int32} (hp : zz_c1 a9 = true) (hd : decode cc pc = .ok (.iinc 10 n, 3)) (hq : pc + 3 = q) (k : w q (a0 :: a1 :: a2 :: a3 :: a4 :: a5 :: a6 :: a7 :: a8 :: a9 :: some (.int (x + Int32.ofInt n)) :: L) (st) z E im) : w pc (a0 :: a1 :: a2 :: a3 :: a4 :: a5 :: a6 :: a7 :: a8 :: a9 :: some (.int x) :: L) (st) z E im := by
  subst hq
  exact zz_pure S (fun _ _ _ _ _ _ _ _ _ _ _ _ _ _ _ hx hb hown hts hl kk => by
    obtain ⟨k9, hk9⟩ := List.getElem?_of_mem (zz_l_mem (G := G) (i := 0) (L := a0 :: a1 :: a2 :: a3 :: a4 :: a5 :: a6 :: a7 :: a8 :: a9 :: some (.int x) :: L) (q := (10, .int x)) |>.mpr ⟨10, .int x, rfl, rfl⟩)
    exact lv_iinc (k := k9) hx hb hd hl.1 hk9 rfl (by have := hl.2; simp only [List.length_cons] at this; omega) rfl (fun ls9 h9 => kk _ (zz_set1 (v := .int (x + Int32.ofInt n)) (i := 10) hl.2 (zz_hp (i := 9) rfl hp) h9))) k
theorem zz_iinc_11 (S : zz_S G l own cc nL d n0 mcT msT isI rt Qf w) {a0 a1 a2 a3 a4 a5 a6 a7 a8 a9 a10 : Option Value} {n : Int} {x : Int32} (hp : zz_c1 a10 = true) (hd : decode cc pc = .ok (.iinc 11 n, 3)) (hq : pc + 3 = q) (k : w q (a0 :: a1 :: a2 :: a3 :: a4 :: a5 :: a6 :: a7 :: a8 :: a9 :: a10 :: some (.int (x + Int32.ofInt n)) :: L) (st) z E im) : w pc (a0 :: a1 :: a2 :: a3 :: a4 :: a5 :: a6 :: a7 :: a8 :: a9 :: a10 :: some (.int x) :: L) (st) z E im := by
  subst hq
  exact zz_pure S (fun _ _ _ _ _ _ _ _ _ _ _ _ _ _ _ hx hb hown hts hl kk => by
    obtain ⟨k9, hk9⟩ := List.getElem?_of_mem (zz_l_mem (G := G) (i := 0) (L := a0 :: a1 :: a2 :: a3 :: a4 :: a5 :: a6 :: a7 :: a8 :: a9 :: a10 :: some (.int x) :: L) (q := (11, .int x)) |>.mpr ⟨11, .int x, rfl, rfl⟩)
    exact lv_iinc (k := k9) hx hb hd hl.1 hk9 rfl (by have := hl.2; simp only [List.length_cons] at this; omega) rfl (fun ls9 h9 => kk _ (zz_set1 (v := .int (x + Int32.ofInt n)) (i := 11) hl.2 (zz_hp (i := 10) rfl hp) h9))) k
theorem zz_iinc_12 (S : zz_S G l own cc nL d n0 mcT msT isI rt Qf w) {a0 a1 a2 a3 a4 a5 a6 a7 a8 a9 a10 a11 : Option Value} {n : Int} {x : Int32} (hp : zz_c1 a11 = true) (hd : decode cc pc = .ok (.iinc 12 n, 3)) (hq : pc + 3 = q) (k : w q (a0 :: a1 :: a2 :: a3 :: a4 :: a5 :: a6 :: a7 :: a8 :: a9 :: a10 :: a11 :: some (.int (x + Int32.ofInt n)) :: L) (st) z E im) : w pc (a0 :: a1 :: a2 :: a3 :: a4 :: a5 :: a6 :: a7 :: a8 :: a9 :: a10 :: a11 :: some (.int x) :: L) (st) z E im := by
  subst hq
  exact zz_pure S (fun _ _ _ _ _ _ _ _ _ _ _ _ _ _ _ hx hb hown hts hl kk => by
    obtain ⟨k9, hk9⟩ := List.getElem?_of_mem (zz_l_mem (G := G) (i := 0) (L := a0 :: a1 :: a2 :: a3 :: a4 :: a5 :: a6 :: a7 :: a8 :: a9 :: a10 :: a11 :: some (.int x) :: L) (q := (12, .int x)) |>.mpr ⟨12, .int x, rfl, rfl⟩)
    exact lv_iinc (k := k9) hx hb hd hl.1 hk9 rfl (by have := hl.2; simp only [List.length_cons] at this; omega) rfl (fun ls9 h9 => kk _ (zz_set1 (v := .int (x + Int32.ofInt n)) (i := 12) hl.2 (zz_hp (i := 11) rfl hp) h9))) k
theorem zz_iinc_13 (S : zz_S G l own cc nL d n0 mcT msT isI rt Qf w) {a0 a1 a2 a3 a4 a5 a6 a7 a8 a9 a10 a11 a12 : Option Value} {n : Int} {x : Int32} (hp : zz_c1 a12 = true) (hd : decode cc pc = .ok (.iinc 13 n, 3)) (hq : pc + 3 = q) (k : w q (a0 :: a1 :: a2 :: a3 :: a4 :: a5 :: a6 :: a7 :: a8 :: a9 :: a10 :: a11 :: a12 :: some (.int (x + Int32.ofInt n)) :: L) (st) z E im) : w pc (a0 :: a1 :: a2 :: a3 :: a4 :: a5 :: a6 :: a7 :: a8 :: a9 :: a10 :: a11 :: a12 :: some (.int x) :: L) (st) z E im := by
  subst hq
  exact zz_pure S (fun _ _ _ _ _ _ _ _ _ _ _ _ _ _ _ hx hb hown hts hl kk => by
    obtain ⟨k9, hk9⟩ := List.getElem?_of_mem (zz_l_mem (G := G) (i := 0) (L := a0 :: a1 :: a2 :: a3 :: a4 :: a5 :: a6 :: a7 :: a8 :: a9 :: a10 :: a11 :: a12 :: some (.int x) :: L) (q := (13, .int x)) |>.mpr ⟨13, .int x, rfl, rfl⟩)
    exact lv_iinc (k := k9) hx hb hd hl.1 hk9 rfl (by have := hl.2; simp only [List.length_cons] at this; omega) rfl (fun ls9 h9 => kk _ (zz_set1 (v := .int (x + Int32.ofInt n)) (i := 13) hl.2 (zz_hp (i := 12) rfl hp) h9))) k
theorem zz_iinc_14 (S : zz_S G l own cc nL d n0 mcT msT isI rt Qf w) {a0 a1 a2 a3 a4 a5 a6 a7 a8 a9 a10 a11 a12 a13 : Option Value} {n : Int} {x : Int32} (hp : zz_c1 a13 = true) (hd : decode cc pc = .ok (.iinc 14 n, 3)) (hq : pc + 3 = q) (k : w q (a0 :: a1 :: a2 :: a3 :: a4 :: a5 :: a6 :: a7 :: a8 :: a9 :: a10 :: a11 :: a12 :: a13 :: some (.int (x + Int32.ofInt n)) :: L) (st) z E im) : w pc (a0 :: a1 :: a2 :: a3 :: a4 :: a5 :: a6 :: a7 :: a8 :: a9 :: a10 :: a11 :: a12 :: a13 :: some (.int x) :: L) (st) z E im := by
  subst hq
  exact zz_pure S (fun _ _ _ _ _ _ _ _ _ _ _ _ _ _ _ hx hb hown hts hl kk => by
    obtain ⟨k9, hk9⟩ := List.getElem?_of_mem (zz_l_mem (G := G) (i := 0) (L := a0 :: a1 :: a2 :: a3 :: a4 :: a5 :: a6 :: a7 :: a8 :: a9 :: a10 :: a11 :: a12 :: a13 :: some (.int x) :: L) (q := (14, .int x)) |>.mpr ⟨14, .int x, rfl, rfl⟩)
    exact lv_iinc (k := k9) hx hb hd hl.1 hk9 rfl (by have := hl.2; simp only [List.length_cons] at this; omega) rfl (fun ls9 h9 => kk _ (zz_set1 (v := .int (x + Int32.ofInt n)) (i := 14) hl.2 (zz_hp (i := 13) rfl hp) h9))) k
theorem zz_iinc_15 (S : zz_S G l own cc nL d n0 mcT msT isI rt Qf w) {a0 a1 a2 a3 a4 a5 a6 a7 a8 a9 a10 a11 a12 a13 a14 : Option Value} {n : Int} {x : Int32} (hp : zz_c1 a14 = true) (hd : decode cc pc = .ok (.iinc 15 n, 3)) (hq : pc + 3 = q) (k : w q (a0 :: a1 :: a2 :: a3 :: a4 :: a5 :: a6 :: a7 :: a8 :: a9 :: a10 :: a11 :: a12 :: a13 :: a14 :: some (.int (x + Int32.ofInt n)) :: L) (st) z E im) : w pc (a0 :: a1 :: a2 :: a3 :: a4 :: a5 :: a6 :: a7 :: a8 :: a9 :: a10 :: a11 :: a12 :: a13 :: a14 :: some (.int x) :: L) (st) z E im := by
  subst hq
  exact zz_pure S (fun _ _ _ _ _ _ _ _ _ _ _ _ _ _ _ hx hb hown hts hl kk => by
    obtain ⟨k9, hk9⟩ := List.getElem?_of_mem (zz_l_mem (G := G) (i := 0) (L := a0 :: a1 :: a2 :: a3 :: a4 :: a5 :: a6 :: a7 :: a8 :: a9 :: a10 :: a11 :: a12 :: a13 :: a14 :: some (.int x) :: L) (q := (15, .int x)) |>.mpr ⟨15, .int x, rfl, rfl⟩)
    exact lv_iinc (k := k9) hx hb hd hl.1 hk9 rfl (by have := hl.2; simp only [List.length_cons] at this; omega) rfl (fun ls9 h9 => kk _ (zz_set1 (v := .int (x + Int32.ofInt n)) (i := 15) hl.2 (zz_hp (i := 14) rfl hp) h9))) k
theorem zz_iinc_16 (S : zz_S G l own cc nL d n0 mcT msT isI rt Qf w) {a0 a1 a2 a3 a4 a5 a6 a7 a8 a9 a10 a11 a12 a13 a14 a15 : Option Value} {n : Int} {x : Int32} (hp : zz_c1 a15 = true) (hd : decode cc pc = .ok (.iinc 16 n, 3)) (hq : pc + 3 = q) (k : w q (a0 :: a1 :: a2 :: a3 :: a4 :: a5 :: a6 :: a7 :: a8 :: a9 :: a10 :: a11 :: a12 :: a13 :: a14 :: a15 :: some (.int (x + Int32.ofInt n)) :: L) (st) z E im) : w pc (a0 :: a1 :: a2 :: a3 :: a4 :: a5 :: a6 :: a7 :: a8 :: a9 :: a10 :: a11 :: a12 :: a13 :: a14 :: a15 :: some (.int x) :: L) (st) z E im := by
  subst hq
  exact zz_pure S (fun _ _ _ _ _ _ _ _ _ _ _ _ _ _ _ hx hb hown hts hl kk => by
    obtain ⟨k9, hk9⟩ := List.getElem?_of_mem (zz_l_mem (G := G) (i := 0) (L := a0 :: a1 :: a2 :: a3 :: a4 :: a5 :: a6 :: a7 :: a8 :: a9 :: a10 :: a11 :: a12 :: a13 :: a14 :: a15 :: some (.int x) :: L) (q := (16, .int x)) |>.mpr ⟨16, .int x, rfl, rfl⟩)
    exact lv_iinc (k := k9) hx hb hd hl.1 hk9 rfl (by have := hl.2; simp only [List.length_cons] at this; omega) rfl (fun ls9 h9 => kk _ (zz_set1 (v := .int (x + Int32.ofInt n)) (i := 16) hl.2 (zz_hp (i := 15) rfl hp) h9))) k
theorem zz_if_eq (S : zz_S G l own cc nL d n0 mcT msT isI rt Qf w) {x : Int32} {off : Int} (hd : decode cc pc = .ok (.ifCond .eq off, 3)) (ht : (pc : Int) + off = (t : Int)) (hq : pc + 3 = q) (kt : x = 0 → w t L st z E im) (kf : ¬ x = 0 → w q L st z E im) : w pc L (.int x :: st) z E im := by
  subst hq
  exact zz_br S (fun _ _ _ _ _ _ _ _ _ _ _ _ _ _ _ hx hb a b => lv_if_eq hx hb hd ht a b) kt kf
theorem zz_icmp_eq (S : zz_S G l own cc nL d n0 mcT msT isI rt Qf w) {x y : Int32} {off : Int} (hd : decode cc pc = .ok (.if_icmp .eq off, 3)) (ht : (pc : Int) + off = (t : Int)) (hq : pc + 3 = q) (kt : x = y → w t L st z E im) (kf : ¬ x = y → w q L st z E im) : w pc L (.int y :: .int x :: st) z E im := by
  subst hq
  exact zz_br S (fun _ _ _ _ _ _ _ _ _ _ _ _ _ _ _ hx hb a b => lv_icmp_eq hx hb hd ht a b) kt kf
theorem zz_if_ne (S : zz_S G l own cc nL d n0 mcT msT isI rt Qf w) {x : Int32} {off : Int} (hd : decode cc pc = .ok (.ifCond .ne off, 3)) (ht : (pc : Int) + off = (t : Int)) (hq : pc + 3 = q) (kt : x ≠ 0 → w t L st z E im) (kf : x = 0 → w q L st z E im) : w pc L (.int x :: st) z E im := by
  subst hq
  exact zz_br S (fun _ _ _ _ _ _ _ _ _ _ _ _ _ _ _ hx hb a b => lv_if_ne hx hb hd ht a (fun h => b (fun z => z h))) kt (fun h => kf (Classical.not_not.mp h))
theorem zz_icmp_ne (S : zz_S G l own cc nL d n0 mcT msT isI rt Qf w) {x y : Int32} {off : Int} (hd : decode cc pc = .ok (.if_icmp .ne off, 3)) (ht : (pc : Int) + off = (t : Int)) (hq : pc + 3 = q) (kt : x ≠ y → w t L st z E im) (kf : x = y → w q L st z E im) : w pc L (.int y :: .int x :: st) z E im := by
  subst hq
  exact zz_br S (fun _ _ _ _ _ _ _ _ _ _ _ _ _ _ _ hx hb a b => lv_icmp_ne hx hb hd ht a (fun h => b (fun z => z h))) kt (fun h => kf (Classical.not_not.mp h))
theorem zz_if_lt (S : zz_S G l own cc nL d n0 mcT msT isI rt Qf w) {x : Int32} {off : Int} (hd : decode cc pc = .ok (.ifCond .lt off, 3)) (ht : (pc : Int) + off = (t : Int)) (hq : pc + 3 = q) (kt : x < 0 → w t L st z E im) (kf : ¬ x < 0 → w q L st z E im) : w pc L (.int x :: st) z E im := by
  subst hq
  exact zz_br S (fun _ _ _ _ _ _ _ _ _ _ _ _ _ _ _ hx hb a b => lv_if_lt hx hb hd ht a b) kt kf
theorem zz_icmp_lt (S : zz_S G l own cc nL d n0 mcT msT isI rt Qf w) {x y : Int32} {off : Int} (hd : decode cc pc = .ok (.if_icmp .lt off, 3)) (ht : (pc : Int) + off = (t : Int)) (hq : pc + 3 = q) (kt : x < y → w t L st z E im) (kf : ¬ x < y → w q L st z E im) : w pc L (.int y :: .int x :: st) z E im := by
  subst hq
  exact zz_br S (fun _ _ _ _ _ _ _ _ _ _ _ _ _ _ _ hx hb a b => lv_icmp_lt hx hb hd ht a b) kt kf
theorem zz_if_ge (S : zz_S G l own cc nL d n0 mcT msT isI rt Qf w) {x : Int32} {off : Int} (hd : decode cc pc = .ok (.ifCond .ge off, 3)) (ht : (pc : Int) + off = (t : Int)) (hq : pc + 3 = q) (kt : x ≥ 0 → w t L st z E im) (kf : ¬ x ≥ 0 → w q L st z E im) : w pc L (.int x :: st) z E im := by
  subst hq
  exact zz_br S (fun _ _ _ _ _ _ _ _ _ _ _ _ _ _ _ hx hb a b => lv_if_ge hx hb hd ht a b) kt kf
theorem zz_icmp_ge (S : zz_S G l own cc nL d n0 mcT msT isI rt Qf w) {x y : Int32} {off : Int} (hd : decode cc pc = .ok (.if_icmp .ge off, 3)) (ht : (pc : Int) + off = (t : Int)) (hq : pc + 3 = q) (kt : x ≥ y → w t L st z E im) (kf : ¬ x ≥ y → w q L st z E im) : w pc L (.int y :: .int x :: st) z E im := by
  subst hq
  exact zz_br S (fun _ _ _ _ _ _ _ _ _ _ _ _ _ _ _ hx hb a b => lv_icmp_ge hx hb hd ht a b) kt kf
theorem zz_if_gt (S : zz_S G l own cc nL d n0 mcT msT isI rt Qf w) {x : Int32} {off : Int} (hd : decode cc pc = .ok (.ifCond .gt off, 3)) (ht : (pc : Int) + off = (t : Int)) (hq : pc + 3 = q) (kt : x > 0 → w t L st z E im) (kf : ¬ x > 0 → w q L st z E im) : w pc L (.int x :: st) z E im := by
  subst hq
  exact zz_br S (fun _ _ _ _ _ _ _ _ _ _ _ _ _ _ _ hx hb a b => lv_if_gt hx hb hd ht a b) kt kf
theorem zz_icmp_gt (S : zz_S G l own cc nL d n0 mcT msT isI rt Qf w) {x y : Int32} {off : Int} (hd : decode cc pc = .ok (.if_icmp .gt off, 3)) (ht : (pc : Int) + off = (t : Int)) (hq : pc + 3 = q) (kt : x > y → w t L st z E im) (kf : ¬ x > y → w q L st z E im) : w pc L (.int y :: .int x :: st) z E im := by
  subst hq
  exact zz_br S (fun _ _ _ _ _ _ _ _ _ _ _ _ _ _ _ hx hb a b => lv_icmp_gt hx hb hd ht a b) kt kf
theorem zz_if_le (S : zz_S G l own cc nL d n0 mcT msT isI rt Qf w) {x : Int32} {off : Int} (hd : decode cc pc = .ok (.ifCond .le off, 3)) (ht : (pc : Int) + off = (t : Int)) (hq : pc + 3 = q) (kt : x ≤ 0 → w t L st z E im) (kf : ¬ x ≤ 0 → w q L st z E im) : w pc L (.int x :: st) z E im := by
  subst hq
  exact zz_br S (fun _ _ _ _ _ _ _ _ _ _ _ _ _ _ _ hx hb a b => lv_if_le hx hb hd ht a b) kt kf
theorem zz_icmp_le (S : zz_S G l own cc nL d n0 mcT msT isI rt Qf w) {x y : Int32} {off : Int} (hd : decode cc pc = .ok (.if_icmp .le off, 3)) (ht : (pc : Int) + off = (t : Int)) (hq : pc + 3 = q) (kt : x ≤ y → w t L st z E im) (kf : ¬ x ≤ y → w q L st z E im) : w pc L (.int y :: .int x :: st) z E im := by
  subst hq
  exact zz_br S (fun _ _ _ _ _ _ _ _ _ _ _ _ _ _ _ hx hb a b => lv_icmp_le hx hb hd ht a b) kt kf
theorem zz_goto (S : zz_S G l own cc nL d n0 mcT msT isI rt Qf w) {off : Int} (hd : decode cc pc = .ok (.goto off, 3)) (ht : (pc : Int) + off = (t : Int)) (k : w t L st z E im) : w pc L st z E im :=
  zz_pure S (fun _ _ _ _ _ _ _ _ _ _ _ _ _ _ _ hx hb _ _ hl kk => lv_goto hx hb hd ht (kk _ hl)) k
theorem zz_tabOut (S : zz_S G l own cc nL d n0 mcT msT isI rt Qf w) {dflt lo hi : Int} {offs : Array Int} {len : Nat} {x : Int32} (hd : decode cc pc = .ok (.tableswitch dflt lo hi offs, len)) (h : x.toInt < lo ∨ hi < x.toInt) (ht : (pc : Int) + dflt = (t : Int)) (k : w t L st z E im) : w pc L (.int x :: st) z E im :=
  zz_pure S (fun _ _ _ _ _ _ _ _ _ _ _ _ _ _ _ hx hb _ _ hl kk => lv_tableOut hx hb hd h ht (kk _ hl)) k
theorem zz_tabIn (S : zz_S G l own cc nL d n0 mcT msT isI rt Qf w) {dflt lo hi : Int} {offs : Array Int} {len : Nat} {x : Int32} {off : Int} (hd : decode cc pc = .ok (.tableswitch dflt lo hi offs, len)) (h1 : ¬ x.toInt < lo) (h2 : ¬ hi < x.toInt) (ho : offs[(x.toInt - lo).toNat]? = some off) (ht : (pc : Int) + off = (t : Int)) (k : w t L st z E im) : w pc L (.int x :: st) z E im :=
  zz_pure S (fun _ _ _ _ _ _ _ _ _ _ _ _ _ _ _ hx hb _ _ hl kk => lv_tableIn hx hb hd h1 h2 ho ht (kk _ hl)) k
theorem zz_fin (S : zz_S G l own cc nL d n0 mcT msT isI rt Qf w) {v : Option Value} (hr : zz_ret rt cc pc st v) (hQ : Qf v E im) : w pc L st z E im := by
  obtain ⟨p, e, R, s, m, args, below, meth, c, Q, ⟨hx, hb, hml, hown, hts⟩, -, -, -, -, hret, rfl⟩ := S
  intro H locs ls h1 h2 h3 h4 h5 h6
  exact hret pc H locs ls st v z E im hr h1 h2 h3 h4 h5 hQ
theorem zz_vret (S : zz_S G l own cc nL d n0 mcT msT isI none Qf w) (hd : decode cc pc = .ok (.return_, 1)) (hQ : Qf none E im) : w pc L [] z E im := zz_fin S (v := none) ⟨hd, rfl, rfl⟩ hQ
theorem zz_iret (S : zz_S G l own cc nL d n0 mcT msT isI (some .int) Qf w) {r : Int32} (hd : decode cc pc = .ok (.ireturn, 1)) (hQ : Qf (some (.int r)) E im) : w pc L [.int r] z E im := zz_fin S (v := some (.int r)) ⟨hd, r, rfl, rfl, rfl⟩ hQ
theorem zz_zret (S : zz_S G l own cc nL d n0 mcT msT isI (some .boolean) Qf w) {r : Int32} (hr : narrow .boolean (.int r) = .int r) (hd : decode cc pc = .ok (.ireturn, 1)) (hQ : Qf (some (.int r)) E im) : w pc L [.int r] z E im := zz_fin S (v := some (.int r)) ⟨hd, r, rfl, rfl, hr⟩ hQ
theorem zz_bret (S : zz_S G l own cc nL d n0 mcT msT isI (some .byte) Qf w) {r : Int32} (hr : narrow .byte (.int r) = .int r) (hd : decode cc pc = .ok (.ireturn, 1)) (hQ : Qf (some (.int r)) E im) : w pc L [.int r] z E im := zz_fin S (v := some (.int r)) ⟨hd, r, rfl, rfl, hr⟩ hQ
theorem zz_cret (S : zz_S G l own cc nL d n0 mcT msT isI (some .char) Qf w) {r : Int32} (hr : narrow .char (.int r) = .int r) (hd : decode cc pc = .ok (.ireturn, 1)) (hQ : Qf (some (.int r)) E im) : w pc L [.int r] z E im := zz_fin S (v := some (.int r)) ⟨hd, r, rfl, rfl, hr⟩ hQ
theorem zz_lret (S : zz_S G l own cc nL d n0 mcT msT isI (some .long) Qf w) {r : Int64} (hd : decode cc pc = .ok (.lreturn, 1)) (hQ : Qf (some (.long r)) E im) : w pc L [.long r] z E im := zz_fin S (v := some (.long r)) ⟨hd, r, rfl, rfl⟩ hQ
theorem zz_aret (S : zz_S G l own cc nL d n0 mcT msT isI rt Qf w) {C : String} (hrt : rt = some (.object C)) {r : Nat} (hd : decode cc pc = .ok (.areturn, 1)) (hQ : Qf (some (.ref r)) E im) : w pc L [.ref r] z E im := by
  subst hrt
  exact zz_fin S (v := some (.ref r)) ⟨hd, r, rfl, rfl⟩ hQ
end ZR
