/-! THE WALK OVER THE ABSTRACT MEMORY: 'w' says of a place in a method that the machine comes to its end from there -/
def zz_isN : Cond → Bool
  | .methodLinkNest .. => true
  | .fieldLinkNest .. => true
  | _ => false
def zz_t : List Cond := lw_tbl.filter goodWord
def zz_nw : List Cond := lw_tbl.filter zz_isN
theorem zz_in {w : Cond} {i : Nat} (h : lw_tbl[i]? = some w) (g : goodWord w = true) : w ∈ zz_t := List.mem_filter.mpr ⟨List.mem_of_getElem? h, g⟩
theorem zz_inN {w : Cond} {i : Nat} (h : lw_tbl[i]? = some w) (g : zz_isN w = true) : w ∈ zz_nw := List.mem_filter.mpr ⟨List.mem_of_getElem? h, g⟩
theorem zz_pl {ws : List Cond} (ps : List Nat) (hp : ws = ps.filterMap (fun i => lw_tbl[i]?)) (h : ws.all goodWord = true) : ∀ w ∈ ws, w ∈ zz_t := by
  intro w hw
  have h1 := List.all_eq_true.mp h w hw
  rw [hp] at hw
  obtain ⟨i, -, hi⟩ := List.mem_filterMap.mp hw
  exact zz_in hi h1
theorem zz_good : ∀ w ∈ zz_t, w ∈ zz_t ∧ ((w.onTables && w.keeps) = true ∨ ∃ ty, w = .arrayClass ty) := fun w h => ⟨h, good_of_word (List.mem_filter.mp h).2⟩
theorem zz_goodIn {c : Cond} (hc : c ∈ zz_t) : GoodIn zz_t (c :: zz_t) := fun w h => by
  rcases List.mem_cons.mp h with rfl | h
  · exact zz_good _ hc
  · exact zz_good _ h
theorem zz_nw_cases {w : Cond} (h : w ∈ zz_nw) : (∃ a i x d, w = .methodLinkNest a i x d) ∨ ∃ a i b n d e, w = .fieldLinkNest a i b n d e := by
  have h1 := (List.mem_filter.mp h).2
  cases w with
  | methodLinkNest a i x d => exact Or.inl ⟨a, i, x, d, rfl⟩
  | fieldLinkNest a i b n d e => exact Or.inr ⟨a, i, b, n, d, e, rfl⟩
  | _ => simp [zz_isN] at h1
def zz_sn : Nat → String
  | 0 => "LEAST_VALUES"
  | 1 => "GREATEST_VALUES"
  | _ => "FIRST_VALUES"
def zz_st : Nat → List Int32
  | 0 => [0, 1, 0, 1]
  | 1 => [10, 13, 60, 100]
  | _ => [2, 5, 10, 20]
/-- the script's length, its ints -/
def zz_sL (G : ZG) : Nat := G.2.2.2.2.1
def zz_sX (G : ZG) : Nat → Int32 := G.2.2.2.2.2
/-- what is known of the tables, the arrays that nobody writes and the script -/
def zz_K (G : ZG) (U : State) (H : Heap) : Prop :=
  (va_K G.1 zz_cl (zz_tys G) U ∧ (∀ w ∈ zz_nw, va_Nw w U) ∧ va_AO RX6 U ∧ va_AO RX0 U ∧ va_AO RX4 U ∧ va_AO RX5 U) ∧
  (∀ i, i < 3 → va_Z "SundialWorks" (zz_sn i) "[I" (.ref (zz_b G (1000 + i))) (zz_A G) U H ∧ va_T .int (zz_b G (1000 + i)) (zz_st i).length (fun j => .int ((zz_st i).getD j 0)) (zz_A G) U H) ∧
  va_T .int (zz_b G 1050) (zz_sL G) (fun j => .int (zz_sX G j)) (zz_A G) U H
theorem zz_K.warm {G : ZG} {s U : State} {H : Heap} {locs : List Loc} (h : zz_K G s s.heap) (hS : va_S (zz_A G) s.heap H locs) (hU : U.heap = H) (hW : s.WarmedH U.vm) : zz_K G U U.heap := by
  obtain ⟨⟨h1, h2, h3, h4, h5, h6⟩, h7, h8⟩ := h
  have hv : s.vm.Alike U.vm := hW.alike
  rw [hU]
  refine ⟨⟨va_K.moved hv h1, fun w hw => ?_, va_AO.moved hv h3, va_AO.moved hv h4, va_AO.moved hv h5, va_AO.moved hv h6⟩, fun i hi => ⟨(va_Z.moved hv (h7 i hi).1).kept hS.2.1, (va_T.moved hv (h7 i hi).2).kept hS.2.1⟩, (va_T.moved hv h8).kept hS.2.1⟩
  have hn := h2 w hw
  rcases zz_nw_cases hw with ⟨a, i, x, d, rfl⟩ | ⟨a, i, b, n, d, e, rfl⟩
  · exact va_Nw.warmM hW hn
  · exact va_Nw.warmF hW hn
theorem zz_K.call {G : ZG} {U : State} {g : JFrame} {mk : MethodId} {a : Array Value} (h : zz_K G U U.heap) : zz_K G (U.calling g mk a) (U.calling g mk a).heap := by
  obtain ⟨⟨h1, h2, h3, h4, h5, h6⟩, h7, h8⟩ := h
  have hv : U.vm.Alike (U.calling g mk a).vm := Vm.Alike.refl U.vm
  refine ⟨⟨va_K.moved hv h1, fun w hw => ?_, va_AO.moved hv h3, va_AO.moved hv h4, va_AO.moved hv h5, va_AO.moved hv h6⟩, fun i hi => ⟨va_Z.moved hv (h7 i hi).1, va_T.moved hv (h7 i hi).2⟩, va_T.moved hv h8⟩
  have hn := h2 w hw
  rcases zz_nw_cases hw with ⟨a, i, x, d, rfl⟩ | ⟨a, i, b, n, d, e, rfl⟩
  · exact va_Nw.same (u := U) rfl rfl hn
  · exact va_Nw.same (u := U) rfl rfl hn
def zz_W (G : ZG) (p : Program) (l : Launch) (e : Env) (R : Room) (s : State) (m : MethodId) (args : Array Value) (below : List Frame) (meth : Method) (c : Code) (nL n0 mcT msT : Nat) (Q : State → Prop) (pc : Nat) (L : ZL) (st : List Value) (z : Nat) (E : ZE) (im : ZI) : Prop :=
  ∀ (H : Heap) (locs : List Loc) (ls : Array Slot), zz_R G H E im → n0 ≤ E.1 → E.1 ≤ n0 + mcT → z ≤ msT → va_S (zz_A G) s.heap H locs → zz_h G ls nL L →
    W p l e R s m args below meth c H locs (E.1 - n0) z Q (F0 m pc ls (st.map (zz_v G)))
/-- a method's end -/
def zz_ret (rt : Option FieldType) (cc : ByteArray) (pc : Nat) (st : List Value) (v : Option Value) : Prop := match rt with
  | none => decode cc pc = .ok (.return_, 1) ∧ st = [] ∧ v = none
  | some .long => decode cc pc = .ok (.lreturn, 1) ∧ ∃ r, st = [.long r] ∧ v = some (.long r)
  | some (.object _) => decode cc pc = .ok (.areturn, 1) ∧ ∃ k, st = [.ref k] ∧ v = some (.ref k)
  | some ty => decode cc pc = .ok (.ireturn, 1) ∧ ∃ r, st = [.int r] ∧ v = some (.int r) ∧ narrow ty (.int r) = .int r
def zz_S (G : ZG) (l : Launch) (own : String) (cc : ByteArray) (nL d n0 mcT msT : Nat) (isI : Bool) (rt : Option FieldType) (Qf : Option Value → ZE → ZI → Prop) (w : Nat → ZL → List Value → Nat → ZE → ZI → Prop) : Prop :=
  ∃ (p : Program) (e : Env) (R : Room) (s : State) (m : MethodId) (args : Array Value) (below : List Frame) (meth : Method) (c : Code) (Q : State → Prop),
    CallFix p m c cc nL s args zz_t own ∧ (d ≤ R.frames ∧ 36 * d ≤ R.locals ∧ mcT ≤ R.cells ∧ msT ≤ R.slots) ∧ (isI = true → meth.name = "<init>") ∧ zz_K G s s.heap ∧ s.heap.size = G.2.2.1 + n0 ∧
    (∀ (pc : Nat) (H : Heap) (locs : List Loc) (ls : Array Slot) (st : List Value) (v : Option Value) (z : Nat) (E : ZE) (im : ZI), zz_ret rt cc pc st v → zz_R G H E im → n0 ≤ E.1 → E.1 ≤ n0 + mcT → z ≤ msT → va_S (zz_A G) s.heap H locs → Qf v E im →
      W p l e R s m args below meth c H locs (E.1 - n0) z Q (F0 m pc ls (st.map (zz_v G)))) ∧
    w = zz_W G p l e R s m args below meth c nL n0 mcT msT Q
/-! contracts -/
abbrev ZY : Type := MethodName × ByteArray × Nat × Option FieldType
def zz_rm (d mc ms : Nat) : Room := { frames := d, cells := mc, slots := ms, locals := 36 * d }
def zz_Pre (G : ZG) (as : List Value) (E : ZE) (im : ZI) : Array Value → State → Prop := va_Pc (as.map (zz_v G)) (fun U => zz_R G U.heap E im ∧ zz_K G U U.heap ∧ U.heap.size = G.2.2.1 + E.1)
def zz_Post (G : ZG) (mc : Nat) (E : ZE) (Qf : Option Value → ZE → ZI → Prop) : Array Value → State → Outcome → State → Prop := fun _ st o t =>
  (∃ (v : Option Value) (E' : ZE) (im' : ZI), o = .returned (v.map (zz_v G)) ∧ E'.1 = E.1 + mc ∧ zz_R G t.heap E' im' ∧ Qf v E' im') ∧ va_F (zz_A G) st t
def zz_O (G : ZG) (l : Launch) (d : Nat) (y : ZY) (as : List Value) (E : ZE) (im : ZI) (mc ms : Nat) (Qf : Option Value → ZE → ZI → Prop) : Prop :=
  Met l y.1 (.code y.1 y.2.1 y.2.2.1 y.2.2.2 :: zz_t) (zz_rm d mc ms) (zz_Pre G as E im) (zz_Post G mc E Qf) mc ms (zz_A G)
/-- the locals with which a method begins -/
def zz_el : List Value → ZL
  | [] => []
  | v :: vs => if v.category = 2 then some v :: none :: zz_el vs else some v :: zz_el vs
theorem zz_l_rep (G : ZG) : ∀ (n i : Nat), zz_l G i (List.replicate n none) = []
  | 0, _ => rfl
  | n + 1, i => by rw [List.replicate_succ, zz_l, zz_l_rep G n (i + 1)]
theorem zz_l_el (G : ZG) (n : Nat) : ∀ (vs : List Value) (i : Nat), zz_l G i (zz_el vs ++ List.replicate n none) = lv_args i (vs.map (zz_v G))
  | [], i => zz_l_rep G n i
  | v :: vs, i => by
    rw [zz_el, List.map_cons, lv_args, zz_v_cat]
    by_cases h : v.category = 2
    · rw [if_pos h, if_pos h, List.cons_append, List.cons_append, zz_l, zz_l, zz_l_el G n vs]
    · rw [if_neg h, if_neg h, List.cons_append, zz_l, zz_l_el G n vs]
theorem zz_el_len (G : ZG) : ∀ vs : List Value, (lg_sl (vs.map (zz_v G))).length = (zz_el vs).length
  | [] => rfl
  | v :: vs => by
    have ih := zz_el_len G vs
    simp only [lg_sl] at ih
    simp only [lg_sl, List.map_cons, List.flatMap_cons, List.length_append, ih, zz_el, zz_v_cat]
    by_cases h : v.category = 2
    · simp [h]; omega
    · simp [h]; omega
theorem zz_intro {G : ZG} {l : Launch} {d : Nat} {y : ZY} {as : List Value} {E : ZE} {im : ZI} {mc ms : Nat} {Qf : Option Value → ZE → ZI → Prop} {L : ZL} {isI : Bool} (hpn : plainName y.1.cls = true) (hL : zz_el as ++ List.replicate (y.2.2.1 - (zz_el as).length) none = L) (hn : (zz_el as).length ≤ y.2.2.1) (hI : isI = true → y.1.name = "<init>")
    (h : ∀ w, zz_S G l y.1.cls y.2.1 y.2.2.1 d E.1 mc ms isI y.2.2.2 (fun v E' im' => E'.1 = E.1 + mc ∧ Qf v E' im') w → w 0 L [] 0 E im) : zz_O G l d y as E im mc ms Qf := by
  refine Met.ofW (cc := y.2.1) (maxL := y.2.2.1) (ret := y.2.2.2) hpn rfl ?_
  intro p e s m args below meth c s₁ B hml hv
  obtain ⟨rfl, hR, hK, hsz⟩ := hv
  have hx := B.exec
  have hb := B.bytes
  have hr := B.returns
  have hts := atoms_spec (ws := .code y.1 y.2.1 y.2.2.1 y.2.2.2 :: zz_t) B.pre
  have hown : s.vm.findClass y.1.cls = some m.cls := findClass_of_methodNamed B.named
  have hlocks := B.notSynchronized
  have hin : meth.name = y.1.name := (name_of_methodNamed B.named B.method).1
  have hent := lv_entry (as.map (zz_v G)) (n := y.2.2.1) (by rw [zz_el_len]; exact hn)
  rw [lg_entry_eq]
  generalize (lg_sl (as.map (zz_v G)) ++ List.replicate (y.2.2.1 - (lg_sl (as.map (zz_v G))).length) Slot.unset).toArray = ls at hent ⊢
  have hS : va_S (zz_A G) s.heap s.heap [] := va_S.rf
  have key := h _ ⟨p, e, (zz_rm d mc ms), s, m, (as.map (zz_v G)).toArray, below, meth, c, MQ below (zz_Post G mc E Qf) (as.map (zz_v G)).toArray s mc ms (zz_A G), ⟨hx, hb, hml, hown, fun w hw => hts w (List.mem_cons_of_mem _ hw)⟩, ⟨Nat.le_refl _, Nat.le_refl _, Nat.le_refl _, Nat.le_refl _⟩, fun q => hin.trans (hI q), hK, hsz, ?_, rfl⟩ s.heap [] ls hR (Nat.le_refl _) (Nat.le_add_right _ _) (Nat.zero_le _) hS ⟨?_, ?_⟩
  · rw [Nat.sub_self] at key
    exact key
  · intro pc H locs ls st v z E' im' hret hR' h1 h2 h3 hS' hQ
    refine W.widen (k := mc) (n := ms) (by omega) h3 ?_
    have hq : ∀ t : State, t.heap = H → s.WarmedH t.vm → zz_Post G mc E Qf (as.map (zz_v G)).toArray s (.returned (v.map (zz_v G))) t := fun t ht hW => ⟨⟨v, E', im', rfl, hQ.1, by rw [ht]; exact hR', hQ.2⟩, hS'.F ht⟩
    generalize hrt : y.2.2.2 = rt at hr hret
    unfold zz_ret at hret
    split at hret
    · obtain ⟨hd, rfl, rfl⟩ := hret
      exact W.vret hx hb hr hq hS'.2.2 hd
    · obtain ⟨hd, r, rfl, rfl⟩ := hret
      exact W.lret hx hb hr hq hS'.2.2 hd
    · obtain ⟨hd, k, rfl, rfl⟩ := hret
      exact W.aret hx hb hr (Or.inl ⟨_, rfl⟩) (Or.inr ⟨_, rfl⟩) hq hS'.2.2 hd
    · obtain ⟨hd, r, rfl, rfl, hnr⟩ := hret
      exact W.zret hx hb hr hnr hq hS'.2.2 hd
  · rw [← hL, zz_l_el]
    exact hent
  · rw [← hL, List.length_append, List.length_replicate]
    omega
