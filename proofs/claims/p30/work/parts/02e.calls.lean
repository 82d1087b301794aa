/-! ROWS: calls -/
section ZCALL
variable {p : Program} {l : Launch} {e : Env} {R : Room} {s : State} {m : MethodId} {args : Array Value} {below : List Frame} {meth : Method} {c : Code} {H : Heap} {locs : List Loc} {cells slots : Nat} {Q : State → Prop}
variable {pc : Nat} {ls : Array Slot} {rest st0 : List Value} {G : ZG} {E : ZE} {mc ms : Nat} {Qg : Option Value → ZE → ZI → Prop} {a : Array Value}
theorem zz_callK (hr : va_Run p l e R s m args below meth c H locs cells slots mc ms (F0 m pc ls st0) rest (zz_Post G mc E Qg a) (zz_A G)) (hS : va_S (zz_A G) s.heap H locs)
    (kk : ∀ (v : Option Value) (E' : ZE) (im' : ZI) (H1 : Heap) (locs1 : List Loc), E'.1 = E.1 + mc → Qg v E' im' → zz_R G H1 E' im' → va_S (zz_A G) s.heap H1 locs1 → W p l e R s m args below meth c H1 locs1 (cells + mc) (slots + ms) Q (F0 m (pc + 3) ls ((v.map (zz_v G)).toList ++ rest))) :
    W p l e R s m args below meth c H locs cells slots Q (F0 m pc ls st0) := by
  intro T hT X
  obtain ⟨v, st₀, t, T', L, h0, X', hL, e1, e2, ⟨⟨u, E', im', hv, hE', hR', hq⟩, hz, hk⟩, st⟩ := hr T hT X
  cases hv
  rw [h0] at hz hk
  obtain ⟨t2, a1, b1⟩ := kk u E' im' T'.heap (locs ++ L) hE' hq (by rw [e1]; exact hR')
    ⟨Nat.le_trans hS.1 (by rw [e1]; exact hz), fun q h1 h2 => by rw [e1, hk q (Nat.lt_of_lt_of_le h1 hS.1) h2]; exact hS.2.1 q h1 h2, fun q hq => by
      rcases List.mem_append.mp hq with h | h
      · exact hS.2.2 q h
      · exact hL q h⟩ T' rfl X'
  exact ⟨t2, st t2 a1, b1⟩
end ZCALL
/-- what the tables say of a method -/
def zz_Y (y : ZY) (n : Nat) : Prop := Cond.initialized y.1.cls ∈ zz_t ∧ Cond.code y.1 y.2.1 y.2.2.1 y.2.2.2 ∈ zz_t ∧ (y.1.cls ≠ "java/lang/invoke/MethodHandle" ∧ y.1.cls ≠ "java/lang/invoke/VarHandle" ∧ (parseMethodDescriptor y.1.desc).map (fun d => d.parameters.length) = some n) ∧ y.2.2.1 ≤ 17
def zz_YV (y : ZY) (n : Nat) : Prop := zz_Y y n ∧ Cond.instanceMethod y.1 ∈ zz_t ∧ Cond.selects y.1.cls y.1 y.1 ∈ zz_t
def zz_YS (y : ZY) (n : Nat) : Prop := zz_Y y n ∧ Cond.static y.1 ∈ zz_t
def zz_YI (y : ZY) (n : Nat) : Prop := zz_Y y n ∧ Cond.instanceMethod y.1 ∈ zz_t ∧ y.1.name = "<init>" ∧ y.2.2.2 = none
theorem zz_blind {G : ZG} {as : List Value} {E : ZE} {im : ZI} : FrameBlind (zz_Pre G as E im) := fun _ _ _ _ h => ⟨h.1, h.2.1, zz_K.call h.2.2.1, h.2.2.2⟩
theorem zz_rev {G : ZG} {as rest st : List Value} {v : Value} (h : as.reverse ++ v :: rest = st) : st.map (zz_v G) = (as.map (zz_v G)).reverse ++ zz_v G v :: rest.map (zz_v G) := by
  rw [← h, List.map_append, List.map_cons, List.map_reverse]
theorem zz_revS {G : ZG} {as rest st : List Value} (h : as.reverse ++ rest = st) : st.map (zz_v G) = (as.map (zz_v G)).reverse ++ rest.map (zz_v G) := by
  rw [← h, List.map_append, List.map_reverse]
theorem zz_tl {G : ZG} {rest : List Value} (v : Option Value) : (v.map (zz_v G)).toList ++ rest.map (zz_v G) = (v.toList ++ rest).map (zz_v G) := by
  cases v <;> rfl
section ZC
variable {G : ZG} {l : Launch} {own : String} {cc : ByteArray} {nL d n0 mcT msT : Nat} {isI : Bool} {rt : Option FieldType} {Qf : Option Value → ZE → ZI → Prop} {w : Nat → ZL → List Value → Nat → ZE → ZI → Prop}
variable {pc q t : Nat} {L L' : ZL} {st rest as : List Value} {z : Nat} {E : ZE} {im : ZI} {idx d2 mc ms : Nat} {y : ZY} {Qg : Option Value → ZE → ZI → Prop}
theorem zz_virt {ci k : Nat} (S : zz_S G l own cc nL d n0 mcT msT isI rt Qf w) (hy : zz_YV y as.length) (hlk : Cond.methodLink own idx y.1 ∈ zz_t) (hci : ci < 8) (hcn : zz_cn ci = y.1.cls) (hO : zz_O G l d2 y (.ref k :: as) E im mc ms Qg) (hdd : d2 + 1 ≤ d) (hk : k < E.1) (hkd : E.2.1 k = (0, ci))
    (hm : E.1 ≤ n0 + mcT → E.1 + mc ≤ n0 + mcT) (hz : z ≤ msT → z + ms ≤ msT) (hrs : (rest.map fun v => v.category).sum ≤ 8) (hst : as.reverse ++ .ref k :: rest = st) (hd : decode cc pc = .ok (.invokevirtual idx, 3)) (hq : pc + 3 = q)
    (kk : ∀ (v : Option Value) (E' : ZE) (im' : ZI), E'.1 = E.1 + mc → Qg v E' im' → w q L (v.toList ++ rest) (z + ms) E' im') : w pc L st z E im := by
  subst hq
  obtain ⟨p, e, R, s, m, args, below, meth, c0, Q, hfix, hR, hI, hK, hsz, hret, rfl⟩ := S
  intro H locs ls h1 h2 h3 h4 h5 h6
  have hfix' := hfix
  obtain ⟨hx, hb, hml, hown, hts⟩ := hfix
  obtain ⟨⟨y1, y2, y3, y4⟩, y5, y6⟩ := hy
  refine zz_Wsz (fun hs1 => ?_)
  have hs2 := zz_top h1 h2 h5 hsz
  have hn : n0 ≤ E.1 := h2
  rw [zz_rev hst]
  refine zz_callK (va_runV (ws := .code y.1 y.2.1 y.2.2.1 y.2.2.2 :: zz_t) (rm := zz_rm d2 mc ms) (bytes := y.2.1) (maxL := y.2.2.1) (ret := y.2.2.2) (n := as.length) (C := y.1.cls) (index := idx) (b := zz_b G k) (As := as.map (zz_v G)) (rest := rest.map (zz_v G)) hfix' hO
    ⟨callB_of as.length hts (zz_goodIn y2) rfl rfl rfl (hts _ y1) (hts _ hlk) y3 ⟨by show d2 + 1 ≤ R.frames; omega, by show 8 + (y.2.2.1 + 11) + 36 * d2 ≤ R.locals; omega⟩, hts _ y5, hts _ y6⟩
    ⟨zz_blind, ?_, fun U hU hW => ⟨rfl, by rw [hU]; exact h1, zz_K.warm hK h5 hU hW, by rw [hU]; omega⟩⟩
    rfl (by rw [List.length_map]) h6.1.1 rfl (lv_room (by rw [zz_sum]; exact hrs)) hd ⟨by have := hm h3; omega, by have := hz h4; omega⟩) h5 (fun v E' im' H1 locs1 g1 g2 g3 g4 => ?_)
  · have hv := va_recv hK.1.1 h1.2 (zz_cls hci).1 (zz_w_obj hk hkd)
    obtain ⟨cell, v1, v2, v3⟩ := hv
    exact ⟨cell, v1, v2, by rw [← hcn]; exact v3⟩
  · have key := kk v E' im' g1 g2 H1 locs1 ls g3 (by omega) (by have := hm h3; omega) (hz h4) g4 h6
    rw [zz_tl, show E.1 - n0 + mc = E'.1 - n0 by omega]
    exact key
theorem zz_stat (S : zz_S G l own cc nL d n0 mcT msT isI rt Qf w) (hy : zz_YS y as.length) (hlk : Cond.methodLink own idx y.1 ∈ zz_t) (hO : zz_O G l d2 y as E im mc ms Qg) (hdd : d2 + 1 ≤ d)
    (hm : E.1 ≤ n0 + mcT → E.1 + mc ≤ n0 + mcT) (hz : z ≤ msT → z + ms ≤ msT) (hrs : (rest.map fun v => v.category).sum ≤ 8) (hst : as.reverse ++ rest = st) (hd : decode cc pc = .ok (.invokestatic idx, 3)) (hq : pc + 3 = q)
    (kk : ∀ (v : Option Value) (E' : ZE) (im' : ZI), E'.1 = E.1 + mc → Qg v E' im' → w q L (v.toList ++ rest) (z + ms) E' im') : w pc L st z E im := by
  subst hq
  obtain ⟨p, e, R, s, m, args, below, meth, c0, Q, hfix, hR, hI, hK, hsz, hret, rfl⟩ := S
  intro H locs ls h1 h2 h3 h4 h5 h6
  have hfix' := hfix
  obtain ⟨hx, hb, hml, hown, hts⟩ := hfix
  obtain ⟨⟨y1, y2, y3, y4⟩, y5⟩ := hy
  refine zz_Wsz (fun hs1 => ?_)
  have hs2 := zz_top h1 h2 h5 hsz
  have hn : n0 ≤ E.1 := h2
  rw [zz_revS hst]
  refine zz_callK (va_runS (ws := .code y.1 y.2.1 y.2.2.1 y.2.2.2 :: zz_t) (rm := zz_rm d2 mc ms) (bytes := y.2.1) (maxL := y.2.2.1) (ret := y.2.2.2) (n := as.length) (index := idx) (As := as.map (zz_v G)) (rest := rest.map (zz_v G)) hfix' hO
    ⟨callB_of as.length hts (zz_goodIn y2) rfl rfl rfl (hts _ y1) (hts _ hlk) y3 ⟨by show d2 + 1 ≤ R.frames; omega, by show 8 + (y.2.2.1 + 11) + 36 * d2 ≤ R.locals; omega⟩, hts _ y5⟩
    ⟨zz_blind, fun U hU hW => ⟨rfl, by rw [hU]; exact h1, zz_K.warm hK h5 hU hW, by rw [hU]; omega⟩⟩
    rfl (by rw [List.length_map]) h6.1.1 rfl (lv_room (by rw [zz_sum]; exact hrs)) hd ⟨by have := hm h3; omega, by have := hz h4; omega⟩) h5 (fun v E' im' H1 locs1 g1 g2 g3 g4 => ?_)
  have key := kk v E' im' g1 g2 H1 locs1 ls g3 (by omega) (by have := hm h3; omega) (hz h4) g4 h6
  rw [zz_tl, show E.1 - n0 + mc = E'.1 - n0 by omega]
  exact key
/-- a static method of a nest mate -/
theorem zz_statN {host : String} (S : zz_S G l own cc nL d n0 mcT msT isI rt Qf w) (hy : zz_YS y as.length) (hlk : Cond.methodLinkNest own idx y.1 host ∈ zz_nw) (hO : zz_O G l d2 y as E im mc ms Qg) (hdd : d2 + 1 ≤ d)
    (hm : E.1 ≤ n0 + mcT → E.1 + mc ≤ n0 + mcT) (hz : z ≤ msT → z + ms ≤ msT) (hrs : (rest.map fun v => v.category).sum ≤ 8) (hst : as.reverse ++ rest = st) (hd : decode cc pc = .ok (.invokestatic idx, 3)) (hq : pc + 3 = q)
    (kk : ∀ (v : Option Value) (E' : ZE) (im' : ZI), E'.1 = E.1 + mc → Qg v E' im' → w q L (v.toList ++ rest) (z + ms) E' im') : w pc L st z E im := by
  subst hq
  obtain ⟨p, e, R, s, m, args, below, meth, c0, Q, hfix, hR, hI, hK, hsz, hret, rfl⟩ := S
  intro H locs ls h1 h2 h3 h4 h5 h6
  have hfix' := hfix
  obtain ⟨hx, hb, hml, hown, hts⟩ := hfix
  obtain ⟨⟨y1, y2, y3, y4⟩, y5⟩ := hy
  refine zz_Wsz (fun hs1 => ?_)
  have hs2 := zz_top h1 h2 h5 hsz
  have hn : n0 ≤ E.1 := h2
  rw [zz_revS hst]
  refine zz_callK (va_runSN (ws := .code y.1 y.2.1 y.2.2.1 y.2.2.2 :: zz_t) (rm := zz_rm d2 mc ms) (bytes := y.2.1) (maxL := y.2.2.1) (ret := y.2.2.2) (n := as.length) (index := idx) (host := host) (As := as.map (zz_v G)) (rest := rest.map (zz_v G)) hfix' hO
    ⟨va_cnB as.length hts (zz_goodIn y2) rfl rfl rfl (hK.1.2.1 _ hlk) (hts _ y1) y3 ⟨by show d2 + 1 ≤ R.frames; omega, by show 8 + (y.2.2.1 + 11) + 36 * d2 ≤ R.locals; omega⟩, hts _ y5, trivial⟩
    ⟨zz_blind, fun U hU hW => ⟨rfl, by rw [hU]; exact h1, zz_K.warm hK h5 hU hW, by rw [hU]; omega⟩⟩
    rfl (by rw [List.length_map]) h6.1.1 rfl (lv_room (by rw [zz_sum]; exact hrs)) hd ⟨by have := hm h3; omega, by have := hz h4; omega⟩) h5 (fun v E' im' H1 locs1 g1 g2 g3 g4 => ?_)
  have key := kk v E' im' g1 g2 H1 locs1 ls g3 (by omega) (by have := hm h3; omega) (hz h4) g4 h6
  rw [zz_tl, show E.1 - n0 + mc = E'.1 - n0 by omega]
  exact key
/-- a constructor -/
theorem zz_init {k : Nat} (S : zz_S G l own cc nL d n0 mcT msT isI rt Qf w) (hy : zz_YI y as.length) (hlk : Cond.methodLink own idx y.1 ∈ zz_t) (hO : zz_O G l d2 y (.ref k :: as) E im mc ms Qg) (hdd : d2 + 1 ≤ d)
    (hm : E.1 ≤ n0 + mcT → E.1 + mc ≤ n0 + mcT) (hz : z ≤ msT → z + ms ≤ msT) (hrs : (rest.map fun v => v.category).sum ≤ 8) (hst : as.reverse ++ .ref k :: rest = st) (hd : decode cc pc = .ok (.invokespecial idx, 3)) (hq : pc + 3 = q)
    (kk : ∀ (v : Option Value) (E' : ZE) (im' : ZI), E'.1 = E.1 + mc → Qg v E' im' → w q L (v.toList ++ rest) (z + ms) E' im') : w pc L st z E im := by
  subst hq
  obtain ⟨p, e, R, s, m, args, below, meth, c0, Q, hfix, hR, hI, hK, hsz, hret, rfl⟩ := S
  intro H locs ls h1 h2 h3 h4 h5 h6
  have hfix' := hfix
  obtain ⟨hx, hb, hml, hown, hts⟩ := hfix
  obtain ⟨⟨y1, y2, y3, y4⟩, y5, y6, y7⟩ := hy
  refine zz_Wsz (fun hs1 => ?_)
  have hs2 := zz_top h1 h2 h5 hsz
  have hn : n0 ≤ E.1 := h2
  rw [zz_rev hst]
  rw [y7] at y2
  refine zz_callK (va_runI (ws := .code y.1 y.2.1 y.2.2.1 y.2.2.2 :: zz_t) (rm := zz_rm d2 mc ms) (bytes := y.2.1) (maxL := y.2.2.1) (n := as.length) (index := idx) (b := zz_b G k) (As := as.map (zz_v G)) (rest := rest.map (zz_v G)) hfix' hO
    ⟨callB_of (ws' := zz_t) as.length hts (by rw [y7]; exact zz_goodIn y2) (by rw [y7]) rfl rfl (hts _ y1) (hts _ hlk) y3 ⟨by show d2 + 1 ≤ R.frames; omega, by show 8 + (y.2.2.1 + 11) + 36 * d2 ≤ R.locals; omega⟩, y6, hts _ y5⟩
    ⟨zz_blind, fun U hU hW => ⟨rfl, by rw [hU]; exact h1, zz_K.warm hK h5 hU hW, by rw [hU]; omega⟩⟩
    rfl (by rw [List.length_map]) h6.1.1 rfl (lv_room (by rw [zz_sum]; exact hrs)) hd ⟨by have := hm h3; omega, by have := hz h4; omega⟩) h5 (fun v E' im' H1 locs1 g1 g2 g3 g4 => ?_)
  have key := kk v E' im' g1 g2 H1 locs1 ls g3 (by omega) (by have := hm h3; omega) (hz h4) g4 h6
  rw [zz_tl, show E.1 - n0 + mc = E'.1 - n0 by omega]
  exact key
theorem zz_initN {k : Nat} {host : String} (S : zz_S G l own cc nL d n0 mcT msT isI rt Qf w) (hy : zz_YI y as.length) (hlk : Cond.methodLinkNest own idx y.1 host ∈ zz_nw) (hO : zz_O G l d2 y (.ref k :: as) E im mc ms Qg) (hdd : d2 + 1 ≤ d)
    (hm : E.1 ≤ n0 + mcT → E.1 + mc ≤ n0 + mcT) (hz : z ≤ msT → z + ms ≤ msT) (hrs : (rest.map fun v => v.category).sum ≤ 8) (hst : as.reverse ++ .ref k :: rest = st) (hd : decode cc pc = .ok (.invokespecial idx, 3)) (hq : pc + 3 = q)
    (kk : ∀ (v : Option Value) (E' : ZE) (im' : ZI), E'.1 = E.1 + mc → Qg v E' im' → w q L (v.toList ++ rest) (z + ms) E' im') : w pc L st z E im := by
  subst hq
  obtain ⟨p, e, R, s, m, args, below, meth, c0, Q, hfix, hR, hI, hK, hsz, hret, rfl⟩ := S
  intro H locs ls h1 h2 h3 h4 h5 h6
  have hfix' := hfix
  obtain ⟨hx, hb, hml, hown, hts⟩ := hfix
  obtain ⟨⟨y1, y2, y3, y4⟩, y5, y6, y7⟩ := hy
  refine zz_Wsz (fun hs1 => ?_)
  have hs2 := zz_top h1 h2 h5 hsz
  have hn : n0 ≤ E.1 := h2
  rw [zz_rev hst]
  rw [y7] at y2
  refine zz_callK (va_runIN (ws := .code y.1 y.2.1 y.2.2.1 y.2.2.2 :: zz_t) (rm := zz_rm d2 mc ms) (bytes := y.2.1) (maxL := y.2.2.1) (n := as.length) (index := idx) (host := host) (b := zz_b G k) (As := as.map (zz_v G)) (rest := rest.map (zz_v G)) hfix' hO
    ⟨va_cnB (ws' := zz_t) as.length hts (by rw [y7]; exact zz_goodIn y2) (by rw [y7]) rfl rfl (hK.1.2.1 _ hlk) (hts _ y1) y3 ⟨by show d2 + 1 ≤ R.frames; omega, by show 8 + (y.2.2.1 + 11) + 36 * d2 ≤ R.locals; omega⟩, y6, hts _ y5⟩
    ⟨zz_blind, fun U hU hW => ⟨rfl, by rw [hU]; exact h1, zz_K.warm hK h5 hU hW, by rw [hU]; omega⟩⟩
    rfl (by rw [List.length_map]) h6.1.1 rfl (lv_room (by rw [zz_sum]; exact hrs)) hd ⟨by have := hm h3; omega, by have := hz h4; omega⟩) h5 (fun v E' im' H1 locs1 g1 g2 g3 g4 => ?_)
  have key := kk v E' im' g1 g2 H1 locs1 ls g3 (by omega) (by have := hm h3; omega) (hz h4) g4 h6
  rw [zz_tl, show E.1 - n0 + mc = E'.1 - n0 by omega]
  exact key
theorem zz_obj {k : Nat} (S : zz_S G l own cc nL d n0 mcT msT isI rt Qf w) (hlk : Cond.methodLink own idx objectInit ∈ zz_t) (hin : Cond.instanceMethod objectInit ∈ zz_t) (hco : Cond.code objectInit ⟨#[0xb1]⟩ 1 none ∈ zz_t) (hdd : 1 ≤ d) (hrs : (rest.map fun v => v.category).sum ≤ 8) (hd : decode cc pc = .ok (.invokespecial idx, 3)) (hq : pc + 3 = q)
    (kk : w q L rest z E im) : w pc L (.ref k :: rest) z E im := by
  subst hq
  obtain ⟨p, e, R, s, m, args, below, meth, c0, Q, ⟨hx, hb, hml, hown, hts⟩, hR, hI, hK, hsz, hret, rfl⟩ := S
  intro H locs ls h1 h2 h3 h4 h5 h6
  refine W.objInit hx hb hown (hts _ hlk) (hts _ hin) (hts _ hco) rfl (by rw [hml]; exact h6.1.1) rfl hd (by omega) ?_ (kk H locs ls h1 h2 h3 h4 h5 h6)
  have := lv_room (pc := pc) (ls := ls) (m := m) (rest := rest) (st := rest.map (zz_v G)) (by rw [zz_sum]; exact hrs)
  show 2 * 0 + _ + 12 ≤ R.locals
  have e2 : 2 * (F0 m pc ls rest).monitorRoom = 2 * 0 := rfl
  omega
theorem zz_abs {x : Int32} (S : zz_S G l own cc nL d n0 mcT msT isI rt Qf w) (hlk : Cond.methodLink own idx Lib.Math.abs.name ∈ zz_t) (h7 : Cond.static Lib.Math.abs.name ∈ zz_t ∧ Cond.initialized "java/lang/Math" ∈ zz_t ∧ Cond.code Lib.Math.abs.name Lib.Math.abs.code 1 (some .int) ∈ zz_t) (hdd : 1 ≤ d) (hrs : (rest.map fun v => v.category).sum ≤ 8) (hd : decode cc pc = .ok (.invokestatic idx, 3)) (hq : pc + 3 = q)
    (kk : w q L (.int (if 0 ≤ x then x else 0 - x) :: rest) z E im) : w pc L (.int x :: rest) z E im := by
  subst hq
  obtain ⟨p, e, R, s, m, args, below, meth, c0, Q, ⟨hx, hb, hml, hown, hts⟩, hR, hI, hK, hsz, hret, rfl⟩ := S
  intro H locs ls h1 h2 h3 h4 h5 h6
  exact va_mabs hx hb (by rw [hml]; exact h6.1.1.symm) hown (hts _ hlk) (hts _ h7.1) (hts _ h7.2.1) (hts _ h7.2.2) (by omega) (by rw [zz_sum]; omega) (by omega) (by omega) hd (kk H locs ls h1 h2 h3 h4 h5 h6)
theorem zz_min {x y : Int32} (S : zz_S G l own cc nL d n0 mcT msT isI rt Qf w) (hlk : Cond.methodLink own idx Lib.Math.min.name ∈ zz_t) (h7 : Cond.static Lib.Math.min.name ∈ zz_t ∧ Cond.initialized "java/lang/Math" ∈ zz_t ∧ Cond.code Lib.Math.min.name Lib.Math.min.code 2 (some .int) ∈ zz_t) (hdd : 1 ≤ d) (hrs : (rest.map fun v => v.category).sum ≤ 8) (hd : decode cc pc = .ok (.invokestatic idx, 3)) (hq : pc + 3 = q)
    (kk : w q L (.int (if y < x then y else x) :: rest) z E im) : w pc L (.int y :: .int x :: rest) z E im := by
  subst hq
  obtain ⟨p, e, R, s, m, args, below, meth, c0, Q, ⟨hx, hb, hml, hown, hts⟩, hR, hI, hK, hsz, hret, rfl⟩ := S
  intro H locs ls h1 h2 h3 h4 h5 h6
  exact va_mmin hx hb (by rw [hml]; exact h6.1.1.symm) hown (hts _ hlk) (hts _ h7.1) (hts _ h7.2.1) (hts _ h7.2.2) (by omega) (by rw [zz_sum]; omega) (by omega) (by omega) hd (kk H locs ls h1 h2 h3 h4 h5 h6)
/-- the memory with a part of a row of ints copied -/
def zz_cp (im : ZI) (a b : Nat) (sp dp n : Nat) : ZI := fun k => if k = b then va_cpy (im a) (im b) sp dp n else im k
theorem zz_copy {a b na nb : Nat} {sp dp n : Int32} (S : zz_S G l own cc nL d n0 mcT msT isI rt Qf w) (hlk : Cond.methodLink own idx arraycopyName ∈ zz_t) (h7 : Cond.native arraycopyName ∈ zz_t ∧ Cond.static arraycopyName ∈ zz_t ∧ Cond.initialized "java/lang/System" ∈ zz_t) (hdd : 1 ≤ d) (hrs : (rest.map fun v => v.category).sum ≤ 8)
    (hka : a < E.1) (hkb : b < E.1) (hkda : E.2.1 a = (1, na)) (hkdb : E.2.1 b = (1, nb)) (g1 : ¬ sp < 0) (g2 : ¬ dp < 0) (g3 : ¬ n < 0) (g4 : sp.toNatClampNeg + n.toNatClampNeg ≤ na) (g5 : dp.toNatClampNeg + n.toNatClampNeg ≤ nb) (hd : decode cc pc = .ok (.invokestatic idx, 3)) (hq : pc + 3 = q)
    (kk : w q L rest z E (zz_cp im a b sp.toNatClampNeg dp.toNatClampNeg n.toNatClampNeg)) : w pc L (.int n :: .int dp :: .ref b :: .int sp :: .ref a :: rest) z E im := by
  subst hq
  obtain ⟨p, e, R, s, m, args, below, meth, c0, Q, ⟨hx, hb, hml, hown, hts⟩, hR, hI, hK, hsz, hret, rfl⟩ := S
  intro H locs ls h1 h2 h3 h4 h5 h6
  have hnw : nativeFrameWords "java/lang/System" "arraycopy" 5 ≤ 7 := by decide +kernel
  refine va_copyi hx hb (by rw [hml]; exact h6.1.1.symm) hown (hts _ hlk) (hts _ h7.1) (hts _ h7.2.1) (hts _ h7.2.2) hK.1.1 h1.2 (zz_w_D h1.1) h5 a b 1 1 (zz_w_ints hka hkda (by decide) (by decide)) (zz_w_ints hkb hkdb (by decide) (by decide)) rfl rfl rfl g1 g2 g3 g4 g5 (fun _ _ => rfl) (by omega) (by rw [zz_sum]; omega) hd (fun H1 locs1 hP1 hD1 hS1 => ?_)
  have e1 := zz_w_set (G := G) (E := E) (E' := E) (im := im) (im' := zz_cp im a b sp.toNatClampNeg dp.toNatClampNeg n.toNatClampNeg) (q := b) rfl hkb (fun _ _ => rfl) (fun _ h => if_neg h) (fun _ _ => rfl)
  have e2 : zz_cp im a b sp.toNatClampNeg dp.toNatClampNeg n.toNatClampNeg b = va_cpy (im a) (im b) sp.toNatClampNeg dp.toNatClampNeg n.toNatClampNeg := if_pos rfl
  rw [hkdb, e2] at e1
  exact kk H1 locs1 ls ⟨h1.1, by rw [← e1]; exact hP1⟩ h2 h3 h4 hS1 h6
end ZC
/-! arrays read and written at a place that is a natural number -/
section ZN
variable {G : ZG} {l : Launch} {own : String} {cc : ByteArray} {nL d n0 mcT msT : Nat} {isI : Bool} {rt : Option FieldType} {Qf : Option Value → ZE → ZI → Prop} {w : Nat → ZL → List Value → Nat → ZE → ZI → Prop}
variable {pc q t : Nat} {L L' : ZL} {st rest as : List Value} {z : Nat} {E : ZE} {im : ZI}
theorem zz_vpn {i : Int32} {j n : Nat} (hij : i = nI j) (hj : j < n) (hn : n < 2 ^ 31) : vp_in i n ∧ i.toNatClampNeg = j := by
  subst hij
  exact ⟨vp_in_nI hj hn, nI_clamp (by omega)⟩
theorem zz_iaN (S : zz_S G l own cc nL d n0 mcT msT isI rt Qf w) {k n j : Nat} {i : Int32} (hk : k < E.1) (hkd : E.2.1 k = (1, n)) (hn : n < 2 ^ 31) (hij : i = nI j) (hj : j < n) (hd : decode cc pc = .ok (.iaload, 1)) (hq : pc + 1 = q) (kk : w q L (.int (im k j) :: st) z E im) : w pc L (.int i :: .ref k :: st) z E im := by
  obtain ⟨h1, h2⟩ := zz_vpn hij hj hn
  exact zz_iald S hk hkd h1 hd hq (by rw [h2]; exact kk)
theorem zz_zaN (S : zz_S G l own cc nL d n0 mcT msT isI rt Qf w) {k n j : Nat} {i : Int32} (hk : k < E.1) (hkd : E.2.1 k = (2, n)) (hn : n < 2 ^ 31) (hij : i = nI j) (hj : j < n) (hd : decode cc pc = .ok (.baload, 1)) (hq : pc + 1 = q) (kk : w q L (.int (im k j) :: st) z E im) : w pc L (.int i :: .ref k :: st) z E im := by
  obtain ⟨h1, h2⟩ := zz_vpn hij hj hn
  exact zz_zald S hk hkd h1 hd hq (by rw [h2]; exact kk)
theorem zz_caN (S : zz_S G l own cc nL d n0 mcT msT isI rt Qf w) {k n j : Nat} {i : Int32} (hk : k < E.1) (hkd : E.2.1 k = (3, n)) (hn : n < 2 ^ 31) (hij : i = nI j) (hj : j < n) (hd : decode cc pc = .ok (.caload, 1)) (hq : pc + 1 = q) (kk : w q L (.int (im k j) :: st) z E im) : w pc L (.int i :: .ref k :: st) z E im := by
  obtain ⟨h1, h2⟩ := zz_vpn hij hj hn
  exact zz_cald S hk hkd h1 hd hq (by rw [h2]; exact kk)
theorem zz_iaS (S : zz_S G l own cc nL d n0 mcT msT isI rt Qf w) {k n j : Nat} {i x : Int32} (hk : k < E.1) (hkd : E.2.1 k = (1, n)) (hn : n < 2 ^ 31) (hij : i = nI j) (hj : j < n) (hd : decode cc pc = .ok (.iastore, 1)) (hq : pc + 1 = q) (kk : w q L st z E (zz_u im k j x)) : w pc L (.int x :: .int i :: .ref k :: st) z E im := by
  obtain ⟨h1, h2⟩ := zz_vpn hij hj hn
  exact zz_iast S hk hkd h1 hd hq (by rw [h2]; exact kk)
theorem zz_zaS (S : zz_S G l own cc nL d n0 mcT msT isI rt Qf w) {k n j : Nat} {i x : Int32} (hk : k < E.1) (hkd : E.2.1 k = (2, n)) (hn : n < 2 ^ 31) (hij : i = nI j) (hj : j < n) (hd : decode cc pc = .ok (.bastore, 1)) (hq : pc + 1 = q) (kk : w q L st z E (zz_u im k j (vp_nar .boolean x))) : w pc L (.int x :: .int i :: .ref k :: st) z E im := by
  obtain ⟨h1, h2⟩ := zz_vpn hij hj hn
  exact zz_zast S hk hkd h1 hd hq (by rw [h2]; exact kk)
theorem zz_caS (S : zz_S G l own cc nL d n0 mcT msT isI rt Qf w) {k n j : Nat} {i x : Int32} (hk : k < E.1) (hkd : E.2.1 k = (3, n)) (hn : n < 2 ^ 31) (hij : i = nI j) (hj : j < n) (hd : decode cc pc = .ok (.castore, 1)) (hq : pc + 1 = q) (kk : w q L st z E (zz_u im k j (vp_nar .char x))) : w pc L (.int x :: .int i :: .ref k :: st) z E im := by
  obtain ⟨h1, h2⟩ := zz_vpn hij hj hn
  exact zz_cast S hk hkd h1 hd hq (by rw [h2]; exact kk)
theorem zz_aaN (S : zz_S G l own cc nL d n0 mcT msT isI rt Qf w) {k t0 n x j : Nat} {i : Int32} (hk : k < E.1) (hkd : E.2.1 k = (t0, n)) (ht0 : 4 ≤ t0 ∧ t0 ≤ 7) (hn : n < 2 ^ 31) (hij : i = nI j) (hj : j < n) (hx1 : E.2.2 k j = some x) (hd : decode cc pc = .ok (.aaload, 1)) (hq : pc + 1 = q) (kk : w q L (.ref x :: st) z E im) : w pc L (.int i :: .ref k :: st) z E im := by
  obtain ⟨h1, h2⟩ := zz_vpn hij hj hn
  exact zz_aald S hk hkd ht0 h1 (by rw [h2]; exact hx1) hd hq kk
theorem zz_saN (S : zz_S G l own cc nL d n0 mcT msT isI rt Qf w) {k j : Nat} {i : Int32} (hk : k < 3) (hij : i = nI j) (hj : j < (zz_st k).length) (hd : decode cc pc = .ok (.iaload, 1)) (hq : pc + 1 = q) (kk : w q L (.int ((zz_st k).getD j 0) :: st) z E im) : w pc L (.int i :: .ref (1000 + k) :: st) z E im := by
  have hn : (zz_st k).length < 2 ^ 31 := by
    rcases (show k = 0 ∨ k = 1 ∨ k = 2 ∨ k = 3 by omega) with rfl | rfl | rfl | rfl <;> decide
  obtain ⟨h1, h2⟩ := zz_vpn hij hj hn
  exact zz_sald S hk h1 hd hq (by rw [h2]; exact kk)
end ZN
