/-! ===== the pure layer: calls ===== -/
/-- what the tables say of a method: its code, that its class is initialised, how many parameters -/
def pj_ok (Y : pj_Y) (np : Nat) : Prop := Cond.code Y.1 Y.2.1 Y.2.2.1 Y.2.2.2 ∈ lw_tbl ∧ Cond.initialized Y.1.cls ∈ lw_tbl ∧ (Y.1.cls ≠ "java/lang/invoke/MethodHandle" ∧ Y.1.cls ≠ "java/lang/invoke/VarHandle") ∧ (parseMethodDescriptor Y.1.desc).map (fun d => d.parameters.length) = some np ∧ Y.2.2.1 ≤ 45
def pj_okV (Y : pj_Y) (np : Nat) : Prop := pj_ok Y np ∧ Cond.instanceMethod Y.1 ∈ lw_tbl ∧ Cond.selects Y.1.cls Y.1 Y.1 ∈ lw_tbl
def pj_okS (Y : pj_Y) (np : Nat) : Prop := pj_ok Y np ∧ Cond.static Y.1 ∈ lw_tbl
def pj_okI (Y : pj_Y) (np : Nat) : Prop := pj_ok Y np ∧ Y.1.name = "<init>" ∧ Cond.instanceMethod Y.1 ∈ lw_tbl ∧ Y.2.2.2 = none
/-- a call through the method x, declared by 'owner', of an object of the class C: Y is chosen -/
def pj_okU (own : String) (i : Nat) (C : String) (x : MethodName) (owner : String) (Y : pj_Y) (np : Nat) : Prop := pj_ok Y np ∧ Cond.methodLink own i x ∈ lw_tbl ∧ Cond.sameMethod x.cls owner x.name x.desc ∈ lw_tbl ∧ (Cond.declares ⟨owner, x.name, x.desc⟩ ∈ lw_tbl ∨ (Cond.instanceMethod ⟨owner, x.name, x.desc⟩ ∈ lw_tbl ∧ ∃ (b : ByteArray) (m : Nat) (r : Option FieldType), Cond.code ⟨owner, x.name, x.desc⟩ b m r ∈ lw_tbl)) ∧ Cond.selects C x Y.1 ∈ lw_tbl ∧ Cond.instanceMethod Y.1 ∈ lw_tbl ∧ (owner ≠ "java/lang/invoke/MethodHandle" ∧ owner ≠ "java/lang/invoke/VarHandle") ∧ (parseMethodDescriptor x.desc).map (fun d => d.parameters.length) = some np
/-- a call of the superclass's own -/
def pj_okX (own : String) (i : Nat) (Y : pj_Y) (np : Nat) : Prop := pj_ok Y np ∧ Cond.methodLink own i Y.1 ∈ lw_tbl ∧ Cond.sameMethod Y.1.cls Y.1.cls Y.1.name Y.1.desc ∈ lw_tbl ∧ Cond.superclass own Y.1.cls ∈ lw_tbl ∧ Cond.instanceMethod Y.1 ∈ lw_tbl ∧ Y.1.name ≠ "<init>"
theorem pj_np {ds : String} {np : Nat} (h : (parseMethodDescriptor ds).map (fun d => d.parameters.length) = some np) : ∀ sig, parseMethodDescriptor ds = some sig → np = sig.parameters.length := by
  intro sig hs
  rw [hs] at h
  exact (Option.some.inj h).symm
def pj_Run (E : pj_E) (B : Nat) (l : Launch) (Y : pj_Y) (d mc ms pc q : Nat) (st rest : List Value) (h : pj_H) (n mc' ms' : Nat) (P : Option Value → pj_H → Nat → Prop) : Prop :=
  ∀ (ls : List (Option Value)) (ce sl : Nat) (Q : Option Value → pj_H → Nat → Prop), ce + mc' ≤ mc → sl + ms' ≤ ms → (∀ r h' n', P r h' n' → pj_V E B l Y d mc ms q ls (r.toList ++ rest) h' n' (ce + mc') (sl + ms') Q) → pj_V E B l Y d mc ms pc ls st h n ce sl Q
theorem pj_go {p : Program} {l : Launch} {e : Env} {s : State} {m : MethodId} {args a : Array Value} {below : List Frame} {meth : Method} {c : Code} {H : Heap} {locs : List Loc} {la : Array Slot} {E : pj_E} {B : Nat} {Y : pj_Y} {d mc ms pc mc' ms' : Nat} {ls : List (Option Value)} {st rest : List Value} {ce sl : Nat} {Q P : Option Value → pj_H → Nat → Prop}
    (hrun : va_Run p l e (pj_rm d mc ms) s m args below meth c H locs ce sl mc' ms' (F0 m pc la st) rest (pj_Qc E B P a) (fun q => B ≤ q))
    (S : CallFix p m c Y.2.1 Y.2.2.1 s args lw_tbl Y.1.cls) (hr : meth.sig.returnType = Y.2.2.2) (hk : meth.locks = false) (hn : meth.name = Y.1.name) (hW : pj_WF E s) (hS : va_S (fun q => B ≤ q) s.heap H locs) (hL : pj_L la Y.2.2.1 ls)
    (kk : ∀ r h' n', P r h' n' → pj_V E B l Y d mc ms (pc + 3) ls (r.toList ++ rest) h' n' (ce + mc') (sl + ms') Q) : W p l e (pj_rm d mc ms) s m args below meth c H locs ce sl (MQ below (pj_Qc E B Q) args s mc ms (fun q => B ≤ q)) (F0 m pc la st) := by
  intro T hT X
  obtain ⟨v, st₀, t, T', L, h0, X', hLc, e1, e2, ⟨⟨r, h', n', hv, hP, hH'⟩, hz, hkp⟩, stp⟩ := hrun T hT X
  cases hv
  rw [h0] at hz hkp
  obtain ⟨t2, a1, b1⟩ := kk v h' n' hP p e s m args below meth c T'.heap (locs ++ L) la S hr hk hn hW (by rw [e1]; exact hH')
    ⟨Nat.le_trans hS.1 (by rw [e1]; exact hz), fun q h1 h2 => by rw [e1, hkp q (Nat.lt_of_lt_of_le h1 hS.1) h2]; exact hS.2.1 q h1 h2, fun q hq => by
      rcases List.mem_append.mp hq with h | h
      · exact hS.2.2 q h
      · exact hLc q h⟩ hL T' rfl X'
  exact ⟨t2, stp t2 a1, b1⟩
section PJK
variable {E : pj_E} {B : Nat} {l : Launch} {Y Y' : pj_Y} {d mc ms pc q : Nat} {st rest As : List Value} {h : pj_H} {n d' mc' ms' np : Nat} {P : Option Value → pj_H → Nat → Prop}
theorem pj_cb {s : State} {args : Array Value} (hts : ∀ w ∈ lw_tbl, w.before args s = true) (ho : pj_ok Y' np) (hdd : d' < d) : ((pj_rm d' mc' ms').cells = mc' ∧ (pj_rm d' mc' ms').slots = ms' ∧ (pj_rm d' mc' ms').frames + 1 ≤ (pj_rm d mc ms).frames ∧ 8 + (Y'.2.2.1 + 11) + (pj_rm d' mc' ms').locals ≤ (pj_rm d mc ms).locals ∧ (∀ w ∈ (Cond.code Y'.1 Y'.2.1 Y'.2.2.1 Y'.2.2.2 :: lw_tbl), ∀ (a' : Array Value) (U : State), s.WarmedH U.vm → w.before a' U = true) ∧ Cond.code Y'.1 Y'.2.1 Y'.2.2.1 Y'.2.2.2 ∈ (Cond.code Y'.1 Y'.2.1 Y'.2.2.1 Y'.2.2.2 :: lw_tbl)) := by
  refine ⟨rfl, rfl, by show d' + 1 ≤ d; omega, ?_, pj_words hts ho.1, List.mem_cons_self⟩
  show 8 + (Y'.2.2.1 + 11) + 64 * d' ≤ 64 * d
  have := ho.2.2.2.2
  omega
theorem pj_rV {i b ci : Nat} {fs : List Value} {r : vw_C} (hC : pj_Ct E B l Y' d' mc' ms' (.ref b :: As) h n P) (hd : decode Y.2.1 pc = .ok (.invokevirtual i, 3)) (hq : pc + 3 = q) (hl : Cond.methodLink Y.1.cls i Y'.1 ∈ lw_tbl) (ho : pj_okV Y' np) (hb : h b = some (.inr (ci, fs))) (hc : vwCl[ci]? = some r) (hrc : r.1 = Y'.1.cls) (hst : st = As.reverse ++ .ref b :: rest) (hn : As.length = np) (hw : (rest.map fun v => v.category).sum ≤ 8) (hdd : d' < d) : pj_Run E B l Y d mc ms pc q st rest h n mc' ms' P := by
  subst hq
  intro ls ce sl Q hce hsl kk p e s m args below meth c H locs la S hr hk hnm hW hH hS hL
  obtain ⟨o1, o2, o3⟩ := ho
  obtain ⟨g1, g2, g3, g4, g5, g6⟩ := pj_cb (mc := mc) (ms := ms) (mc' := mc') (ms' := ms') S.2.2.2.2 o1 hdd
  refine pj_go (va_runV (C := r.1) (b := b) (As := As) (rest := rest) S hC ⟨⟨g1, g2, g3, g4, g5, g6, S.2.2.2.2 _ o1.1, S.2.2.2.2 _ o1.2.1, o1.2.2.1, pj_np o1.2.2.2.1, S.2.2.2.2 _ hl⟩, S.2.2.2.2 _ o2, by rw [hrc]; exact S.2.2.2.2 _ o3⟩ ⟨pj_Pc_blind E B _ h n, pj_recv (p := fun _ => True) hW hH hc hb, fun U hU hWm => ⟨rfl, hW.moved hWm.alike, by rw [hU]; exact hH⟩⟩ rfl hn hL.1.1 hst (lv_room hw) hd ⟨hce, hsl⟩) S hr hk hnm hW hS hL kk
theorem pj_rS {i : Nat} (hC : pj_Ct E B l Y' d' mc' ms' As h n P) (hd : decode Y.2.1 pc = .ok (.invokestatic i, 3)) (hq : pc + 3 = q) (hl : Cond.methodLink Y.1.cls i Y'.1 ∈ lw_tbl) (ho : pj_okS Y' np) (hst : st = As.reverse ++ rest) (hn : As.length = np) (hw : (rest.map fun v => v.category).sum ≤ 8) (hdd : d' < d) : pj_Run E B l Y d mc ms pc q st rest h n mc' ms' P := by
  subst hq
  intro ls ce sl Q hce hsl kk p e s m args below meth c H locs la S hr hk hnm hW hH hS hL
  obtain ⟨o1, o2⟩ := ho
  obtain ⟨g1, g2, g3, g4, g5, g6⟩ := pj_cb (mc := mc) (ms := ms) (mc' := mc') (ms' := ms') S.2.2.2.2 o1 hdd
  refine pj_go (va_runS (As := As) (rest := rest) S hC ⟨⟨g1, g2, g3, g4, g5, g6, S.2.2.2.2 _ o1.1, S.2.2.2.2 _ o1.2.1, o1.2.2.1, pj_np o1.2.2.2.1, S.2.2.2.2 _ hl⟩, S.2.2.2.2 _ o2⟩ ⟨pj_Pc_blind E B _ h n, fun U hU hWm => ⟨rfl, hW.moved hWm.alike, by rw [hU]; exact hH⟩⟩ rfl hn hL.1.1 hst (lv_room hw) hd ⟨hce, hsl⟩) S hr hk hnm hW hS hL kk
theorem pj_rI {i b : Nat} (hC : pj_Ct E B l Y' d' mc' ms' (.ref b :: As) h n P) (hd : decode Y.2.1 pc = .ok (.invokespecial i, 3)) (hq : pc + 3 = q) (hl : Cond.methodLink Y.1.cls i Y'.1 ∈ lw_tbl) (ho : pj_okI Y' np) (hst : st = As.reverse ++ .ref b :: rest) (hn : As.length = np) (hw : (rest.map fun v => v.category).sum ≤ 8) (hdd : d' < d) : pj_Run E B l Y d mc ms pc q st rest h n mc' ms' P := by
  subst hq
  intro ls ce sl Q hce hsl kk p e s m args below meth c H locs la S hr hk hnm hW hH hS hL
  obtain ⟨o1, o2, o3, o4⟩ := ho
  obtain ⟨g1, g2, g3, g4, g5, g6⟩ := pj_cb (mc := mc) (ms := ms) (mc' := mc') (ms' := ms') S.2.2.2.2 o1 hdd
  refine pj_go (va_runI (b := b) (As := As) (rest := rest) (bytes := Y'.2.1) (maxL := Y'.2.2.1) S hC ⟨⟨g1, g2, g3, g4, g5, by rw [← o4]; exact g6, by rw [← o4]; exact S.2.2.2.2 _ o1.1, S.2.2.2.2 _ o1.2.1, o1.2.2.1, pj_np o1.2.2.2.1, S.2.2.2.2 _ hl⟩, o2, S.2.2.2.2 _ o3⟩ ⟨pj_Pc_blind E B _ h n, fun U hU hWm => ⟨rfl, hW.moved hWm.alike, by rw [hU]; exact hH⟩⟩ rfl hn hL.1.1 hst (lv_room hw) hd ⟨hce, hsl⟩) S hr hk hnm hW hS hL kk
theorem pj_rIN {i b : Nat} {host : String} (hC : pj_Ct E B l Y' d' mc' ms' (.ref b :: As) h n P) (hd : decode Y.2.1 pc = .ok (.invokespecial i, 3)) (hq : pc + 3 = q) (hl : Cond.methodLinkNest Y.1.cls i Y'.1 host ∈ lw_tbl) (ho : pj_okI Y' np) (hst : st = As.reverse ++ .ref b :: rest) (hn : As.length = np) (hw : (rest.map fun v => v.category).sum ≤ 8) (hdd : d' < d) : pj_Run E B l Y d mc ms pc q st rest h n mc' ms' P := by
  subst hq
  intro ls ce sl Q hce hsl kk p e s m args below meth c H locs la S hr hk hnm hW hH hS hL
  obtain ⟨o1, o2, o3, o4⟩ := ho
  obtain ⟨g1, g2, g3, g4, g5, g6⟩ := pj_cb (mc := mc) (ms := ms) (mc' := mc') (ms' := ms') S.2.2.2.2 o1 hdd
  refine pj_go (va_runIN (host := host) (b := b) (As := As) (rest := rest) (bytes := Y'.2.1) (maxL := Y'.2.2.1) S hC ⟨⟨⟨g1, g2, g3, g4, g5, by rw [← o4]; exact g6⟩, by rw [← o4]; exact S.2.2.2.2 _ o1.1, S.2.2.2.2 _ o1.2.1, o1.2.2.1, pj_np o1.2.2.2.1, S.2.2.2.2 _ hl⟩, o2, S.2.2.2.2 _ o3⟩ ⟨pj_Pc_blind E B _ h n, fun U hU hWm => ⟨rfl, hW.moved hWm.alike, by rw [hU]; exact hH⟩⟩ rfl hn hL.1.1 hst (lv_room hw) hd ⟨hce, hsl⟩) S hr hk hnm hW hS hL kk
theorem pj_rU {i b ci : Nat} {fs : List Value} {r : vw_C} {x : MethodName} {owner : String} (hC : pj_Ct E B l Y' d' mc' ms' (.ref b :: As) h n P) (hd : decode Y.2.1 pc = .ok (.invokevirtual i, 3)) (hq : pc + 3 = q) (ho : pj_okU Y.1.cls i r.1 x owner Y' np) (hb : h b = some (.inr (ci, fs))) (hc : vwCl[ci]? = some r) (hst : st = As.reverse ++ .ref b :: rest) (hn : As.length = np) (hw : (rest.map fun v => v.category).sum ≤ 8) (hdd : d' < d) : pj_Run E B l Y d mc ms pc q st rest h n mc' ms' P := by
  subst hq
  intro ls ce sl Q hce hsl kk p e s m args below meth c H locs la S hr hk hnm hW hH hS hL
  obtain ⟨o1, o2, o3, o4, o5, o6, o7, o8⟩ := ho
  have hdecl : va_Decl s ⟨owner, x.name, x.desc⟩ := by
    rcases o4 with o4 | ⟨o4, b0, m0, r0, o9⟩
    · exact va_Decl.abs (va_Nw.of rfl (S.2.2.2.2 _ o4))
    · exact va_Decl.of (S.2.2.2.2 _ o4) (S.2.2.2.2 _ o9)
  refine pj_go (va_runU (C := r.1) (b := b) (As := As) (rest := rest) S hC ⟨pj_cb (mc := mc) (ms := ms) (mc' := mc') (ms' := ms') S.2.2.2.2 o1 hdd, S.2.2.2.2 _ o1.1, S.2.2.2.2 _ o1.2.1, o7, pj_np o8, S.2.2.2.2 _ o2, S.2.2.2.2 _ o3, hdecl, S.2.2.2.2 _ o5, S.2.2.2.2 _ o6⟩ ⟨pj_Pc_blind E B _ h n, pj_recv (p := fun _ => True) hW hH hc hb, fun U hU hWm => ⟨rfl, hW.moved hWm.alike, by rw [hU]; exact hH⟩⟩ rfl hn hL.1.1 hst (lv_room hw) hd ⟨hce, hsl⟩) S hr hk hnm hW hS hL kk
theorem pj_rX {i b ci : Nat} {fs : List Value} {r : vw_C} (hC : pj_Ct E B l Y' d' mc' ms' (.ref b :: As) h n P) (hd : decode Y.2.1 pc = .ok (.invokespecial i, 3)) (hq : pc + 3 = q) (ho : pj_okX Y.1.cls i Y' np) (hb : h b = some (.inr (ci, fs))) (hc : vwCl[ci]? = some r) (hst : st = As.reverse ++ .ref b :: rest) (hn : As.length = np) (hw : (rest.map fun v => v.category).sum ≤ 8) (hdd : d' < d) : pj_Run E B l Y d mc ms pc q st rest h n mc' ms' P := by
  subst hq
  intro ls ce sl Q hce hsl kk p e s m args below meth c H locs la S hr hk hnm hW hH hS hL
  obtain ⟨o1, o2, o3, o4, o5, o6⟩ := ho
  refine pj_go (va_runSU (C := r.1) (cC := E.1.1 ci) (b := b) (As := As) (rest := rest) (hW.1.1 ci r hc).2 S hC ⟨pj_cb (mc := mc) (ms := ms) (mc' := mc') (ms' := ms') S.2.2.2.2 o1 hdd, S.2.2.2.2 _ o2, S.2.2.2.2 _ o3, S.2.2.2.2 _ o4, S.2.2.2.2 _ o5, S.2.2.2.2 _ o1.2.1, S.2.2.2.2 _ o1.1, o6, pj_np o1.2.2.2.1⟩ ⟨pj_Pc_blind E B _ h n, pj_recv (p := fun _ => True) hW hH hc hb, fun U hU hWm => ⟨rfl, hW.moved hWm.alike, by rw [hU]; exact hH⟩⟩ rfl hn hL.1.1 hst (lv_room hw) hd ⟨hce, hsl⟩) S hr hk hnm hW hS hL kk
/-- an answer, and nothing changes -/
def pj_is (v : Option Value) (h : pj_H) (n : Nat) : Option Value → pj_H → Nat → Prop := fun r h' n' => r = v ∧ h' = h ∧ n' = n
variable {ls : List (Option Value)} {ce sl : Nat} {Q : Option Value → pj_H → Nat → Prop}
theorem pj_cp {v : Value} (hr : pj_Run E B l Y d mc ms pc q st rest h n 0 0 (pj_is (some v) h n)) (hce : ce ≤ mc) (hsl : sl ≤ ms) (kk : pj_V E B l Y d mc ms q ls (v :: rest) h n ce sl Q) : pj_V E B l Y d mc ms pc ls st h n ce sl Q := hr ls ce sl Q hce hsl (fun r h' n' hp => by
  obtain ⟨rfl, rfl, rfl⟩ := hp
  exact kk)
theorem pj_cv (hr : pj_Run E B l Y d mc ms pc q st rest h n mc' ms' P) (hce : ce + mc' ≤ mc) (hsl : sl + ms' ≤ ms) (kk : ∀ r h' n', P r h' n' → pj_V E B l Y d mc ms q ls (r.toList ++ rest) h' n' (ce + mc') (sl + ms') Q) : pj_V E B l Y d mc ms pc ls st h n ce sl Q := hr ls ce sl Q hce hsl kk
/-- Object's constructor -/
theorem pj_objinit {i a : Nat} (hd : decode Y.2.1 pc = .ok (.invokespecial i, 3)) (hq : pc + 3 = q) (hl : Cond.methodLink Y.1.cls i objectInit ∈ lw_tbl) (h1 : Cond.instanceMethod objectInit ∈ lw_tbl) (h2 : Cond.code objectInit ⟨#[0xb1]⟩ 1 none ∈ lw_tbl) (hdd : 0 < d) (hw : (rest.map fun v => v.category).sum ≤ 8) (kk : pj_V E B l Y d mc ms q ls rest h n ce sl Q) : pj_V E B l Y d mc ms pc ls (.ref a :: rest) h n ce sl Q := by
  subst hq
  intro p e s m args below meth c H locs la S hr hk hnm hW hH hS hL
  have := lv_room (m := m) (pc := pc) (ls := la) (rest := .ref a :: rest) hw
  exact W.objInit S.1 S.2.1 S.2.2.2.1 (S.2.2.2.2 _ hl) (S.2.2.2.2 _ h1) (S.2.2.2.2 _ h2) rfl (hL.1.1.trans S.2.2.1.symm) rfl hd (by show 1 ≤ d; omega) (by show _ ≤ 64 * d; omega) (kk p e s m args below meth c H locs la S hr hk hnm hW hH hS hL)
end PJK
