/-! ===== the pure layer: a heap is a function from addresses to cells; V: from this point the method ends with Q; Ct: a method's contract ===== -/
abbrev pj_C : Type := (Nat × vp_A) ⊕ (Nat × List Value)
abbrev pj_H : Type := Nat → Option pj_C
abbrev pj_E : Type := va_G × (Nat → ClassId)
abbrev pj_Y : Type := MethodName × ByteArray × Nat × Option FieldType
def pj_e (E : pj_E) (c : pj_C) : va_E := match c with
  | .inl q => .inl (E.2 q.1, q.2)
  | .inr x => .inr x
def pj_tys (E : pj_E) : List (ClassId × FieldType) := [(E.2 0, .int), (E.2 1, .boolean), (E.2 2, .object "GreyDays$Thing"), (E.2 3, .object "GreyDays$Town"), (E.2 4, .array .int)]
def pj_ncs : List (String × String) := [("GreyDays$Twin", "GreyDays$Ink"), ("GreyDays$Shining", "GreyDays$Ink"), ("GreyDays$Dyed", "GreyDays$Ink"), ("GreyDays$Ink", "GreyDays$Dyed"), ("GreyDays$Faded", "GreyDays$Dyed"), ("GreyDays$Shining", "GreyDays$Twin"), ("GreyDays$Ink", "GreyDays$Twin"), ("GreyDays$Faded", "GreyDays$Twin"), ("GreyDays$Dyed", "GreyDays$Twin"), ("GreyDays$Twin", "GreyDays$Shining"), ("GreyDays$Ink", "GreyDays$Shining"), ("GreyDays$Faded", "GreyDays$Shining"), ("GreyDays$Dyed", "GreyDays$Shining"), ("GreyDays$Twin", "GreyDays$Faded"), ("GreyDays$Shining", "GreyDays$Faded"), ("GreyDays$Ink", "GreyDays$Faded"), ("GreyDays$Dyed", "GreyDays$Faded")]
def pj_WF (E : pj_E) (U : State) : Prop := va_K E.1 vwCl (pj_tys E) U ∧ ∀ q ∈ pj_ncs, va_Nc q.1 q.2 U
def pj_HR (E : pj_E) (B : Nat) (h : pj_H) (n : Nat) (H : Heap) : Prop := H.size = n ∧ ∀ (a : Nat) (c : pj_C), h a = some c → B ≤ a ∧ va_at E.1 vwCl (a, pj_e E c) H
def pj_up (h : pj_H) (a : Nat) (c : pj_C) : pj_H := fun q => if q = a then some c else h q
theorem pj_up_s {h : pj_H} {a : Nat} {c : pj_C} : pj_up h a c a = some c := if_pos rfl
theorem pj_up_n {h : pj_H} {a q : Nat} {c : pj_C} (hq : q ≠ a) : pj_up h a c q = h q := if_neg hq
def pj_rm (d mc ms : Nat) : Room := { frames := d, cells := mc, slots := ms, locals := 64 * d }
def pj_Qc (E : pj_E) (B : Nat) (Q : Option Value → pj_H → Nat → Prop) : Array Value → State → Outcome → State → Prop := fun _ st oc t =>
  (∃ (r : Option Value) (h : pj_H) (n : Nat), oc = .returned r ∧ Q r h n ∧ pj_HR E B h n t.heap) ∧ va_F (fun q => B ≤ q) st t
def pj_Pc (E : pj_E) (B : Nat) (av : List Value) (h : pj_H) (n : Nat) : Array Value → State → Prop := fun v U => v = av.toArray ∧ pj_WF E U ∧ pj_HR E B h n U.heap
def pj_Ct (E : pj_E) (B : Nat) (l : Launch) (Y : pj_Y) (d mc ms : Nat) (av : List Value) (h : pj_H) (n : Nat) (Q : Option Value → pj_H → Nat → Prop) : Prop :=
  Met l Y.1 (Cond.code Y.1 Y.2.1 Y.2.2.1 Y.2.2.2 :: lw_tbl) (pj_rm d mc ms) (pj_Pc E B av h n) (pj_Qc E B Q) mc ms (fun q => B ≤ q)
def pj_as : Nat → List (Option Value) → List (Nat × Value)
  | _, [] => []
  | i, some v :: l => (i, v) :: pj_as (i + 1) l
  | i, none :: l => pj_as (i + 1) l
theorem pj_as_mem : ∀ (l : List (Option Value)) (i j : Nat) (v : Value), (j, v) ∈ pj_as i l ↔ ∃ k, j = i + k ∧ l[k]? = some (some v)
  | [], i, j, v => by simp [pj_as]
  | some u :: l, i, j, v => by
    rw [pj_as, List.mem_cons, pj_as_mem l (i + 1) j v]
    constructor
    · rintro (h | ⟨k, h1, h2⟩)
      · cases h
        exact ⟨0, by omega, by simp⟩
      · exact ⟨k + 1, by omega, by simpa using h2⟩
    · rintro ⟨k, h1, h2⟩
      cases k with
      | zero => left; simp at h2; subst h2; simp at h1; rw [h1]
      | succ k => right; exact ⟨k, by omega, by simpa using h2⟩
  | none :: l, i, j, v => by
    rw [pj_as, pj_as_mem l (i + 1) j v]
    constructor
    · rintro ⟨k, h1, h2⟩
      exact ⟨k + 1, by omega, by simpa using h2⟩
    · rintro ⟨k, h1, h2⟩
      cases k with
      | zero => simp at h2
      | succ k => exact ⟨k, by omega, by simpa using h2⟩
def pj_L (la : Array Slot) (nL : Nat) (ls : List (Option Value)) : Prop := lv_has la nL (pj_as 0 ls) ∧ ls.length = nL
theorem pj_L.at {la : Array Slot} {nL : Nat} {ls : List (Option Value)} (h : pj_L la nL ls) {i : Nat} {v : Value} (hi : ls[i]? = some (some v)) : la[i]? = some (.val v) := h.1.2.2 (i, v) ((pj_as_mem ls 0 i v).mpr ⟨i, by omega, hi⟩)
def pj_V (E : pj_E) (B : Nat) (l : Launch) (Y : pj_Y) (d mc ms pc : Nat) (ls : List (Option Value)) (st : List Value) (h : pj_H) (n ce sl : Nat) (Q : Option Value → pj_H → Nat → Prop) : Prop :=
  ∀ (p : Program) (e : Env) (s : State) (m : MethodId) (args : Array Value) (below : List Frame) (meth : Method) (c : Code) (H : Heap) (locs : List Loc) (la : Array Slot),
    CallFix p m c Y.2.1 Y.2.2.1 s args lw_tbl Y.1.cls → meth.sig.returnType = Y.2.2.2 → meth.locks = false → meth.name = Y.1.name → pj_WF E s → pj_HR E B h n H → va_S (fun q => B ≤ q) s.heap H locs → pj_L la Y.2.2.1 ls →
    W p l e (pj_rm d mc ms) s m args below meth c H locs ce sl (MQ below (pj_Qc E B Q) args s mc ms (fun q => B ≤ q)) (F0 m pc la st)
theorem pj_WF.moved {E : pj_E} {u U : State} (hvm : u.vm.Alike U.vm) (h : pj_WF E u) : pj_WF E U := ⟨h.1.moved hvm, fun q hq => (h.2 q hq).moved hvm⟩
theorem pj_Pc_blind (E : pj_E) (B : Nat) (av : List Value) (h : pj_H) (n : Nat) : FrameBlind (pj_Pc E B av h n) := by
  intro a U g mk q
  obtain ⟨q0, q1, q2⟩ := q
  exact ⟨q0, pj_WF.moved (u := U) (U := U.calling g mk a) (Vm.Alike.refl U.vm) q1, q2⟩

/-! words that keep -/
theorem pj_aoA {t : FieldType} {u U : State} {A A' : Array Value} (hvm : u.vm.Alike U.vm) (h : (Cond.arrayOver (.array t)).before A u = true) : (Cond.arrayOver (.array t)).before A' U = true := by
  obtain ⟨comp, c, k, h1, h2, h3, h4, h5⟩ := arrayOverA_spec h
  obtain ⟨k', hk', he⟩ := hvm.2.2 _ _ h3
  have hi : (U.vm.classes.findIdx? fun (x : Class) => match x.kind with | .array component _ => component == comp | _ => false) = some c := by
    have e1 := va_idx_bare U.vm comp
    have e2 := va_idx_bare u.vm comp
    have e3 : U.vm.bare = u.vm.bare := by first | exact hvm.bare_eq | exact hvm.bare_eq.symm
    rw [e3] at e1
    exact e1.symm.trans (e2.trans h2)
  have hkind : k'.kind = .array comp (.array t) := by rw [he]; exact h4
  have f1 : U.vm.findClass (FieldType.array t).toString = some comp := by rw [hvm.findClass]; exact h1
  have f2 : U.vm.findClass ("[" ++ (FieldType.array t).toString) = some c := by rw [hvm.findClass]; exact h5
  unfold Cond.before Cond.holds
  simp only [Cond.value]
  rw [f1, Option.bind_some]
  refine (congrArg (fun o : Option Nat => (o.bind (fun c => (U.vm.classes[c]?).map fun (k : Class) => match k.kind with | .array _ ty => decide (ty = FieldType.array t) && decide (U.vm.findClass ("[" ++ (FieldType.array t).toString) = some c) | _ => false) == some true)) hi).trans ?_
  simp [hk', hkind, f2]
def pj_good : Cond → Bool
  | .methodLinkNest .. => true
  | .arrayOver (.object _) => true
  | .arrayOver (.array _) => true
  | w => goodWord w || (w.faceAtom && w.onTables)
theorem pj_warm {args a' : Array Value} {s U : State} (hW : s.WarmedH U.vm) {w : Cond} (hg : pj_good w = true) (h : w.before args s = true) : w.before a' U = true := by
  have key : (goodWord w || (w.faceAtom && w.onTables)) = true → w.before a' U = true := by
    intro hk
    rcases Bool.or_eq_true_iff.mp hk with hk | hk
    · exact word_at hW (good_of_word hk) h
    · rw [Bool.and_eq_true] at hk
      exact va_tabs (u := s.setVm U.vm) hk.2 rfl (Cond.faceAtom_setVm hW.alike w hk.1 h)
  cases w with
  | methodLinkNest a i x hh => exact va_tabs (u := s.setVm U.vm) rfl rfl (Cond.methodLinkNest_warmed (args := args) hW h)
  | arrayOver ty =>
    cases ty with
    | object C => exact va_AO.use (va_AO.moved hW.alike (va_AO.of h))
    | array t => exact pj_aoA hW.alike h
    | _ => exact key hg
  | _ => exact key hg
theorem pj_all : lw_tbl.all pj_good = true := by decide +kernel
theorem pj_words {Y : pj_Y} {args : Array Value} {s : State} (hts : ∀ w ∈ lw_tbl, w.before args s = true) (hc : Cond.code Y.1 Y.2.1 Y.2.2.1 Y.2.2.2 ∈ lw_tbl) : ∀ w ∈ (Cond.code Y.1 Y.2.1 Y.2.2.1 Y.2.2.2 :: lw_tbl), ∀ (a' : Array Value) (U : State), s.WarmedH U.vm → w.before a' U = true := by
  intro w hw a' U hW
  have hm : w ∈ lw_tbl := by
    rcases List.mem_cons.mp hw with rfl | h
    · exact hc
    · exact h
  exact pj_warm hW (List.all_eq_true.mp pj_all w hm) (hts w hm)
/-! ===== the method's table of instructions ===== -/
def pj_tab (cc : ByteArray) (P : List (Nat × Instr × Nat)) : Bool := P.all fun q => decide (decode cc q.1 = .ok (q.2.1, q.2.2))
theorem pj_d {cc : ByteArray} {P : List (Nat × Instr × Nat)} (h : pj_tab cc P = true) (i : Nat) {pc len : Nat} {ins : Instr} (hi : P[i]? = some (pc, ins, len)) : decode cc pc = .ok (ins, len) := by
  have := List.all_eq_true.mp h _ (List.mem_of_getElem? hi)
  exact of_decide_eq_true this
section PJR
variable {E : pj_E} {B : Nat} {l : Launch} {Y : pj_Y} {d mc ms pc q : Nat} {ls : List (Option Value)} {st : List Value} {h : pj_H} {n ce sl : Nat} {Q : Option Value → pj_H → Nat → Prop}

theorem pj_iadd {x y : Int32} (hd : decode Y.2.1 pc = .ok (.iadd, 1)) (hq : pc + 1 = q)  (kk : pj_V E B l Y d mc ms q ls (.int (x + y) :: st) h n ce sl Q) : pj_V E B l Y d mc ms pc ls (.int y :: .int x :: st) h n ce sl Q := by
  subst hq
  intro p e s m args below meth c H locs la S hr hk hn hW hH hS hL
  exact lv_iadd S.1 S.2.1 hd  (kk p e s m args below meth c H locs la S hr hk hn hW hH hS hL)
theorem pj_isub {x y : Int32} (hd : decode Y.2.1 pc = .ok (.isub, 1)) (hq : pc + 1 = q)  (kk : pj_V E B l Y d mc ms q ls (.int (x - y) :: st) h n ce sl Q) : pj_V E B l Y d mc ms pc ls (.int y :: .int x :: st) h n ce sl Q := by
  subst hq
  intro p e s m args below meth c H locs la S hr hk hn hW hH hS hL
  exact lv_isub S.1 S.2.1 hd  (kk p e s m args below meth c H locs la S hr hk hn hW hH hS hL)
theorem pj_imul {x y : Int32} (hd : decode Y.2.1 pc = .ok (.imul, 1)) (hq : pc + 1 = q)  (kk : pj_V E B l Y d mc ms q ls (.int (x * y) :: st) h n ce sl Q) : pj_V E B l Y d mc ms pc ls (.int y :: .int x :: st) h n ce sl Q := by
  subst hq
  intro p e s m args below meth c H locs la S hr hk hn hW hH hS hL
  exact lv_imul S.1 S.2.1 hd  (kk p e s m args below meth c H locs la S hr hk hn hW hH hS hL)
theorem pj_iand {x y : Int32} (hd : decode Y.2.1 pc = .ok (.iand, 1)) (hq : pc + 1 = q)  (kk : pj_V E B l Y d mc ms q ls (.int (x &&& y) :: st) h n ce sl Q) : pj_V E B l Y d mc ms pc ls (.int y :: .int x :: st) h n ce sl Q := by
  subst hq
  intro p e s m args below meth c H locs la S hr hk hn hW hH hS hL
  exact lv_iand S.1 S.2.1 hd  (kk p e s m args below meth c H locs la S hr hk hn hW hH hS hL)
theorem pj_ior {x y : Int32} (hd : decode Y.2.1 pc = .ok (.ior, 1)) (hq : pc + 1 = q)  (kk : pj_V E B l Y d mc ms q ls (.int (x ||| y) :: st) h n ce sl Q) : pj_V E B l Y d mc ms pc ls (.int y :: .int x :: st) h n ce sl Q := by
  subst hq
  intro p e s m args below meth c H locs la S hr hk hn hW hH hS hL
  exact lv_ior S.1 S.2.1 hd  (kk p e s m args below meth c H locs la S hr hk hn hW hH hS hL)
theorem pj_ixor {x y : Int32} (hd : decode Y.2.1 pc = .ok (.ixor, 1)) (hq : pc + 1 = q)  (kk : pj_V E B l Y d mc ms q ls (.int (x ^^^ y) :: st) h n ce sl Q) : pj_V E B l Y d mc ms pc ls (.int y :: .int x :: st) h n ce sl Q := by
  subst hq
  intro p e s m args below meth c H locs la S hr hk hn hW hH hS hL
  exact lv_ixor S.1 S.2.1 hd  (kk p e s m args below meth c H locs la S hr hk hn hW hH hS hL)
theorem pj_ishl {x y : Int32} (hd : decode Y.2.1 pc = .ok (.ishl, 1)) (hq : pc + 1 = q)  (kk : pj_V E B l Y d mc ms q ls (.int (x <<< (y &&& 31)) :: st) h n ce sl Q) : pj_V E B l Y d mc ms pc ls (.int y :: .int x :: st) h n ce sl Q := by
  subst hq
  intro p e s m args below meth c H locs la S hr hk hn hW hH hS hL
  exact lv_ishl S.1 S.2.1 hd  (kk p e s m args below meth c H locs la S hr hk hn hW hH hS hL)
theorem pj_ishr {x y : Int32} (hd : decode Y.2.1 pc = .ok (.ishr, 1)) (hq : pc + 1 = q)  (kk : pj_V E B l Y d mc ms q ls (.int (x >>> (y &&& 31)) :: st) h n ce sl Q) : pj_V E B l Y d mc ms pc ls (.int y :: .int x :: st) h n ce sl Q := by
  subst hq
  intro p e s m args below meth c H locs la S hr hk hn hW hH hS hL
  exact lv_ishr S.1 S.2.1 hd  (kk p e s m args below meth c H locs la S hr hk hn hW hH hS hL)
theorem pj_iushr {x y : Int32} (hd : decode Y.2.1 pc = .ok (.iushr, 1)) (hq : pc + 1 = q)  (kk : pj_V E B l Y d mc ms q ls (.int (x.toUInt32 >>> (y.toUInt32 &&& Int32.toUInt32 31)).toInt32 :: st) h n ce sl Q) : pj_V E B l Y d mc ms pc ls (.int y :: .int x :: st) h n ce sl Q := by
  subst hq
  intro p e s m args below meth c H locs la S hr hk hn hW hH hS hL
  exact lv_iushr S.1 S.2.1 hd rfl (kk p e s m args below meth c H locs la S hr hk hn hW hH hS hL)
theorem pj_ladd {x y : Int64} (hd : decode Y.2.1 pc = .ok (.ladd, 1)) (hq : pc + 1 = q)  (kk : pj_V E B l Y d mc ms q ls (.long (x + y) :: st) h n ce sl Q) : pj_V E B l Y d mc ms pc ls (.long y :: .long x :: st) h n ce sl Q := by
  subst hq
  intro p e s m args below meth c H locs la S hr hk hn hW hH hS hL
  exact lv_ladd S.1 S.2.1 hd  (kk p e s m args below meth c H locs la S hr hk hn hW hH hS hL)
theorem pj_lsub {x y : Int64} (hd : decode Y.2.1 pc = .ok (.lsub, 1)) (hq : pc + 1 = q)  (kk : pj_V E B l Y d mc ms q ls (.long (x - y) :: st) h n ce sl Q) : pj_V E B l Y d mc ms pc ls (.long y :: .long x :: st) h n ce sl Q := by
  subst hq
  intro p e s m args below meth c H locs la S hr hk hn hW hH hS hL
  exact lv_lsub S.1 S.2.1 hd  (kk p e s m args below meth c H locs la S hr hk hn hW hH hS hL)
theorem pj_lmul {x y : Int64} (hd : decode Y.2.1 pc = .ok (.lmul, 1)) (hq : pc + 1 = q)  (kk : pj_V E B l Y d mc ms q ls (.long (x * y) :: st) h n ce sl Q) : pj_V E B l Y d mc ms pc ls (.long y :: .long x :: st) h n ce sl Q := by
  subst hq
  intro p e s m args below meth c H locs la S hr hk hn hW hH hS hL
  exact lv_lmul S.1 S.2.1 hd  (kk p e s m args below meth c H locs la S hr hk hn hW hH hS hL)
theorem pj_ineg {x : Int32} (hd : decode Y.2.1 pc = .ok (.ineg, 1)) (hq : pc + 1 = q)  (kk : pj_V E B l Y d mc ms q ls (.int (-x) :: st) h n ce sl Q) : pj_V E B l Y d mc ms pc ls (.int x :: st) h n ce sl Q := by
  subst hq
  intro p e s m args below meth c H locs la S hr hk hn hW hH hS hL
  exact lv_ineg S.1 S.2.1 hd  (kk p e s m args below meth c H locs la S hr hk hn hW hH hS hL)
theorem pj_irem {x y : Int32} (hd : decode Y.2.1 pc = .ok (.irem, 1)) (hq : pc + 1 = q) (h0 : ¬ y = 0) (kk : pj_V E B l Y d mc ms q ls (.int (x - x / y * y) :: st) h n ce sl Q) : pj_V E B l Y d mc ms pc ls (.int y :: .int x :: st) h n ce sl Q := by
  subst hq
  intro p e s m args below meth c H locs la S hr hk hn hW hH hS hL
  exact lv_irem S.1 S.2.1 hd h0 (kk p e s m args below meth c H locs la S hr hk hn hW hH hS hL)
theorem pj_ldiv {x y : Int64} (hd : decode Y.2.1 pc = .ok (.ldiv, 1)) (hq : pc + 1 = q) (h0 : ¬ y = 0) (kk : pj_V E B l Y d mc ms q ls (.long (x / y) :: st) h n ce sl Q) : pj_V E B l Y d mc ms pc ls (.long y :: .long x :: st) h n ce sl Q := by
  subst hq
  intro p e s m args below meth c H locs la S hr hk hn hW hH hS hL
  exact lv_ldiv S.1 S.2.1 hd h0 (kk p e s m args below meth c H locs la S hr hk hn hW hH hS hL)
theorem pj_lrem {x y : Int64} (hd : decode Y.2.1 pc = .ok (.lrem, 1)) (hq : pc + 1 = q) (h0 : ¬ y = 0) (kk : pj_V E B l Y d mc ms q ls (.long (x - x / y * y) :: st) h n ce sl Q) : pj_V E B l Y d mc ms pc ls (.long y :: .long x :: st) h n ce sl Q := by
  subst hq
  intro p e s m args below meth c H locs la S hr hk hn hW hH hS hL
  exact lv_lrem S.1 S.2.1 hd h0 (kk p e s m args below meth c H locs la S hr hk hn hW hH hS hL)
theorem pj_lcmp {x y : Int64} (hd : decode Y.2.1 pc = .ok (.lcmp, 1)) (hq : pc + 1 = q)  (kk : pj_V E B l Y d mc ms q ls (.int (lg_cmp x y) :: st) h n ce sl Q) : pj_V E B l Y d mc ms pc ls (.long y :: .long x :: st) h n ce sl Q := by
  subst hq
  intro p e s m args below meth c H locs la S hr hk hn hW hH hS hL
  exact W.lcmp S.1 S.2.1 hd  (kk p e s m args below meth c H locs la S hr hk hn hW hH hS hL)
theorem pj_i2l {x : Int32} (hd : decode Y.2.1 pc = .ok (.i2l, 1)) (hq : pc + 1 = q)  (kk : pj_V E B l Y d mc ms q ls (.long x.toInt64 :: st) h n ce sl Q) : pj_V E B l Y d mc ms pc ls (.int x :: st) h n ce sl Q := by
  subst hq
  intro p e s m args below meth c H locs la S hr hk hn hW hH hS hL
  exact lv_i2l S.1 S.2.1 hd rfl (kk p e s m args below meth c H locs la S hr hk hn hW hH hS hL)
theorem pj_l2i {x : Int64} (hd : decode Y.2.1 pc = .ok (.l2i, 1)) (hq : pc + 1 = q)  (kk : pj_V E B l Y d mc ms q ls (.int x.toInt32 :: st) h n ce sl Q) : pj_V E B l Y d mc ms pc ls (.long x :: st) h n ce sl Q := by
  subst hq
  intro p e s m args below meth c H locs la S hr hk hn hW hH hS hL
  exact lv_l2i S.1 S.2.1 hd rfl (kk p e s m args below meth c H locs la S hr hk hn hW hH hS hL)
theorem pj_i2b {x : Int32} (hd : decode Y.2.1 pc = .ok (.i2b, 1)) (hq : pc + 1 = q)  (kk : pj_V E B l Y d mc ms q ls (.int x.toInt8.toInt32 :: st) h n ce sl Q) : pj_V E B l Y d mc ms pc ls (.int x :: st) h n ce sl Q := by
  subst hq
  intro p e s m args below meth c H locs la S hr hk hn hW hH hS hL
  exact lv_i2b S.1 S.2.1 hd rfl (kk p e s m args below meth c H locs la S hr hk hn hW hH hS hL)
theorem pj_i2s {x : Int32} (hd : decode Y.2.1 pc = .ok (.i2s, 1)) (hq : pc + 1 = q)  (kk : pj_V E B l Y d mc ms q ls (.int x.toInt16.toInt32 :: st) h n ce sl Q) : pj_V E B l Y d mc ms pc ls (.int x :: st) h n ce sl Q := by
  subst hq
  intro p e s m args below meth c H locs la S hr hk hn hW hH hS hL
  exact lv_i2s S.1 S.2.1 hd rfl (kk p e s m args below meth c H locs la S hr hk hn hW hH hS hL)
theorem pj_iconst {k : Int} {v : Int32} (hd : decode Y.2.1 pc = .ok (.iconst k, 1)) (hq : pc + 1 = q) (hv : Int32.ofInt k = v) (kk : pj_V E B l Y d mc ms q ls (.int v :: st) h n ce sl Q) : pj_V E B l Y d mc ms pc ls st h n ce sl Q := by
  subst hq
  intro p e s m args below meth c H locs la S hr hk hn hW hH hS hL
  exact lv_iconst S.1 S.2.1 hd hv (kk p e s m args below meth c H locs la S hr hk hn hW hH hS hL)
theorem pj_bipush {k : Int} {v : Int32} (hd : decode Y.2.1 pc = .ok (.bipush k, 2)) (hq : pc + 2 = q) (hv : (Int8.ofInt k).toInt32 = v) (kk : pj_V E B l Y d mc ms q ls (.int v :: st) h n ce sl Q) : pj_V E B l Y d mc ms pc ls st h n ce sl Q := by
  subst hq
  intro p e s m args below meth c H locs la S hr hk hn hW hH hS hL
  exact lv_bipush S.1 S.2.1 hd hv (kk p e s m args below meth c H locs la S hr hk hn hW hH hS hL)
theorem pj_sipush {k : Int} {v : Int32} (hd : decode Y.2.1 pc = .ok (.sipush k, 3)) (hq : pc + 3 = q) (hv : (Int16.ofInt k).toInt32 = v) (kk : pj_V E B l Y d mc ms q ls (.int v :: st) h n ce sl Q) : pj_V E B l Y d mc ms pc ls st h n ce sl Q := by
  subst hq
  intro p e s m args below meth c H locs la S hr hk hn hW hH hS hL
  exact lv_sipush S.1 S.2.1 hd hv (kk p e s m args below meth c H locs la S hr hk hn hW hH hS hL)
theorem pj_lconst {k : Fin 2} {v : Int64} (hd : decode Y.2.1 pc = .ok (.lconst k, 1)) (hq : pc + 1 = q) (hv : Int64.ofNat (k : Nat) = v) (kk : pj_V E B l Y d mc ms q ls (.long v :: st) h n ce sl Q) : pj_V E B l Y d mc ms pc ls st h n ce sl Q := by
  subst hq
  intro p e s m args below meth c H locs la S hr hk hn hW hH hS hL
  exact lv_lconst S.1 S.2.1 hd hv (kk p e s m args below meth c H locs la S hr hk hn hW hH hS hL)
theorem pj_dup {v : Value} (hd : decode Y.2.1 pc = .ok (.dup, 1)) (hq : pc + 1 = q) (hv : v.category = 1) (kk : pj_V E B l Y d mc ms q ls (v :: v :: st) h n ce sl Q) : pj_V E B l Y d mc ms pc ls (v :: st) h n ce sl Q := by
  subst hq
  intro p e s m args below meth c H locs la S hr hk hn hW hH hS hL
  exact lv_dup S.1 S.2.1 hd hv (kk p e s m args below meth c H locs la S hr hk hn hW hH hS hL)
theorem pj_null  (hd : decode Y.2.1 pc = .ok (.aconst_null, 1)) (hq : pc + 1 = q)  (kk : pj_V E B l Y d mc ms q ls (.null :: st) h n ce sl Q) : pj_V E B l Y d mc ms pc ls st h n ce sl Q := by
  subst hq
  intro p e s m args below meth c H locs la S hr hk hn hW hH hS hL
  exact lv_null S.1 S.2.1 hd  (kk p e s m args below meth c H locs la S hr hk hn hW hH hS hL)
theorem pj_dup2 {v u : Value} (hd : decode Y.2.1 pc = .ok (.dup2, 1)) (hq : pc + 1 = q) (hv : v.category = 1) (hu : u.category = 1) (kk : pj_V E B l Y d mc ms q ls (v :: u :: v :: u :: st) h n ce sl Q) : pj_V E B l Y d mc ms pc ls (v :: u :: st) h n ce sl Q := by
  subst hq
  intro p e s m args below meth c H locs la S hr hk hn hW hH hS hL
  exact lv_dup2_11 S.1 S.2.1 hd hv hu (kk p e s m args below meth c H locs la S hr hk hn hW hH hS hL)
theorem pj_ldc {i : Nat} {v : Int32} (hd : decode Y.2.1 pc = .ok (.ldc i, 2)) (hq : pc + 2 = q) (hc : Cond.constant Y.1.cls i v ∈ lw_tbl) (kk : pj_V E B l Y d mc ms q ls (.int v :: st) h n ce sl Q) : pj_V E B l Y d mc ms pc ls st h n ce sl Q := by
  subst hq
  intro p e s m args below meth c H locs la S hr hk hn hW hH hS hL
  exact lv_ldc S.1 S.2.1 S.2.2.2.1 (S.2.2.2.2 _ hc) hd (kk p e s m args below meth c H locs la S hr hk hn hW hH hS hL)
theorem pj_ldcw {i : Nat} {v : Int32} (hd : decode Y.2.1 pc = .ok (.ldc_w i, 3)) (hq : pc + 3 = q) (hc : Cond.constant Y.1.cls i v ∈ lw_tbl) (kk : pj_V E B l Y d mc ms q ls (.int v :: st) h n ce sl Q) : pj_V E B l Y d mc ms pc ls st h n ce sl Q := by
  subst hq
  intro p e s m args below meth c H locs la S hr hk hn hW hH hS hL
  exact lv_ldcw S.1 S.2.1 S.2.2.2.1 (S.2.2.2.2 _ hc) hd (kk p e s m args below meth c H locs la S hr hk hn hW hH hS hL)
theorem pj_ldc2 {i : Nat} {v : Int64} (hd : decode Y.2.1 pc = .ok (.ldc2_w i, 3)) (hq : pc + 3 = q) (hc : Cond.constantLong Y.1.cls i v ∈ lw_tbl) (kk : pj_V E B l Y d mc ms q ls (.long v :: st) h n ce sl Q) : pj_V E B l Y d mc ms pc ls st h n ce sl Q := by
  subst hq
  intro p e s m args below meth c H locs la S hr hk hn hW hH hS hL
  exact lv_ldc2 S.1 S.2.1 S.2.2.2.1 (S.2.2.2.2 _ hc) hd (kk p e s m args below meth c H locs la S hr hk hn hW hH hS hL)
theorem pj_icmp_eq {x y : Int32} {t : Nat} {off : Int} (hd : decode Y.2.1 pc = .ok (.if_icmp .eq off, 3)) (hq : pc + 3 = q) (ht : (pc : Int) + off = (t : Int)) (kt : x = y → pj_V E B l Y d mc ms t ls st h n ce sl Q) (kf : ¬ x = y → pj_V E B l Y d mc ms q ls st h n ce sl Q) : pj_V E B l Y d mc ms pc ls (.int y :: .int x :: st) h n ce sl Q := by
  subst hq
  intro p e s m args below meth c H locs la S hr hk hn hW hH hS hL
  exact lv_icmp_eq S.1 S.2.1 hd ht (fun z => kt z p e s m args below meth c H locs la S hr hk hn hW hH hS hL) (fun z => kf z p e s m args below meth c H locs la S hr hk hn hW hH hS hL)
theorem pj_if_eq {x : Int32} {t : Nat} {off : Int} (hd : decode Y.2.1 pc = .ok (.ifCond .eq off, 3)) (hq : pc + 3 = q) (ht : (pc : Int) + off = (t : Int)) (kt : x = 0 → pj_V E B l Y d mc ms t ls st h n ce sl Q) (kf : ¬ x = 0 → pj_V E B l Y d mc ms q ls st h n ce sl Q) : pj_V E B l Y d mc ms pc ls (.int x :: st) h n ce sl Q := by
  subst hq
  intro p e s m args below meth c H locs la S hr hk hn hW hH hS hL
  exact lv_if_eq S.1 S.2.1 hd ht (fun z => kt z p e s m args below meth c H locs la S hr hk hn hW hH hS hL) (fun z => kf z p e s m args below meth c H locs la S hr hk hn hW hH hS hL)
theorem pj_icmp_ne {x y : Int32} {t : Nat} {off : Int} (hd : decode Y.2.1 pc = .ok (.if_icmp .ne off, 3)) (hq : pc + 3 = q) (ht : (pc : Int) + off = (t : Int)) (kt : ¬ x = y → pj_V E B l Y d mc ms t ls st h n ce sl Q) (kf : x = y → pj_V E B l Y d mc ms q ls st h n ce sl Q) : pj_V E B l Y d mc ms pc ls (.int y :: .int x :: st) h n ce sl Q := by
  subst hq
  intro p e s m args below meth c H locs la S hr hk hn hW hH hS hL
  exact lv_icmp_ne S.1 S.2.1 hd ht (fun z => kt z p e s m args below meth c H locs la S hr hk hn hW hH hS hL) (fun z => kf z p e s m args below meth c H locs la S hr hk hn hW hH hS hL)
theorem pj_if_ne {x : Int32} {t : Nat} {off : Int} (hd : decode Y.2.1 pc = .ok (.ifCond .ne off, 3)) (hq : pc + 3 = q) (ht : (pc : Int) + off = (t : Int)) (kt : ¬ x = 0 → pj_V E B l Y d mc ms t ls st h n ce sl Q) (kf : x = 0 → pj_V E B l Y d mc ms q ls st h n ce sl Q) : pj_V E B l Y d mc ms pc ls (.int x :: st) h n ce sl Q := by
  subst hq
  intro p e s m args below meth c H locs la S hr hk hn hW hH hS hL
  exact lv_if_ne S.1 S.2.1 hd ht (fun z => kt z p e s m args below meth c H locs la S hr hk hn hW hH hS hL) (fun z => kf z p e s m args below meth c H locs la S hr hk hn hW hH hS hL)
theorem pj_icmp_lt {x y : Int32} {t : Nat} {off : Int} (hd : decode Y.2.1 pc = .ok (.if_icmp .lt off, 3)) (hq : pc + 3 = q) (ht : (pc : Int) + off = (t : Int)) (kt : x < y → pj_V E B l Y d mc ms t ls st h n ce sl Q) (kf : ¬ x < y → pj_V E B l Y d mc ms q ls st h n ce sl Q) : pj_V E B l Y d mc ms pc ls (.int y :: .int x :: st) h n ce sl Q := by
  subst hq
  intro p e s m args below meth c H locs la S hr hk hn hW hH hS hL
  exact lv_icmp_lt S.1 S.2.1 hd ht (fun z => kt z p e s m args below meth c H locs la S hr hk hn hW hH hS hL) (fun z => kf z p e s m args below meth c H locs la S hr hk hn hW hH hS hL)
theorem pj_if_lt {x : Int32} {t : Nat} {off : Int} (hd : decode Y.2.1 pc = .ok (.ifCond .lt off, 3)) (hq : pc + 3 = q) (ht : (pc : Int) + off = (t : Int)) (kt : x < 0 → pj_V E B l Y d mc ms t ls st h n ce sl Q) (kf : ¬ x < 0 → pj_V E B l Y d mc ms q ls st h n ce sl Q) : pj_V E B l Y d mc ms pc ls (.int x :: st) h n ce sl Q := by
  subst hq
  intro p e s m args below meth c H locs la S hr hk hn hW hH hS hL
  exact lv_if_lt S.1 S.2.1 hd ht (fun z => kt z p e s m args below meth c H locs la S hr hk hn hW hH hS hL) (fun z => kf z p e s m args below meth c H locs la S hr hk hn hW hH hS hL)
theorem pj_icmp_ge {x y : Int32} {t : Nat} {off : Int} (hd : decode Y.2.1 pc = .ok (.if_icmp .ge off, 3)) (hq : pc + 3 = q) (ht : (pc : Int) + off = (t : Int)) (kt : y ≤ x → pj_V E B l Y d mc ms t ls st h n ce sl Q) (kf : ¬ y ≤ x → pj_V E B l Y d mc ms q ls st h n ce sl Q) : pj_V E B l Y d mc ms pc ls (.int y :: .int x :: st) h n ce sl Q := by
  subst hq
  intro p e s m args below meth c H locs la S hr hk hn hW hH hS hL
  exact lv_icmp_ge S.1 S.2.1 hd ht (fun z => kt z p e s m args below meth c H locs la S hr hk hn hW hH hS hL) (fun z => kf z p e s m args below meth c H locs la S hr hk hn hW hH hS hL)
theorem pj_if_ge {x : Int32} {t : Nat} {off : Int} (hd : decode Y.2.1 pc = .ok (.ifCond .ge off, 3)) (hq : pc + 3 = q) (ht : (pc : Int) + off = (t : Int)) (kt : 0 ≤ x → pj_V E B l Y d mc ms t ls st h n ce sl Q) (kf : ¬ 0 ≤ x → pj_V E B l Y d mc ms q ls st h n ce sl Q) : pj_V E B l Y d mc ms pc ls (.int x :: st) h n ce sl Q := by
  subst hq
  intro p e s m args below meth c H locs la S hr hk hn hW hH hS hL
  exact lv_if_ge S.1 S.2.1 hd ht (fun z => kt z p e s m args below meth c H locs la S hr hk hn hW hH hS hL) (fun z => kf z p e s m args below meth c H locs la S hr hk hn hW hH hS hL)
theorem pj_icmp_gt {x y : Int32} {t : Nat} {off : Int} (hd : decode Y.2.1 pc = .ok (.if_icmp .gt off, 3)) (hq : pc + 3 = q) (ht : (pc : Int) + off = (t : Int)) (kt : y < x → pj_V E B l Y d mc ms t ls st h n ce sl Q) (kf : ¬ y < x → pj_V E B l Y d mc ms q ls st h n ce sl Q) : pj_V E B l Y d mc ms pc ls (.int y :: .int x :: st) h n ce sl Q := by
  subst hq
  intro p e s m args below meth c H locs la S hr hk hn hW hH hS hL
  exact lv_icmp_gt S.1 S.2.1 hd ht (fun z => kt z p e s m args below meth c H locs la S hr hk hn hW hH hS hL) (fun z => kf z p e s m args below meth c H locs la S hr hk hn hW hH hS hL)
theorem pj_if_gt {x : Int32} {t : Nat} {off : Int} (hd : decode Y.2.1 pc = .ok (.ifCond .gt off, 3)) (hq : pc + 3 = q) (ht : (pc : Int) + off = (t : Int)) (kt : 0 < x → pj_V E B l Y d mc ms t ls st h n ce sl Q) (kf : ¬ 0 < x → pj_V E B l Y d mc ms q ls st h n ce sl Q) : pj_V E B l Y d mc ms pc ls (.int x :: st) h n ce sl Q := by
  subst hq
  intro p e s m args below meth c H locs la S hr hk hn hW hH hS hL
  exact lv_if_gt S.1 S.2.1 hd ht (fun z => kt z p e s m args below meth c H locs la S hr hk hn hW hH hS hL) (fun z => kf z p e s m args below meth c H locs la S hr hk hn hW hH hS hL)
theorem pj_icmp_le {x y : Int32} {t : Nat} {off : Int} (hd : decode Y.2.1 pc = .ok (.if_icmp .le off, 3)) (hq : pc + 3 = q) (ht : (pc : Int) + off = (t : Int)) (kt : x ≤ y → pj_V E B l Y d mc ms t ls st h n ce sl Q) (kf : ¬ x ≤ y → pj_V E B l Y d mc ms q ls st h n ce sl Q) : pj_V E B l Y d mc ms pc ls (.int y :: .int x :: st) h n ce sl Q := by
  subst hq
  intro p e s m args below meth c H locs la S hr hk hn hW hH hS hL
  exact lv_icmp_le S.1 S.2.1 hd ht (fun z => kt z p e s m args below meth c H locs la S hr hk hn hW hH hS hL) (fun z => kf z p e s m args below meth c H locs la S hr hk hn hW hH hS hL)
theorem pj_if_le {x : Int32} {t : Nat} {off : Int} (hd : decode Y.2.1 pc = .ok (.ifCond .le off, 3)) (hq : pc + 3 = q) (ht : (pc : Int) + off = (t : Int)) (kt : x ≤ 0 → pj_V E B l Y d mc ms t ls st h n ce sl Q) (kf : ¬ x ≤ 0 → pj_V E B l Y d mc ms q ls st h n ce sl Q) : pj_V E B l Y d mc ms pc ls (.int x :: st) h n ce sl Q := by
  subst hq
  intro p e s m args below meth c H locs la S hr hk hn hW hH hS hL
  exact lv_if_le S.1 S.2.1 hd ht (fun z => kt z p e s m args below meth c H locs la S hr hk hn hW hH hS hL) (fun z => kf z p e s m args below meth c H locs la S hr hk hn hW hH hS hL)
theorem pj_goto {t : Nat} {off : Int} (hd : decode Y.2.1 pc = .ok (.goto off, 3)) (ht : (pc : Int) + off = (t : Int)) (kk : pj_V E B l Y d mc ms t ls st h n ce sl Q) : pj_V E B l Y d mc ms pc ls st h n ce sl Q := by
  intro p e s m args below meth c H locs la S hr hk hn hW hH hS hL
  exact lv_goto S.1 S.2.1 hd ht (kk p e s m args below meth c H locs la S hr hk hn hW hH hS hL)
theorem pj_ifnonnull {t a : Nat} {off : Int} (hd : decode Y.2.1 pc = .ok (.ifnonnull off, 3)) (ht : (pc : Int) + off = (t : Int)) (kk : pj_V E B l Y d mc ms t ls st h n ce sl Q) : pj_V E B l Y d mc ms pc ls (.ref a :: st) h n ce sl Q := by
  intro p e s m args below meth c H locs la S hr hk hn hW hH hS hL
  exact lv_ifnonnull S.1 S.2.1 hd ht (kk p e s m args below meth c H locs la S hr hk hn hW hH hS hL)
theorem pj_ifnonnullN {off : Int} (hd : decode Y.2.1 pc = .ok (.ifnonnull off, 3)) (hq : pc + 3 = q) (kk : pj_V E B l Y d mc ms q ls st h n ce sl Q) : pj_V E B l Y d mc ms pc ls (.null :: st) h n ce sl Q := by
  subst hq
  intro p e s m args below meth c H locs la S hr hk hn hW hH hS hL
  exact lv_ifnonnullN S.1 S.2.1 hd (kk p e s m args below meth c H locs la S hr hk hn hW hH hS hL)
theorem pj_ifnull {a : Nat} {off : Int} (hd : decode Y.2.1 pc = .ok (.ifnull off, 3)) (hq : pc + 3 = q) (kk : pj_V E B l Y d mc ms q ls st h n ce sl Q) : pj_V E B l Y d mc ms pc ls (.ref a :: st) h n ce sl Q := by
  subst hq
  intro p e s m args below meth c H locs la S hr hk hn hW hH hS hL
  exact lv_ifnull S.1 S.2.1 hd (kk p e s m args below meth c H locs la S hr hk hn hW hH hS hL)
theorem pj_ifnullN {t : Nat} {off : Int} (hd : decode Y.2.1 pc = .ok (.ifnull off, 3)) (ht : (pc : Int) + off = (t : Int)) (kk : pj_V E B l Y d mc ms t ls st h n ce sl Q) : pj_V E B l Y d mc ms pc ls (.null :: st) h n ce sl Q := by
  intro p e s m args below meth c H locs la S hr hk hn hW hH hS hL
  exact lv_ifnullN S.1 S.2.1 hd ht (kk p e s m args below meth c H locs la S hr hk hn hW hH hS hL)
theorem pj_tabOut {t len : Nat} {dflt lo hi : Int} {offs : Array Int} {x : Int32} (hd : decode Y.2.1 pc = .ok (.tableswitch dflt lo hi offs, len)) (hx : x.toInt < lo ∨ hi < x.toInt) (ht : (pc : Int) + dflt = (t : Int)) (kk : pj_V E B l Y d mc ms t ls st h n ce sl Q) : pj_V E B l Y d mc ms pc ls (.int x :: st) h n ce sl Q := by
  intro p e s m args below meth c H locs la S hr hk hn hW hH hS hL
  exact lv_tableOut S.1 S.2.1 hd hx ht (kk p e s m args below meth c H locs la S hr hk hn hW hH hS hL)
theorem pj_tabIn {t len : Nat} {dflt lo hi off : Int} {offs : Array Int} {x : Int32} (hd : decode Y.2.1 pc = .ok (.tableswitch dflt lo hi offs, len)) (h1 : ¬ x.toInt < lo) (h2 : ¬ hi < x.toInt) (ho : offs[(x.toInt - lo).toNat]? = some off) (ht : (pc : Int) + off = (t : Int)) (kk : pj_V E B l Y d mc ms t ls st h n ce sl Q) : pj_V E B l Y d mc ms pc ls (.int x :: st) h n ce sl Q := by
  intro p e s m args below meth c H locs la S hr hk hn hW hH hS hL
  exact lv_tableIn S.1 S.2.1 hd h1 h2 ho ht (kk p e s m args below meth c H locs la S hr hk hn hW hH hS hL)
theorem pj_lookup {t len : Nat} {dflt off : Int} {ps : Array (Int × Int)} {x : Int32} (hd : decode Y.2.1 pc = .ok (.lookupswitch dflt ps, len)) (hp : (ps.toList.zip (ps.toList.drop 1)).all (fun (a, next) => a.1 < next.1) = true) (ho : Op.lookupswitch.offset ps.toList dflt x.toInt = off) (ht : (pc : Int) + off = (t : Int)) (kk : pj_V E B l Y d mc ms t ls st h n ce sl Q) : pj_V E B l Y d mc ms pc ls (.int x :: st) h n ce sl Q := by
  intro p e s m args below meth c H locs la S hr hk hn hW hH hS hL
  exact lv_lookup S.1 S.2.1 hd hp ho ht (kk p e s m args below meth c H locs la S hr hk hn hW hH hS hL)
theorem pj_ild0 {tl : List (Option Value)} {x : Int32} (hd : decode Y.2.1 pc = .ok (.iload_n 0, 1)) (hq : pc + 1 = q) (kk : pj_V E B l Y d mc ms q (some (.int x) :: tl) (.int x :: st) h n ce sl Q) : pj_V E B l Y d mc ms pc (some (.int x) :: tl) st h n ce sl Q := by
  subst hq
  intro p e s m args below meth c H locs la S hr hk hn hW hH hS hL
  exact lv_iload_n S.1 S.2.1 hd rfl (hL.at rfl) (kk p e s m args below meth c H locs la S hr hk hn hW hH hS hL)
theorem pj_lld0 {tl : List (Option Value)} {x : Int64} (hd : decode Y.2.1 pc = .ok (.lload_n 0, 1)) (hq : pc + 1 = q) (kk : pj_V E B l Y d mc ms q (some (.long x) :: tl) (.long x :: st) h n ce sl Q) : pj_V E B l Y d mc ms pc (some (.long x) :: tl) st h n ce sl Q := by
  subst hq
  intro p e s m args below meth c H locs la S hr hk hn hW hH hS hL
  exact lv_lload_n S.1 S.2.1 hd rfl (hL.at rfl) (kk p e s m args below meth c H locs la S hr hk hn hW hH hS hL)
theorem pj_ald0 {tl : List (Option Value)} {x : Nat} (hd : decode Y.2.1 pc = .ok (.aload_n 0, 1)) (hq : pc + 1 = q) (kk : pj_V E B l Y d mc ms q (some (.ref x) :: tl) (.ref x :: st) h n ce sl Q) : pj_V E B l Y d mc ms pc (some (.ref x) :: tl) st h n ce sl Q := by
  subst hq
  intro p e s m args below meth c H locs la S hr hk hn hW hH hS hL
  exact lv_aload_n S.1 S.2.1 hd rfl (hL.at rfl) (kk p e s m args below meth c H locs la S hr hk hn hW hH hS hL)
theorem pj_aldN0 {tl : List (Option Value)} (hd : decode Y.2.1 pc = .ok (.aload_n 0, 1)) (hq : pc + 1 = q) (kk : pj_V E B l Y d mc ms q (some .null :: tl) (.null :: st) h n ce sl Q) : pj_V E B l Y d mc ms pc (some .null :: tl) st h n ce sl Q := by
  subst hq
  intro p e s m args below meth c H locs la S hr hk hn hW hH hS hL
  exact lv_aload_nN S.1 S.2.1 hd rfl (hL.at rfl) (kk p e s m args below meth c H locs la S hr hk hn hW hH hS hL)
theorem pj_ild1 {o0 : Option Value} {tl : List (Option Value)} {x : Int32} (hd : decode Y.2.1 pc = .ok (.iload_n 1, 1)) (hq : pc + 1 = q) (kk : pj_V E B l Y d mc ms q (o0 :: some (.int x) :: tl) (.int x :: st) h n ce sl Q) : pj_V E B l Y d mc ms pc (o0 :: some (.int x) :: tl) st h n ce sl Q := by
  subst hq
  intro p e s m args below meth c H locs la S hr hk hn hW hH hS hL
  exact lv_iload_n S.1 S.2.1 hd rfl (hL.at rfl) (kk p e s m args below meth c H locs la S hr hk hn hW hH hS hL)
theorem pj_lld1 {o0 : Option Value} {tl : List (Option Value)} {x : Int64} (hd : decode Y.2.1 pc = .ok (.lload_n 1, 1)) (hq : pc + 1 = q) (kk : pj_V E B l Y d mc ms q (o0 :: some (.long x) :: tl) (.long x :: st) h n ce sl Q) : pj_V E B l Y d mc ms pc (o0 :: some (.long x) :: tl) st h n ce sl Q := by
  subst hq
  intro p e s m args below meth c H locs la S hr hk hn hW hH hS hL
  exact lv_lload_n S.1 S.2.1 hd rfl (hL.at rfl) (kk p e s m args below meth c H locs la S hr hk hn hW hH hS hL)
theorem pj_ald1 {o0 : Option Value} {tl : List (Option Value)} {x : Nat} (hd : decode Y.2.1 pc = .ok (.aload_n 1, 1)) (hq : pc + 1 = q) (kk : pj_V E B l Y d mc ms q (o0 :: some (.ref x) :: tl) (.ref x :: st) h n ce sl Q) : pj_V E B l Y d mc ms pc (o0 :: some (.ref x) :: tl) st h n ce sl Q := by
  subst hq
  intro p e s m args below meth c H locs la S hr hk hn hW hH hS hL
  exact lv_aload_n S.1 S.2.1 hd rfl (hL.at rfl) (kk p e s m args below meth c H locs la S hr hk hn hW hH hS hL)
theorem pj_aldN1 {o0 : Option Value} {tl : List (Option Value)} (hd : decode Y.2.1 pc = .ok (.aload_n 1, 1)) (hq : pc + 1 = q) (kk : pj_V E B l Y d mc ms q (o0 :: some .null :: tl) (.null :: st) h n ce sl Q) : pj_V E B l Y d mc ms pc (o0 :: some .null :: tl) st h n ce sl Q := by
  subst hq
  intro p e s m args below meth c H locs la S hr hk hn hW hH hS hL
  exact lv_aload_nN S.1 S.2.1 hd rfl (hL.at rfl) (kk p e s m args below meth c H locs la S hr hk hn hW hH hS hL)
theorem pj_ild2 {o0 o1 : Option Value} {tl : List (Option Value)} {x : Int32} (hd : decode Y.2.1 pc = .ok (.iload_n 2, 1)) (hq : pc + 1 = q) (kk : pj_V E B l Y d mc ms q (o0 :: o1 :: some (.int x) :: tl) (.int x :: st) h n ce sl Q) : pj_V E B l Y d mc ms pc (o0 :: o1 :: some (.int x) :: tl) st h n ce sl Q := by
  subst hq
  intro p e s m args below meth c H locs la S hr hk hn hW hH hS hL
  exact lv_iload_n S.1 S.2.1 hd rfl (hL.at rfl) (kk p e s m args below meth c H locs la S hr hk hn hW hH hS hL)
theorem pj_lld2 {o0 o1 : Option Value} {tl : List (Option Value)} {x : Int64} (hd : decode Y.2.1 pc = .ok (.lload_n 2, 1)) (hq : pc + 1 = q) (kk : pj_V E B l Y d mc ms q (o0 :: o1 :: some (.long x) :: tl) (.long x :: st) h n ce sl Q) : pj_V E B l Y d mc ms pc (o0 :: o1 :: some (.long x) :: tl) st h n ce sl Q := by
  subst hq
  intro p e s m args below meth c H locs la S hr hk hn hW hH hS hL
  exact lv_lload_n S.1 S.2.1 hd rfl (hL.at rfl) (kk p e s m args below meth c H locs la S hr hk hn hW hH hS hL)
theorem pj_ald2 {o0 o1 : Option Value} {tl : List (Option Value)} {x : Nat} (hd : decode Y.2.1 pc = .ok (.aload_n 2, 1)) (hq : pc + 1 = q) (kk : pj_V E B l Y d mc ms q (o0 :: o1 :: some (.ref x) :: tl) (.ref x :: st) h n ce sl Q) : pj_V E B l Y d mc ms pc (o0 :: o1 :: some (.ref x) :: tl) st h n ce sl Q := by
  subst hq
  intro p e s m args below meth c H locs la S hr hk hn hW hH hS hL
  exact lv_aload_n S.1 S.2.1 hd rfl (hL.at rfl) (kk p e s m args below meth c H locs la S hr hk hn hW hH hS hL)
theorem pj_aldN2 {o0 o1 : Option Value} {tl : List (Option Value)} (hd : decode Y.2.1 pc = .ok (.aload_n 2, 1)) (hq : pc + 1 = q) (kk : pj_V E B l Y d mc ms q (o0 :: o1 :: some .null :: tl) (.null :: st) h n ce sl Q) : pj_V E B l Y d mc ms pc (o0 :: o1 :: some .null :: tl) st h n ce sl Q := by
  subst hq
  intro p e s m args below meth c H locs la S hr hk hn hW hH hS hL
  exact lv_aload_nN S.1 S.2.1 hd rfl (hL.at rfl) (kk p e s m args below meth c H locs la S hr hk hn hW hH hS hL)
theorem pj_ild3 {o0 o1 o2 : Option Value} {tl : List (Option Value)} {x : Int32} (hd : decode Y.2.1 pc = .ok (.iload_n 3, 1)) (hq : pc + 1 = q) (kk : pj_V E B l Y d mc ms q (o0 :: o1 :: o2 :: some (.int x) :: tl) (.int x :: st) h n ce sl Q) : pj_V E B l Y d mc ms pc (o0 :: o1 :: o2 :: some (.int x) :: tl) st h n ce sl Q := by
  subst hq
  intro p e s m args below meth c H locs la S hr hk hn hW hH hS hL
  exact lv_iload_n S.1 S.2.1 hd rfl (hL.at rfl) (kk p e s m args below meth c H locs la S hr hk hn hW hH hS hL)
theorem pj_lld3 {o0 o1 o2 : Option Value} {tl : List (Option Value)} {x : Int64} (hd : decode Y.2.1 pc = .ok (.lload_n 3, 1)) (hq : pc + 1 = q) (kk : pj_V E B l Y d mc ms q (o0 :: o1 :: o2 :: some (.long x) :: tl) (.long x :: st) h n ce sl Q) : pj_V E B l Y d mc ms pc (o0 :: o1 :: o2 :: some (.long x) :: tl) st h n ce sl Q := by
  subst hq
  intro p e s m args below meth c H locs la S hr hk hn hW hH hS hL
  exact lv_lload_n S.1 S.2.1 hd rfl (hL.at rfl) (kk p e s m args below meth c H locs la S hr hk hn hW hH hS hL)
theorem pj_ald3 {o0 o1 o2 : Option Value} {tl : List (Option Value)} {x : Nat} (hd : decode Y.2.1 pc = .ok (.aload_n 3, 1)) (hq : pc + 1 = q) (kk : pj_V E B l Y d mc ms q (o0 :: o1 :: o2 :: some (.ref x) :: tl) (.ref x :: st) h n ce sl Q) : pj_V E B l Y d mc ms pc (o0 :: o1 :: o2 :: some (.ref x) :: tl) st h n ce sl Q := by
  subst hq
  intro p e s m args below meth c H locs la S hr hk hn hW hH hS hL
  exact lv_aload_n S.1 S.2.1 hd rfl (hL.at rfl) (kk p e s m args below meth c H locs la S hr hk hn hW hH hS hL)
theorem pj_aldN3 {o0 o1 o2 : Option Value} {tl : List (Option Value)} (hd : decode Y.2.1 pc = .ok (.aload_n 3, 1)) (hq : pc + 1 = q) (kk : pj_V E B l Y d mc ms q (o0 :: o1 :: o2 :: some .null :: tl) (.null :: st) h n ce sl Q) : pj_V E B l Y d mc ms pc (o0 :: o1 :: o2 :: some .null :: tl) st h n ce sl Q := by
  subst hq
  intro p e s m args below meth c H locs la S hr hk hn hW hH hS hL
  exact lv_aload_nN S.1 S.2.1 hd rfl (hL.at rfl) (kk p e s m args below meth c H locs la S hr hk hn hW hH hS hL)
theorem pj_ild4 {o0 o1 o2 o3 : Option Value} {tl : List (Option Value)} {x : Int32} (hd : decode Y.2.1 pc = .ok (.iload 4, 2)) (hq : pc + 2 = q) (kk : pj_V E B l Y d mc ms q (o0 :: o1 :: o2 :: o3 :: some (.int x) :: tl) (.int x :: st) h n ce sl Q) : pj_V E B l Y d mc ms pc (o0 :: o1 :: o2 :: o3 :: some (.int x) :: tl) st h n ce sl Q := by
  subst hq
  intro p e s m args below meth c H locs la S hr hk hn hW hH hS hL
  exact lv_iload S.1 S.2.1 hd (hL.at rfl) (kk p e s m args below meth c H locs la S hr hk hn hW hH hS hL)
theorem pj_lld4 {o0 o1 o2 o3 : Option Value} {tl : List (Option Value)} {x : Int64} (hd : decode Y.2.1 pc = .ok (.lload 4, 2)) (hq : pc + 2 = q) (kk : pj_V E B l Y d mc ms q (o0 :: o1 :: o2 :: o3 :: some (.long x) :: tl) (.long x :: st) h n ce sl Q) : pj_V E B l Y d mc ms pc (o0 :: o1 :: o2 :: o3 :: some (.long x) :: tl) st h n ce sl Q := by
  subst hq
  intro p e s m args below meth c H locs la S hr hk hn hW hH hS hL
  exact lv_lload S.1 S.2.1 hd (hL.at rfl) (kk p e s m args below meth c H locs la S hr hk hn hW hH hS hL)
theorem pj_ald4 {o0 o1 o2 o3 : Option Value} {tl : List (Option Value)} {x : Nat} (hd : decode Y.2.1 pc = .ok (.aload 4, 2)) (hq : pc + 2 = q) (kk : pj_V E B l Y d mc ms q (o0 :: o1 :: o2 :: o3 :: some (.ref x) :: tl) (.ref x :: st) h n ce sl Q) : pj_V E B l Y d mc ms pc (o0 :: o1 :: o2 :: o3 :: some (.ref x) :: tl) st h n ce sl Q := by
  subst hq
  intro p e s m args below meth c H locs la S hr hk hn hW hH hS hL
  exact lv_aload S.1 S.2.1 hd (hL.at rfl) (kk p e s m args below meth c H locs la S hr hk hn hW hH hS hL)
theorem pj_ild5 {o0 o1 o2 o3 o4 : Option Value} {tl : List (Option Value)} {x : Int32} (hd : decode Y.2.1 pc = .ok (.iload 5, 2)) (hq : pc + 2 = q) (kk : pj_V E B l Y d mc ms q (o0 :: o1 :: o2 :: o3 :: o4 :: some (.int x) :: tl) (.int x :: st) h n ce sl Q) : pj_V E B l Y d mc ms pc (o0 :: o1 :: o2 :: o3 :: o4 :: some (.int x) :: tl) st h n ce sl Q := by
  subst hq
  intro p e s m args below meth c H locs la S hr hk hn hW hH hS hL
  exact lv_iload S.1 S.2.1 hd (hL.at rfl) (kk p e s m args below meth c H locs la S hr hk hn hW hH hS hL)
theorem pj_lld5 {o0 o1 o2 o3 o4 : Option Value} {tl : List (Option Value)} {x : Int64} (hd : decode Y.2.1 pc = .ok (.lload 5, 2)) (hq : pc + 2 = q) (kk : pj_V E B l Y d mc ms q (o0 :: o1 :: o2 :: o3 :: o4 :: some (.long x) :: tl) (.long x :: st) h n ce sl Q) : pj_V E B l Y d mc ms pc (o0 :: o1 :: o2 :: o3 :: o4 :: some (.long x) :: tl) st h n ce sl Q := by
  subst hq
  intro p e s m args below meth c H locs la S hr hk hn hW hH hS hL
  exact lv_lload S.1 S.2.1 hd (hL.at rfl) (kk p e s m args below meth c H locs la S hr hk hn hW hH hS hL)
theorem pj_ald5 {o0 o1 o2 o3 o4 : Option Value} {tl : List (Option Value)} {x : Nat} (hd : decode Y.2.1 pc = .ok (.aload 5, 2)) (hq : pc + 2 = q) (kk : pj_V E B l Y d mc ms q (o0 :: o1 :: o2 :: o3 :: o4 :: some (.ref x) :: tl) (.ref x :: st) h n ce sl Q) : pj_V E B l Y d mc ms pc (o0 :: o1 :: o2 :: o3 :: o4 :: some (.ref x) :: tl) st h n ce sl Q := by
  subst hq
  intro p e s m args below meth c H locs la S hr hk hn hW hH hS hL
  exact lv_aload S.1 S.2.1 hd (hL.at rfl) (kk p e s m args below meth c H locs la S hr hk hn hW hH hS hL)
theorem pj_ild6 {o0 o1 o2 o3 o4 o5 : Option Value} {tl : List (Option Value)} {x : Int32} (hd : decode Y.2.1 pc = .ok (.iload 6, 2)) (hq : pc + 2 = q) (kk : pj_V E B l Y d mc ms q (o0 :: o1 :: o2 :: o3 :: o4 :: o5 :: some (.int x) :: tl) (.int x :: st) h n ce sl Q) : pj_V E B l Y d mc ms pc (o0 :: o1 :: o2 :: o3 :: o4 :: o5 :: some (.int x) :: tl) st h n ce sl Q := by
  subst hq
  intro p e s m args below meth c H locs la S hr hk hn hW hH hS hL
  exact lv_iload S.1 S.2.1 hd (hL.at rfl) (kk p e s m args below meth c H locs la S hr hk hn hW hH hS hL)
theorem pj_lld6 {o0 o1 o2 o3 o4 o5 : Option Value} {tl : List (Option Value)} {x : Int64} (hd : decode Y.2.1 pc = .ok (.lload 6, 2)) (hq : pc + 2 = q) (kk : pj_V E B l Y d mc ms q (o0 :: o1 :: o2 :: o3 :: o4 :: o5 :: some (.long x) :: tl) (.long x :: st) h n ce sl Q) : pj_V E B l Y d mc ms pc (o0 :: o1 :: o2 :: o3 :: o4 :: o5 :: some (.long x) :: tl) st h n ce sl Q := by
  subst hq
  intro p e s m args below meth c H locs la S hr hk hn hW hH hS hL
  exact lv_lload S.1 S.2.1 hd (hL.at rfl) (kk p e s m args below meth c H locs la S hr hk hn hW hH hS hL)
theorem pj_ald6 {o0 o1 o2 o3 o4 o5 : Option Value} {tl : List (Option Value)} {x : Nat} (hd : decode Y.2.1 pc = .ok (.aload 6, 2)) (hq : pc + 2 = q) (kk : pj_V E B l Y d mc ms q (o0 :: o1 :: o2 :: o3 :: o4 :: o5 :: some (.ref x) :: tl) (.ref x :: st) h n ce sl Q) : pj_V E B l Y d mc ms pc (o0 :: o1 :: o2 :: o3 :: o4 :: o5 :: some (.ref x) :: tl) st h n ce sl Q := by
  subst hq
  intro p e s m args below meth c H locs la S hr hk hn hW hH hS hL
  exact lv_aload S.1 S.2.1 hd (hL.at rfl) (kk p e s m args below meth c H locs la S hr hk hn hW hH hS hL)
theorem pj_ild7 {o0 o1 o2 o3 o4 o5 o6 : Option Value} {tl : List (Option Value)} {x : Int32} (hd : decode Y.2.1 pc = .ok (.iload 7, 2)) (hq : pc + 2 = q) (kk : pj_V E B l Y d mc ms q (o0 :: o1 :: o2 :: o3 :: o4 :: o5 :: o6 :: some (.int x) :: tl) (.int x :: st) h n ce sl Q) : pj_V E B l Y d mc ms pc (o0 :: o1 :: o2 :: o3 :: o4 :: o5 :: o6 :: some (.int x) :: tl) st h n ce sl Q := by
  subst hq
  intro p e s m args below meth c H locs la S hr hk hn hW hH hS hL
  exact lv_iload S.1 S.2.1 hd (hL.at rfl) (kk p e s m args below meth c H locs la S hr hk hn hW hH hS hL)
theorem pj_lld7 {o0 o1 o2 o3 o4 o5 o6 : Option Value} {tl : List (Option Value)} {x : Int64} (hd : decode Y.2.1 pc = .ok (.lload 7, 2)) (hq : pc + 2 = q) (kk : pj_V E B l Y d mc ms q (o0 :: o1 :: o2 :: o3 :: o4 :: o5 :: o6 :: some (.long x) :: tl) (.long x :: st) h n ce sl Q) : pj_V E B l Y d mc ms pc (o0 :: o1 :: o2 :: o3 :: o4 :: o5 :: o6 :: some (.long x) :: tl) st h n ce sl Q := by
  subst hq
  intro p e s m args below meth c H locs la S hr hk hn hW hH hS hL
  exact lv_lload S.1 S.2.1 hd (hL.at rfl) (kk p e s m args below meth c H locs la S hr hk hn hW hH hS hL)
theorem pj_ald7 {o0 o1 o2 o3 o4 o5 o6 : Option Value} {tl : List (Option Value)} {x : Nat} (hd : decode Y.2.1 pc = .ok (.aload 7, 2)) (hq : pc + 2 = q) (kk : pj_V E B l Y d mc ms q (o0 :: o1 :: o2 :: o3 :: o4 :: o5 :: o6 :: some (.ref x) :: tl) (.ref x :: st) h n ce sl Q) : pj_V E B l Y d mc ms pc (o0 :: o1 :: o2 :: o3 :: o4 :: o5 :: o6 :: some (.ref x) :: tl) st h n ce sl Q := by
  subst hq
  intro p e s m args below meth c H locs la S hr hk hn hW hH hS hL
  exact lv_aload S.1 S.2.1 hd (hL.at rfl) (kk p e s m args below meth c H locs la S hr hk hn hW hH hS hL)
theorem pj_ild8 {o0 o1 o2 o3 o4 o5 o6 o7 : Option Value} {tl : List (Option Value)} {x : Int32} (hd : decode Y.2.1 pc = .ok (.iload 8, 2)) (hq : pc + 2 = q) (kk : pj_V E B l Y d mc ms q (o0 :: o1 :: o2 :: o3 :: o4 :: o5 :: o6 :: o7 :: some (.int x) :: tl) (.int x :: st) h n ce sl Q) : pj_V E B l Y d mc ms pc (o0 :: o1 :: o2 :: o3 :: o4 :: o5 :: o6 :: o7 :: some (.int x) :: tl) st h n ce sl Q := by
  subst hq
  intro p e s m args below meth c H locs la S hr hk hn hW hH hS hL
  exact lv_iload S.1 S.2.1 hd (hL.at rfl) (kk p e s m args below meth c H locs la S hr hk hn hW hH hS hL)
theorem pj_lld8 {o0 o1 o2 o3 o4 o5 o6 o7 : Option Value} {tl : List (Option Value)} {x : Int64} (hd : decode Y.2.1 pc = .ok (.lload 8, 2)) (hq : pc + 2 = q) (kk : pj_V E B l Y d mc ms q (o0 :: o1 :: o2 :: o3 :: o4 :: o5 :: o6 :: o7 :: some (.long x) :: tl) (.long x :: st) h n ce sl Q) : pj_V E B l Y d mc ms pc (o0 :: o1 :: o2 :: o3 :: o4 :: o5 :: o6 :: o7 :: some (.long x) :: tl) st h n ce sl Q := by
  subst hq
  intro p e s m args below meth c H locs la S hr hk hn hW hH hS hL
  exact lv_lload S.1 S.2.1 hd (hL.at rfl) (kk p e s m args below meth c H locs la S hr hk hn hW hH hS hL)
theorem pj_ald8 {o0 o1 o2 o3 o4 o5 o6 o7 : Option Value} {tl : List (Option Value)} {x : Nat} (hd : decode Y.2.1 pc = .ok (.aload 8, 2)) (hq : pc + 2 = q) (kk : pj_V E B l Y d mc ms q (o0 :: o1 :: o2 :: o3 :: o4 :: o5 :: o6 :: o7 :: some (.ref x) :: tl) (.ref x :: st) h n ce sl Q) : pj_V E B l Y d mc ms pc (o0 :: o1 :: o2 :: o3 :: o4 :: o5 :: o6 :: o7 :: some (.ref x) :: tl) st h n ce sl Q := by
  subst hq
  intro p e s m args below meth c H locs la S hr hk hn hW hH hS hL
  exact lv_aload S.1 S.2.1 hd (hL.at rfl) (kk p e s m args below meth c H locs la S hr hk hn hW hH hS hL)
theorem pj_ild9 {o0 o1 o2 o3 o4 o5 o6 o7 o8 : Option Value} {tl : List (Option Value)} {x : Int32} (hd : decode Y.2.1 pc = .ok (.iload 9, 2)) (hq : pc + 2 = q) (kk : pj_V E B l Y d mc ms q (o0 :: o1 :: o2 :: o3 :: o4 :: o5 :: o6 :: o7 :: o8 :: some (.int x) :: tl) (.int x :: st) h n ce sl Q) : pj_V E B l Y d mc ms pc (o0 :: o1 :: o2 :: o3 :: o4 :: o5 :: o6 :: o7 :: o8 :: some (.int x) :: tl) st h n ce sl Q := by
  subst hq
  intro p e s m args below meth c H locs la S hr hk hn hW hH hS hL
  exact lv_iload S.1 S.2.1 hd (hL.at rfl) (kk p e s m args below meth c H locs la S hr hk hn hW hH hS hL)
theorem pj_lld9 {o0 o1 o2 o3 o4 o5 o6 o7 o8 : Option Value} {tl : List (Option Value)} {x : Int64} (hd : decode Y.2.1 pc = .ok (.lload 9, 2)) (hq : pc + 2 = q) (kk : pj_V E B l Y d mc ms q (o0 :: o1 :: o2 :: o3 :: o4 :: o5 :: o6 :: o7 :: o8 :: some (.long x) :: tl) (.long x :: st) h n ce sl Q) : pj_V E B l Y d mc ms pc (o0 :: o1 :: o2 :: o3 :: o4 :: o5 :: o6 :: o7 :: o8 :: some (.long x) :: tl) st h n ce sl Q := by
  subst hq
  intro p e s m args below meth c H locs la S hr hk hn hW hH hS hL
  exact lv_lload S.1 S.2.1 hd (hL.at rfl) (kk p e s m args below meth c H locs la S hr hk hn hW hH hS hL)
theorem pj_ald9 {o0 o1 o2 o3 o4 o5 o6 o7 o8 : Option Value} {tl : List (Option Value)} {x : Nat} (hd : decode Y.2.1 pc = .ok (.aload 9, 2)) (hq : pc + 2 = q) (kk : pj_V E B l Y d mc ms q (o0 :: o1 :: o2 :: o3 :: o4 :: o5 :: o6 :: o7 :: o8 :: some (.ref x) :: tl) (.ref x :: st) h n ce sl Q) : pj_V E B l Y d mc ms pc (o0 :: o1 :: o2 :: o3 :: o4 :: o5 :: o6 :: o7 :: o8 :: some (.ref x) :: tl) st h n ce sl Q := by
  subst hq
  intro p e s m args below meth c H locs la S hr hk hn hW hH hS hL
  exact lv_aload S.1 S.2.1 hd (hL.at rfl) (kk p e s m args below meth c H locs la S hr hk hn hW hH hS hL)
theorem pj_ild10 {o0 o1 o2 o3 o4 o5 o6 o7 o8 o9 : Option Value} {tl : List (Option Value)} {x : Int32} (hd : decode Y.2.1 pc = .ok (.iload 10, 2)) (hq : pc + 2 = q) (kk : pj_V E B l Y d mc ms q (o0 :: o1 :: o2 :: o3 :: o4 :: o5 :: o6 :: o7 :: o8 :: o9 :: some (.int x) :: tl) (.int x :: st) h n ce sl Q) : pj_V E B l Y d mc ms pc (o0 :: o1 :: o2 :: o3 :: o4 :: o5 :: o6 :: o7 :: o8 :: o9 :: some (.int x) :: tl) st h n ce sl Q := by
  subst hq
  intro p e s m args below meth c H locs la S hr hk hn hW hH hS hL
  exact lv_iload S.1 S.2.1 hd (hL.at rfl) (kk p e s m args below meth c H locs la S hr hk hn hW hH hS hL)
theorem pj_lld10 {o0 o1 o2 o3 o4 o5 o6 o7 o8 o9 : Option Value} {tl : List (Option Value)} {x : Int64} (hd : decode Y.2.1 pc = .ok (.lload 10, 2)) (hq : pc + 2 = q) (kk : pj_V E B l Y d mc ms q (o0 :: o1 :: o2 :: o3 :: o4 :: o5 :: o6 :: o7 :: o8 :: o9 :: some (.long x) :: tl) (.long x :: st) h n ce sl Q) : pj_V E B l Y d mc ms pc (o0 :: o1 :: o2 :: o3 :: o4 :: o5 :: o6 :: o7 :: o8 :: o9 :: some (.long x) :: tl) st h n ce sl Q := by
  subst hq
  intro p e s m args below meth c H locs la S hr hk hn hW hH hS hL
  exact lv_lload S.1 S.2.1 hd (hL.at rfl) (kk p e s m args below meth c H locs la S hr hk hn hW hH hS hL)
theorem pj_ald10 {o0 o1 o2 o3 o4 o5 o6 o7 o8 o9 : Option Value} {tl : List (Option Value)} {x : Nat} (hd : decode Y.2.1 pc = .ok (.aload 10, 2)) (hq : pc + 2 = q) (kk : pj_V E B l Y d mc ms q (o0 :: o1 :: o2 :: o3 :: o4 :: o5 :: o6 :: o7 :: o8 :: o9 :: some (.ref x) :: tl) (.ref x :: st) h n ce sl Q) : pj_V E B l Y d mc ms pc (o0 :: o1 :: o2 :: o3 :: o4 :: o5 :: o6 :: o7 :: o8 :: o9 :: some (.ref x) :: tl) st h n ce sl Q := by
  subst hq
  intro p e s m args below meth c H locs la S hr hk hn hW hH hS hL
  exact lv_aload S.1 S.2.1 hd (hL.at rfl) (kk p e s m args below meth c H locs la S hr hk hn hW hH hS hL)
theorem pj_ild11 {o0 o1 o2 o3 o4 o5 o6 o7 o8 o9 o10 : Option Value} {tl : List (Option Value)} {x : Int32} (hd : decode Y.2.1 pc = .ok (.iload 11, 2)) (hq : pc + 2 = q) (kk : pj_V E B l Y d mc ms q (o0 :: o1 :: o2 :: o3 :: o4 :: o5 :: o6 :: o7 :: o8 :: o9 :: o10 :: some (.int x) :: tl) (.int x :: st) h n ce sl Q) : pj_V E B l Y d mc ms pc (o0 :: o1 :: o2 :: o3 :: o4 :: o5 :: o6 :: o7 :: o8 :: o9 :: o10 :: some (.int x) :: tl) st h n ce sl Q := by
  subst hq
  intro p e s m args below meth c H locs la S hr hk hn hW hH hS hL
  exact lv_iload S.1 S.2.1 hd (hL.at rfl) (kk p e s m args below meth c H locs la S hr hk hn hW hH hS hL)
theorem pj_lld11 {o0 o1 o2 o3 o4 o5 o6 o7 o8 o9 o10 : Option Value} {tl : List (Option Value)} {x : Int64} (hd : decode Y.2.1 pc = .ok (.lload 11, 2)) (hq : pc + 2 = q) (kk : pj_V E B l Y d mc ms q (o0 :: o1 :: o2 :: o3 :: o4 :: o5 :: o6 :: o7 :: o8 :: o9 :: o10 :: some (.long x) :: tl) (.long x :: st) h n ce sl Q) : pj_V E B l Y d mc ms pc (o0 :: o1 :: o2 :: o3 :: o4 :: o5 :: o6 :: o7 :: o8 :: o9 :: o10 :: some (.long x) :: tl) st h n ce sl Q := by
  subst hq
  intro p e s m args below meth c H locs la S hr hk hn hW hH hS hL
  exact lv_lload S.1 S.2.1 hd (hL.at rfl) (kk p e s m args below meth c H locs la S hr hk hn hW hH hS hL)
theorem pj_ald11 {o0 o1 o2 o3 o4 o5 o6 o7 o8 o9 o10 : Option Value} {tl : List (Option Value)} {x : Nat} (hd : decode Y.2.1 pc = .ok (.aload 11, 2)) (hq : pc + 2 = q) (kk : pj_V E B l Y d mc ms q (o0 :: o1 :: o2 :: o3 :: o4 :: o5 :: o6 :: o7 :: o8 :: o9 :: o10 :: some (.ref x) :: tl) (.ref x :: st) h n ce sl Q) : pj_V E B l Y d mc ms pc (o0 :: o1 :: o2 :: o3 :: o4 :: o5 :: o6 :: o7 :: o8 :: o9 :: o10 :: some (.ref x) :: tl) st h n ce sl Q := by
  subst hq
  intro p e s m args below meth c H locs la S hr hk hn hW hH hS hL
  exact lv_aload S.1 S.2.1 hd (hL.at rfl) (kk p e s m args below meth c H locs la S hr hk hn hW hH hS hL)
theorem pj_ild12 {o0 o1 o2 o3 o4 o5 o6 o7 o8 o9 o10 o11 : Option Value} {tl : List (Option Value)} {x : Int32} (hd : decode Y.2.1 pc = .ok (.iload 12, 2)) (hq : pc + 2 = q) (kk : pj_V E B l Y d mc ms q (o0 :: o1 :: o2 :: o3 :: o4 :: o5 :: o6 :: o7 :: o8 :: o9 :: o10 :: o11 :: some (.int x) :: tl) (.int x :: st) h n ce sl Q) : pj_V E B l Y d mc ms pc (o0 :: o1 :: o2 :: o3 :: o4 :: o5 :: o6 :: o7 :: o8 :: o9 :: o10 :: o11 :: some (.int x) :: tl) st h n ce sl Q := by
  subst hq
  intro p e s m args below meth c H locs la S hr hk hn hW hH hS hL
  exact lv_iload S.1 S.2.1 hd (hL.at rfl) (kk p e s m args below meth c H locs la S hr hk hn hW hH hS hL)
theorem pj_lld12 {o0 o1 o2 o3 o4 o5 o6 o7 o8 o9 o10 o11 : Option Value} {tl : List (Option Value)} {x : Int64} (hd : decode Y.2.1 pc = .ok (.lload 12, 2)) (hq : pc + 2 = q) (kk : pj_V E B l Y d mc ms q (o0 :: o1 :: o2 :: o3 :: o4 :: o5 :: o6 :: o7 :: o8 :: o9 :: o10 :: o11 :: some (.long x) :: tl) (.long x :: st) h n ce sl Q) : pj_V E B l Y d mc ms pc (o0 :: o1 :: o2 :: o3 :: o4 :: o5 :: o6 :: o7 :: o8 :: o9 :: o10 :: o11 :: some (.long x) :: tl) st h n ce sl Q := by
  subst hq
  intro p e s m args below meth c H locs la S hr hk hn hW hH hS hL
  exact lv_lload S.1 S.2.1 hd (hL.at rfl) (kk p e s m args below meth c H locs la S hr hk hn hW hH hS hL)
theorem pj_ald12 {o0 o1 o2 o3 o4 o5 o6 o7 o8 o9 o10 o11 : Option Value} {tl : List (Option Value)} {x : Nat} (hd : decode Y.2.1 pc = .ok (.aload 12, 2)) (hq : pc + 2 = q) (kk : pj_V E B l Y d mc ms q (o0 :: o1 :: o2 :: o3 :: o4 :: o5 :: o6 :: o7 :: o8 :: o9 :: o10 :: o11 :: some (.ref x) :: tl) (.ref x :: st) h n ce sl Q) : pj_V E B l Y d mc ms pc (o0 :: o1 :: o2 :: o3 :: o4 :: o5 :: o6 :: o7 :: o8 :: o9 :: o10 :: o11 :: some (.ref x) :: tl) st h n ce sl Q := by
  subst hq
  intro p e s m args below meth c H locs la S hr hk hn hW hH hS hL
  exact lv_aload S.1 S.2.1 hd (hL.at rfl) (kk p e s m args below meth c H locs la S hr hk hn hW hH hS hL)
theorem pj_ild13 {o0 o1 o2 o3 o4 o5 o6 o7 o8 o9 o10 o11 o12 : Option Value} {tl : List (Option Value)} {x : Int32} (hd : decode Y.2.1 pc = .ok (.iload 13, 2)) (hq : pc + 2 = q) (kk : pj_V E B l Y d mc ms q (o0 :: o1 :: o2 :: o3 :: o4 :: o5 :: o6 :: o7 :: o8 :: o9 :: o10 :: o11 :: o12 :: some (.int x) :: tl) (.int x :: st) h n ce sl Q) : pj_V E B l Y d mc ms pc (o0 :: o1 :: o2 :: o3 :: o4 :: o5 :: o6 :: o7 :: o8 :: o9 :: o10 :: o11 :: o12 :: some (.int x) :: tl) st h n ce sl Q := by
  subst hq
  intro p e s m args below meth c H locs la S hr hk hn hW hH hS hL
  exact lv_iload S.1 S.2.1 hd (hL.at rfl) (kk p e s m args below meth c H locs la S hr hk hn hW hH hS hL)
theorem pj_lld13 {o0 o1 o2 o3 o4 o5 o6 o7 o8 o9 o10 o11 o12 : Option Value} {tl : List (Option Value)} {x : Int64} (hd : decode Y.2.1 pc = .ok (.lload 13, 2)) (hq : pc + 2 = q) (kk : pj_V E B l Y d mc ms q (o0 :: o1 :: o2 :: o3 :: o4 :: o5 :: o6 :: o7 :: o8 :: o9 :: o10 :: o11 :: o12 :: some (.long x) :: tl) (.long x :: st) h n ce sl Q) : pj_V E B l Y d mc ms pc (o0 :: o1 :: o2 :: o3 :: o4 :: o5 :: o6 :: o7 :: o8 :: o9 :: o10 :: o11 :: o12 :: some (.long x) :: tl) st h n ce sl Q := by
  subst hq
  intro p e s m args below meth c H locs la S hr hk hn hW hH hS hL
  exact lv_lload S.1 S.2.1 hd (hL.at rfl) (kk p e s m args below meth c H locs la S hr hk hn hW hH hS hL)
theorem pj_ald13 {o0 o1 o2 o3 o4 o5 o6 o7 o8 o9 o10 o11 o12 : Option Value} {tl : List (Option Value)} {x : Nat} (hd : decode Y.2.1 pc = .ok (.aload 13, 2)) (hq : pc + 2 = q) (kk : pj_V E B l Y d mc ms q (o0 :: o1 :: o2 :: o3 :: o4 :: o5 :: o6 :: o7 :: o8 :: o9 :: o10 :: o11 :: o12 :: some (.ref x) :: tl) (.ref x :: st) h n ce sl Q) : pj_V E B l Y d mc ms pc (o0 :: o1 :: o2 :: o3 :: o4 :: o5 :: o6 :: o7 :: o8 :: o9 :: o10 :: o11 :: o12 :: some (.ref x) :: tl) st h n ce sl Q := by
  subst hq
  intro p e s m args below meth c H locs la S hr hk hn hW hH hS hL
  exact lv_aload S.1 S.2.1 hd (hL.at rfl) (kk p e s m args below meth c H locs la S hr hk hn hW hH hS hL)
theorem pj_ild14 {o0 o1 o2 o3 o4 o5 o6 o7 o8 o9 o10 o11 o12 o13 : Option Value} {tl : List (Option Value)} {x : Int32} (hd : decode Y.2.1 pc = .ok (.iload 14, 2)) (hq : pc + 2 = q) (kk : pj_V E B l Y d mc ms q (o0 :: o1 :: o2 :: o3 :: o4 :: o5 :: o6 :: o7 :: o8 :: o9 :: o10 :: o11 :: o12 :: o13 :: some (.int x) :: tl) (.int x :: st) h n ce sl Q) : pj_V E B l Y d mc ms pc (o0 :: o1 :: o2 :: o3 :: o4 :: o5 :: o6 :: o7 :: o8 :: o9 :: o10 :: o11 :: o12 :: o13 :: some (.int x) :: tl) st h n ce sl Q := by
  subst hq
  intro p e s m args below meth c H locs la S hr hk hn hW hH hS hL
  exact lv_iload S.1 S.2.1 hd (hL.at rfl) (kk p e s m args below meth c H locs la S hr hk hn hW hH hS hL)
theorem pj_lld14 {o0 o1 o2 o3 o4 o5 o6 o7 o8 o9 o10 o11 o12 o13 : Option Value} {tl : List (Option Value)} {x : Int64} (hd : decode Y.2.1 pc = .ok (.lload 14, 2)) (hq : pc + 2 = q) (kk : pj_V E B l Y d mc ms q (o0 :: o1 :: o2 :: o3 :: o4 :: o5 :: o6 :: o7 :: o8 :: o9 :: o10 :: o11 :: o12 :: o13 :: some (.long x) :: tl) (.long x :: st) h n ce sl Q) : pj_V E B l Y d mc ms pc (o0 :: o1 :: o2 :: o3 :: o4 :: o5 :: o6 :: o7 :: o8 :: o9 :: o10 :: o11 :: o12 :: o13 :: some (.long x) :: tl) st h n ce sl Q := by
  subst hq
  intro p e s m args below meth c H locs la S hr hk hn hW hH hS hL
  exact lv_lload S.1 S.2.1 hd (hL.at rfl) (kk p e s m args below meth c H locs la S hr hk hn hW hH hS hL)
theorem pj_ald14 {o0 o1 o2 o3 o4 o5 o6 o7 o8 o9 o10 o11 o12 o13 : Option Value} {tl : List (Option Value)} {x : Nat} (hd : decode Y.2.1 pc = .ok (.aload 14, 2)) (hq : pc + 2 = q) (kk : pj_V E B l Y d mc ms q (o0 :: o1 :: o2 :: o3 :: o4 :: o5 :: o6 :: o7 :: o8 :: o9 :: o10 :: o11 :: o12 :: o13 :: some (.ref x) :: tl) (.ref x :: st) h n ce sl Q) : pj_V E B l Y d mc ms pc (o0 :: o1 :: o2 :: o3 :: o4 :: o5 :: o6 :: o7 :: o8 :: o9 :: o10 :: o11 :: o12 :: o13 :: some (.ref x) :: tl) st h n ce sl Q := by
  subst hq
  intro p e s m args below meth c H locs la S hr hk hn hW hH hS hL
  exact lv_aload S.1 S.2.1 hd (hL.at rfl) (kk p e s m args below meth c H locs la S hr hk hn hW hH hS hL)
theorem pj_ild15 {o0 o1 o2 o3 o4 o5 o6 o7 o8 o9 o10 o11 o12 o13 o14 : Option Value} {tl : List (Option Value)} {x : Int32} (hd : decode Y.2.1 pc = .ok (.iload 15, 2)) (hq : pc + 2 = q) (kk : pj_V E B l Y d mc ms q (o0 :: o1 :: o2 :: o3 :: o4 :: o5 :: o6 :: o7 :: o8 :: o9 :: o10 :: o11 :: o12 :: o13 :: o14 :: some (.int x) :: tl) (.int x :: st) h n ce sl Q) : pj_V E B l Y d mc ms pc (o0 :: o1 :: o2 :: o3 :: o4 :: o5 :: o6 :: o7 :: o8 :: o9 :: o10 :: o11 :: o12 :: o13 :: o14 :: some (.int x) :: tl) st h n ce sl Q := by
  subst hq
  intro p e s m args below meth c H locs la S hr hk hn hW hH hS hL
  exact lv_iload S.1 S.2.1 hd (hL.at rfl) (kk p e s m args below meth c H locs la S hr hk hn hW hH hS hL)
theorem pj_lld15 {o0 o1 o2 o3 o4 o5 o6 o7 o8 o9 o10 o11 o12 o13 o14 : Option Value} {tl : List (Option Value)} {x : Int64} (hd : decode Y.2.1 pc = .ok (.lload 15, 2)) (hq : pc + 2 = q) (kk : pj_V E B l Y d mc ms q (o0 :: o1 :: o2 :: o3 :: o4 :: o5 :: o6 :: o7 :: o8 :: o9 :: o10 :: o11 :: o12 :: o13 :: o14 :: some (.long x) :: tl) (.long x :: st) h n ce sl Q) : pj_V E B l Y d mc ms pc (o0 :: o1 :: o2 :: o3 :: o4 :: o5 :: o6 :: o7 :: o8 :: o9 :: o10 :: o11 :: o12 :: o13 :: o14 :: some (.long x) :: tl) st h n ce sl Q := by
  subst hq
  intro p e s m args below meth c H locs la S hr hk hn hW hH hS hL
  exact lv_lload S.1 S.2.1 hd (hL.at rfl) (kk p e s m args below meth c H locs la S hr hk hn hW hH hS hL)
theorem pj_ald15 {o0 o1 o2 o3 o4 o5 o6 o7 o8 o9 o10 o11 o12 o13 o14 : Option Value} {tl : List (Option Value)} {x : Nat} (hd : decode Y.2.1 pc = .ok (.aload 15, 2)) (hq : pc + 2 = q) (kk : pj_V E B l Y d mc ms q (o0 :: o1 :: o2 :: o3 :: o4 :: o5 :: o6 :: o7 :: o8 :: o9 :: o10 :: o11 :: o12 :: o13 :: o14 :: some (.ref x) :: tl) (.ref x :: st) h n ce sl Q) : pj_V E B l Y d mc ms pc (o0 :: o1 :: o2 :: o3 :: o4 :: o5 :: o6 :: o7 :: o8 :: o9 :: o10 :: o11 :: o12 :: o13 :: o14 :: some (.ref x) :: tl) st h n ce sl Q := by
  subst hq
  intro p e s m args below meth c H locs la S hr hk hn hW hH hS hL
  exact lv_aload S.1 S.2.1 hd (hL.at rfl) (kk p e s m args below meth c H locs la S hr hk hn hW hH hS hL)
def pj_c1 (o : Option Value) : Bool := match o with
  | none => true
  | some v => v.category == 1
theorem pj_L.set1 {la la' : Array Slot} {nL i : Nat} {ls : List (Option Value)} {v : Value} (hL : pj_L la nL ls) (hi : i < nL) (hp : ∀ o, 0 < i → ls[i - 1]? = some o → pj_c1 o = true) (h' : lv_has la' nL ((i, v) :: (pj_as 0 ls).filter (fun q => !(q.1 == i) && !(q.1 + 1 == i && q.2.category == 2)))) : pj_L la' nL (ls.set i (some v)) := by
  refine ⟨⟨h'.1, h'.2.1, ?_⟩, by rw [List.length_set]; exact hL.2⟩
  rintro ⟨j, w⟩ hj
  obtain ⟨k, h1, h2⟩ := (pj_as_mem _ 0 j w).mp hj
  have hjk : j = k := by omega
  subst hjk
  by_cases hji : j = i
  · subst hji
    rw [List.getElem?_set_self (by rw [hL.2]; exact hi)] at h2
    have : w = v := by injection h2 with h2; injection h2 with h2; exact h2.symm
    subst this
    exact h'.2.2 _ List.mem_cons_self
  · rw [List.getElem?_set_ne (Ne.symm hji)] at h2
    refine h'.2.2 (j, w) (List.mem_cons_of_mem _ (List.mem_filter.mpr ⟨(pj_as_mem ls 0 j w).mpr ⟨j, by omega, h2⟩, ?_⟩))
    simp only [Bool.and_eq_true, Bool.not_eq_true', beq_eq_false_iff_ne, ne_eq, Bool.and_eq_false_iff]
    refine ⟨hji, ?_⟩
    by_cases hj1 : j + 1 = i
    · right
      have := hp (some w) (by omega) (by rw [← h2]; congr 1; omega)
      simp only [pj_c1, beq_iff_eq] at this
      omega
    · left; exact hj1
theorem pj_L.set2 {la la' : Array Slot} {nL i : Nat} {ls : List (Option Value)} {v : Value} (hL : pj_L la nL ls) (hi : i + 1 < nL) (hp : ∀ o, 0 < i → ls[i - 1]? = some o → pj_c1 o = true) (h' : lv_has la' nL ((i, v) :: (pj_as 0 ls).filter (fun q => !(q.1 == i) && (!(q.1 == i + 1) && !(q.1 + 1 == i && q.2.category == 2))))) : pj_L la' nL ((ls.set i (some v)).set (i + 1) none) := by
  refine ⟨⟨h'.1, h'.2.1, ?_⟩, by rw [List.length_set, List.length_set]; exact hL.2⟩
  rintro ⟨j, w⟩ hj
  obtain ⟨k, h1, h2⟩ := (pj_as_mem _ 0 j w).mp hj
  have hjk : j = k := by omega
  subst hjk
  by_cases hj2 : j = i + 1
  · subst hj2
    rw [List.getElem?_set_self (by rw [List.length_set, hL.2]; exact hi)] at h2
    cases h2
  · rw [List.getElem?_set_ne (Ne.symm hj2)] at h2
    by_cases hji : j = i
    · subst hji
      rw [List.getElem?_set_self (by rw [hL.2]; omega)] at h2
      have : w = v := by injection h2 with h2; injection h2 with h2; exact h2.symm
      subst this
      exact h'.2.2 _ List.mem_cons_self
    · rw [List.getElem?_set_ne (Ne.symm hji)] at h2
      refine h'.2.2 (j, w) (List.mem_cons_of_mem _ (List.mem_filter.mpr ⟨(pj_as_mem ls 0 j w).mpr ⟨j, by omega, h2⟩, ?_⟩))
      simp only [Bool.and_eq_true, Bool.not_eq_true', beq_eq_false_iff_ne, ne_eq, Bool.and_eq_false_iff]
      refine ⟨hji, hj2, ?_⟩
      by_cases hj1 : j + 1 = i
      · right
        have := hp (some w) (by omega) (by rw [← h2]; congr 1; omega)
        simp only [pj_c1, beq_iff_eq] at this
        omega
      · left; exact hj1

theorem pj_ist0 {o0 : Option Value} {tl : List (Option Value)} {x : Int32} (hd : decode Y.2.1 pc = .ok (.istore_n 0, 1)) (hq : pc + 1 = q) (kk : pj_V E B l Y d mc ms q (some (.int x) :: tl) st h n ce sl Q) : pj_V E B l Y d mc ms pc (o0 :: tl) (.int x :: st) h n ce sl Q := by
  subst hq
  intro p e s m args below meth c H locs la S hr hk hn hW hH hS hL
  have hi : 0 < Y.2.2.1 := by rw [← hL.2]; simp only [List.length_cons]; omega
  exact lv_istore_n S.1 S.2.1 hd rfl hL.1 hi rfl (fun la' h' => kk p e s m args below meth c H locs la' S hr hk hn hW hH hS (hL.set1 hi (fun o z _ => absurd z (Nat.lt_irrefl 0)) h'))
theorem pj_ast0 {o0 : Option Value} {tl : List (Option Value)} {x : Nat} (hd : decode Y.2.1 pc = .ok (.astore_n 0, 1)) (hq : pc + 1 = q) (kk : pj_V E B l Y d mc ms q (some (.ref x) :: tl) st h n ce sl Q) : pj_V E B l Y d mc ms pc (o0 :: tl) (.ref x :: st) h n ce sl Q := by
  subst hq
  intro p e s m args below meth c H locs la S hr hk hn hW hH hS hL
  have hi : 0 < Y.2.2.1 := by rw [← hL.2]; simp only [List.length_cons]; omega
  exact lv_astore_n S.1 S.2.1 hd rfl hL.1 hi rfl (fun la' h' => kk p e s m args below meth c H locs la' S hr hk hn hW hH hS (hL.set1 hi (fun o z _ => absurd z (Nat.lt_irrefl 0)) h'))
theorem pj_astN0 {o0 : Option Value} {tl : List (Option Value)} (hd : decode Y.2.1 pc = .ok (.astore_n 0, 1)) (hq : pc + 1 = q) (kk : pj_V E B l Y d mc ms q (some .null :: tl) st h n ce sl Q) : pj_V E B l Y d mc ms pc (o0 :: tl) (.null :: st) h n ce sl Q := by
  subst hq
  intro p e s m args below meth c H locs la S hr hk hn hW hH hS hL
  have hi : 0 < Y.2.2.1 := by rw [← hL.2]; simp only [List.length_cons]; omega
  exact lv_astore_nN S.1 S.2.1 hd rfl hL.1 hi rfl (fun la' h' => kk p e s m args below meth c H locs la' S hr hk hn hW hH hS (hL.set1 hi (fun o z _ => absurd z (Nat.lt_irrefl 0)) h'))
theorem pj_lst0 {o0 : Option Value} {o' : Option Value} {tl : List (Option Value)} {x : Int64} (hd : decode Y.2.1 pc = .ok (.lstore_n 0, 1)) (hq : pc + 1 = q) (kk : pj_V E B l Y d mc ms q (some (.long x) :: none :: tl) st h n ce sl Q) : pj_V E B l Y d mc ms pc (o0 :: o' :: tl) (.long x :: st) h n ce sl Q := by
  subst hq
  intro p e s m args below meth c H locs la S hr hk hn hW hH hS hL
  have hi : 0 + 1 < Y.2.2.1 := by rw [← hL.2]; simp only [List.length_cons]; omega
  exact lv_lstore_n S.1 S.2.1 hd rfl hL.1 hi rfl (fun la' h' => kk p e s m args below meth c H locs la' S hr hk hn hW hH hS (hL.set2 hi (fun o z _ => absurd z (Nat.lt_irrefl 0)) h'))
theorem pj_iinc0 {tl : List (Option Value)} {k : Int} {x v : Int32} (hd : decode Y.2.1 pc = .ok (.iinc 0 k, 3)) (hq : pc + 3 = q) (hv : Int32.ofInt k = v) (kk : pj_V E B l Y d mc ms q (some (.int (x + v)) :: tl) st h n ce sl Q) : pj_V E B l Y d mc ms pc (some (.int x) :: tl) st h n ce sl Q := by
  subst hq
  subst hv
  intro p e s m args below meth c H locs la S hr hk hn hW hH hS hL
  have hi : 0 < Y.2.2.1 := by rw [← hL.2]; simp only [List.length_cons]; omega
  obtain ⟨j, hj⟩ := List.getElem?_of_mem ((pj_as_mem (some (.int x) :: tl) 0 0 (.int x)).mpr ⟨0, by omega, rfl⟩)
  exact lv_iinc S.1 S.2.1 hd hL.1 hj rfl hi rfl (fun la' h' => kk p e s m args below meth c H locs la' S hr hk hn hW hH hS (hL.set1 hi (fun o z _ => absurd z (Nat.lt_irrefl 0)) h'))
theorem pj_ist1 {o0 o1 : Option Value} {tl : List (Option Value)} {x : Int32} (hd : decode Y.2.1 pc = .ok (.istore_n 1, 1)) (hq : pc + 1 = q) (hp : pj_c1 o0 = true) (kk : pj_V E B l Y d mc ms q (o0 :: some (.int x) :: tl) st h n ce sl Q) : pj_V E B l Y d mc ms pc (o0 :: o1 :: tl) (.int x :: st) h n ce sl Q := by
  subst hq
  intro p e s m args below meth c H locs la S hr hk hn hW hH hS hL
  have hi : 1 < Y.2.2.1 := by rw [← hL.2]; simp only [List.length_cons]; omega
  exact lv_istore_n S.1 S.2.1 hd rfl hL.1 hi rfl (fun la' h' => kk p e s m args below meth c H locs la' S hr hk hn hW hH hS (hL.set1 hi (fun o _ z => by cases z; exact hp) h'))
theorem pj_ast1 {o0 o1 : Option Value} {tl : List (Option Value)} {x : Nat} (hd : decode Y.2.1 pc = .ok (.astore_n 1, 1)) (hq : pc + 1 = q) (hp : pj_c1 o0 = true) (kk : pj_V E B l Y d mc ms q (o0 :: some (.ref x) :: tl) st h n ce sl Q) : pj_V E B l Y d mc ms pc (o0 :: o1 :: tl) (.ref x :: st) h n ce sl Q := by
  subst hq
  intro p e s m args below meth c H locs la S hr hk hn hW hH hS hL
  have hi : 1 < Y.2.2.1 := by rw [← hL.2]; simp only [List.length_cons]; omega
  exact lv_astore_n S.1 S.2.1 hd rfl hL.1 hi rfl (fun la' h' => kk p e s m args below meth c H locs la' S hr hk hn hW hH hS (hL.set1 hi (fun o _ z => by cases z; exact hp) h'))
theorem pj_astN1 {o0 o1 : Option Value} {tl : List (Option Value)} (hd : decode Y.2.1 pc = .ok (.astore_n 1, 1)) (hq : pc + 1 = q) (hp : pj_c1 o0 = true) (kk : pj_V E B l Y d mc ms q (o0 :: some .null :: tl) st h n ce sl Q) : pj_V E B l Y d mc ms pc (o0 :: o1 :: tl) (.null :: st) h n ce sl Q := by
  subst hq
  intro p e s m args below meth c H locs la S hr hk hn hW hH hS hL
  have hi : 1 < Y.2.2.1 := by rw [← hL.2]; simp only [List.length_cons]; omega
  exact lv_astore_nN S.1 S.2.1 hd rfl hL.1 hi rfl (fun la' h' => kk p e s m args below meth c H locs la' S hr hk hn hW hH hS (hL.set1 hi (fun o _ z => by cases z; exact hp) h'))
theorem pj_lst1 {o0 o1 : Option Value} {o' : Option Value} {tl : List (Option Value)} {x : Int64} (hd : decode Y.2.1 pc = .ok (.lstore_n 1, 1)) (hq : pc + 1 = q) (hp : pj_c1 o0 = true) (kk : pj_V E B l Y d mc ms q (o0 :: some (.long x) :: none :: tl) st h n ce sl Q) : pj_V E B l Y d mc ms pc (o0 :: o1 :: o' :: tl) (.long x :: st) h n ce sl Q := by
  subst hq
  intro p e s m args below meth c H locs la S hr hk hn hW hH hS hL
  have hi : 1 + 1 < Y.2.2.1 := by rw [← hL.2]; simp only [List.length_cons]; omega
  exact lv_lstore_n S.1 S.2.1 hd rfl hL.1 hi rfl (fun la' h' => kk p e s m args below meth c H locs la' S hr hk hn hW hH hS (hL.set2 hi (fun o _ z => by cases z; exact hp) h'))
theorem pj_iinc1 {o0 : Option Value} {tl : List (Option Value)} {k : Int} {x v : Int32} (hd : decode Y.2.1 pc = .ok (.iinc 1 k, 3)) (hq : pc + 3 = q) (hp : pj_c1 o0 = true) (hv : Int32.ofInt k = v) (kk : pj_V E B l Y d mc ms q (o0 :: some (.int (x + v)) :: tl) st h n ce sl Q) : pj_V E B l Y d mc ms pc (o0 :: some (.int x) :: tl) st h n ce sl Q := by
  subst hq
  subst hv
  intro p e s m args below meth c H locs la S hr hk hn hW hH hS hL
  have hi : 1 < Y.2.2.1 := by rw [← hL.2]; simp only [List.length_cons]; omega
  obtain ⟨j, hj⟩ := List.getElem?_of_mem ((pj_as_mem (o0 :: some (.int x) :: tl) 0 1 (.int x)).mpr ⟨1, by omega, rfl⟩)
  exact lv_iinc S.1 S.2.1 hd hL.1 hj rfl hi rfl (fun la' h' => kk p e s m args below meth c H locs la' S hr hk hn hW hH hS (hL.set1 hi (fun o _ z => by cases z; exact hp) h'))
theorem pj_ist2 {o0 o1 o2 : Option Value} {tl : List (Option Value)} {x : Int32} (hd : decode Y.2.1 pc = .ok (.istore_n 2, 1)) (hq : pc + 1 = q) (hp : pj_c1 o1 = true) (kk : pj_V E B l Y d mc ms q (o0 :: o1 :: some (.int x) :: tl) st h n ce sl Q) : pj_V E B l Y d mc ms pc (o0 :: o1 :: o2 :: tl) (.int x :: st) h n ce sl Q := by
  subst hq
  intro p e s m args below meth c H locs la S hr hk hn hW hH hS hL
  have hi : 2 < Y.2.2.1 := by rw [← hL.2]; simp only [List.length_cons]; omega
  exact lv_istore_n S.1 S.2.1 hd rfl hL.1 hi rfl (fun la' h' => kk p e s m args below meth c H locs la' S hr hk hn hW hH hS (hL.set1 hi (fun o _ z => by cases z; exact hp) h'))
theorem pj_ast2 {o0 o1 o2 : Option Value} {tl : List (Option Value)} {x : Nat} (hd : decode Y.2.1 pc = .ok (.astore_n 2, 1)) (hq : pc + 1 = q) (hp : pj_c1 o1 = true) (kk : pj_V E B l Y d mc ms q (o0 :: o1 :: some (.ref x) :: tl) st h n ce sl Q) : pj_V E B l Y d mc ms pc (o0 :: o1 :: o2 :: tl) (.ref x :: st) h n ce sl Q := by
  subst hq
  intro p e s m args below meth c H locs la S hr hk hn hW hH hS hL
  have hi : 2 < Y.2.2.1 := by rw [← hL.2]; simp only [List.length_cons]; omega
  exact lv_astore_n S.1 S.2.1 hd rfl hL.1 hi rfl (fun la' h' => kk p e s m args below meth c H locs la' S hr hk hn hW hH hS (hL.set1 hi (fun o _ z => by cases z; exact hp) h'))
theorem pj_astN2 {o0 o1 o2 : Option Value} {tl : List (Option Value)} (hd : decode Y.2.1 pc = .ok (.astore_n 2, 1)) (hq : pc + 1 = q) (hp : pj_c1 o1 = true) (kk : pj_V E B l Y d mc ms q (o0 :: o1 :: some .null :: tl) st h n ce sl Q) : pj_V E B l Y d mc ms pc (o0 :: o1 :: o2 :: tl) (.null :: st) h n ce sl Q := by
  subst hq
  intro p e s m args below meth c H locs la S hr hk hn hW hH hS hL
  have hi : 2 < Y.2.2.1 := by rw [← hL.2]; simp only [List.length_cons]; omega
  exact lv_astore_nN S.1 S.2.1 hd rfl hL.1 hi rfl (fun la' h' => kk p e s m args below meth c H locs la' S hr hk hn hW hH hS (hL.set1 hi (fun o _ z => by cases z; exact hp) h'))
theorem pj_lst2 {o0 o1 o2 : Option Value} {o' : Option Value} {tl : List (Option Value)} {x : Int64} (hd : decode Y.2.1 pc = .ok (.lstore_n 2, 1)) (hq : pc + 1 = q) (hp : pj_c1 o1 = true) (kk : pj_V E B l Y d mc ms q (o0 :: o1 :: some (.long x) :: none :: tl) st h n ce sl Q) : pj_V E B l Y d mc ms pc (o0 :: o1 :: o2 :: o' :: tl) (.long x :: st) h n ce sl Q := by
  subst hq
  intro p e s m args below meth c H locs la S hr hk hn hW hH hS hL
  have hi : 2 + 1 < Y.2.2.1 := by rw [← hL.2]; simp only [List.length_cons]; omega
  exact lv_lstore_n S.1 S.2.1 hd rfl hL.1 hi rfl (fun la' h' => kk p e s m args below meth c H locs la' S hr hk hn hW hH hS (hL.set2 hi (fun o _ z => by cases z; exact hp) h'))
theorem pj_iinc2 {o0 o1 : Option Value} {tl : List (Option Value)} {k : Int} {x v : Int32} (hd : decode Y.2.1 pc = .ok (.iinc 2 k, 3)) (hq : pc + 3 = q) (hp : pj_c1 o1 = true) (hv : Int32.ofInt k = v) (kk : pj_V E B l Y d mc ms q (o0 :: o1 :: some (.int (x + v)) :: tl) st h n ce sl Q) : pj_V E B l Y d mc ms pc (o0 :: o1 :: some (.int x) :: tl) st h n ce sl Q := by
  subst hq
  subst hv
  intro p e s m args below meth c H locs la S hr hk hn hW hH hS hL
  have hi : 2 < Y.2.2.1 := by rw [← hL.2]; simp only [List.length_cons]; omega
  obtain ⟨j, hj⟩ := List.getElem?_of_mem ((pj_as_mem (o0 :: o1 :: some (.int x) :: tl) 0 2 (.int x)).mpr ⟨2, by omega, rfl⟩)
  exact lv_iinc S.1 S.2.1 hd hL.1 hj rfl hi rfl (fun la' h' => kk p e s m args below meth c H locs la' S hr hk hn hW hH hS (hL.set1 hi (fun o _ z => by cases z; exact hp) h'))
theorem pj_ist3 {o0 o1 o2 o3 : Option Value} {tl : List (Option Value)} {x : Int32} (hd : decode Y.2.1 pc = .ok (.istore_n 3, 1)) (hq : pc + 1 = q) (hp : pj_c1 o2 = true) (kk : pj_V E B l Y d mc ms q (o0 :: o1 :: o2 :: some (.int x) :: tl) st h n ce sl Q) : pj_V E B l Y d mc ms pc (o0 :: o1 :: o2 :: o3 :: tl) (.int x :: st) h n ce sl Q := by
  subst hq
  intro p e s m args below meth c H locs la S hr hk hn hW hH hS hL
  have hi : 3 < Y.2.2.1 := by rw [← hL.2]; simp only [List.length_cons]; omega
  exact lv_istore_n S.1 S.2.1 hd rfl hL.1 hi rfl (fun la' h' => kk p e s m args below meth c H locs la' S hr hk hn hW hH hS (hL.set1 hi (fun o _ z => by cases z; exact hp) h'))
theorem pj_ast3 {o0 o1 o2 o3 : Option Value} {tl : List (Option Value)} {x : Nat} (hd : decode Y.2.1 pc = .ok (.astore_n 3, 1)) (hq : pc + 1 = q) (hp : pj_c1 o2 = true) (kk : pj_V E B l Y d mc ms q (o0 :: o1 :: o2 :: some (.ref x) :: tl) st h n ce sl Q) : pj_V E B l Y d mc ms pc (o0 :: o1 :: o2 :: o3 :: tl) (.ref x :: st) h n ce sl Q := by
  subst hq
  intro p e s m args below meth c H locs la S hr hk hn hW hH hS hL
  have hi : 3 < Y.2.2.1 := by rw [← hL.2]; simp only [List.length_cons]; omega
  exact lv_astore_n S.1 S.2.1 hd rfl hL.1 hi rfl (fun la' h' => kk p e s m args below meth c H locs la' S hr hk hn hW hH hS (hL.set1 hi (fun o _ z => by cases z; exact hp) h'))
theorem pj_astN3 {o0 o1 o2 o3 : Option Value} {tl : List (Option Value)} (hd : decode Y.2.1 pc = .ok (.astore_n 3, 1)) (hq : pc + 1 = q) (hp : pj_c1 o2 = true) (kk : pj_V E B l Y d mc ms q (o0 :: o1 :: o2 :: some .null :: tl) st h n ce sl Q) : pj_V E B l Y d mc ms pc (o0 :: o1 :: o2 :: o3 :: tl) (.null :: st) h n ce sl Q := by
  subst hq
  intro p e s m args below meth c H locs la S hr hk hn hW hH hS hL
  have hi : 3 < Y.2.2.1 := by rw [← hL.2]; simp only [List.length_cons]; omega
  exact lv_astore_nN S.1 S.2.1 hd rfl hL.1 hi rfl (fun la' h' => kk p e s m args below meth c H locs la' S hr hk hn hW hH hS (hL.set1 hi (fun o _ z => by cases z; exact hp) h'))
theorem pj_lst3 {o0 o1 o2 o3 : Option Value} {o' : Option Value} {tl : List (Option Value)} {x : Int64} (hd : decode Y.2.1 pc = .ok (.lstore_n 3, 1)) (hq : pc + 1 = q) (hp : pj_c1 o2 = true) (kk : pj_V E B l Y d mc ms q (o0 :: o1 :: o2 :: some (.long x) :: none :: tl) st h n ce sl Q) : pj_V E B l Y d mc ms pc (o0 :: o1 :: o2 :: o3 :: o' :: tl) (.long x :: st) h n ce sl Q := by
  subst hq
  intro p e s m args below meth c H locs la S hr hk hn hW hH hS hL
  have hi : 3 + 1 < Y.2.2.1 := by rw [← hL.2]; simp only [List.length_cons]; omega
  exact lv_lstore_n S.1 S.2.1 hd rfl hL.1 hi rfl (fun la' h' => kk p e s m args below meth c H locs la' S hr hk hn hW hH hS (hL.set2 hi (fun o _ z => by cases z; exact hp) h'))
theorem pj_iinc3 {o0 o1 o2 : Option Value} {tl : List (Option Value)} {k : Int} {x v : Int32} (hd : decode Y.2.1 pc = .ok (.iinc 3 k, 3)) (hq : pc + 3 = q) (hp : pj_c1 o2 = true) (hv : Int32.ofInt k = v) (kk : pj_V E B l Y d mc ms q (o0 :: o1 :: o2 :: some (.int (x + v)) :: tl) st h n ce sl Q) : pj_V E B l Y d mc ms pc (o0 :: o1 :: o2 :: some (.int x) :: tl) st h n ce sl Q := by
  subst hq
  subst hv
  intro p e s m args below meth c H locs la S hr hk hn hW hH hS hL
  have hi : 3 < Y.2.2.1 := by rw [← hL.2]; simp only [List.length_cons]; omega
  obtain ⟨j, hj⟩ := List.getElem?_of_mem ((pj_as_mem (o0 :: o1 :: o2 :: some (.int x) :: tl) 0 3 (.int x)).mpr ⟨3, by omega, rfl⟩)
  exact lv_iinc S.1 S.2.1 hd hL.1 hj rfl hi rfl (fun la' h' => kk p e s m args below meth c H locs la' S hr hk hn hW hH hS (hL.set1 hi (fun o _ z => by cases z; exact hp) h'))
theorem pj_ist4 {o0 o1 o2 o3 o4 : Option Value} {tl : List (Option Value)} {x : Int32} (hd : decode Y.2.1 pc = .ok (.istore 4, 2)) (hq : pc + 2 = q) (hp : pj_c1 o3 = true) (kk : pj_V E B l Y d mc ms q (o0 :: o1 :: o2 :: o3 :: some (.int x) :: tl) st h n ce sl Q) : pj_V E B l Y d mc ms pc (o0 :: o1 :: o2 :: o3 :: o4 :: tl) (.int x :: st) h n ce sl Q := by
  subst hq
  intro p e s m args below meth c H locs la S hr hk hn hW hH hS hL
  have hi : 4 < Y.2.2.1 := by rw [← hL.2]; simp only [List.length_cons]; omega
  exact lv_istore S.1 S.2.1 hd hL.1 hi rfl (fun la' h' => kk p e s m args below meth c H locs la' S hr hk hn hW hH hS (hL.set1 hi (fun o _ z => by cases z; exact hp) h'))
theorem pj_ast4 {o0 o1 o2 o3 o4 : Option Value} {tl : List (Option Value)} {x : Nat} (hd : decode Y.2.1 pc = .ok (.astore 4, 2)) (hq : pc + 2 = q) (hp : pj_c1 o3 = true) (kk : pj_V E B l Y d mc ms q (o0 :: o1 :: o2 :: o3 :: some (.ref x) :: tl) st h n ce sl Q) : pj_V E B l Y d mc ms pc (o0 :: o1 :: o2 :: o3 :: o4 :: tl) (.ref x :: st) h n ce sl Q := by
  subst hq
  intro p e s m args below meth c H locs la S hr hk hn hW hH hS hL
  have hi : 4 < Y.2.2.1 := by rw [← hL.2]; simp only [List.length_cons]; omega
  exact lv_astore S.1 S.2.1 hd hL.1 hi rfl (fun la' h' => kk p e s m args below meth c H locs la' S hr hk hn hW hH hS (hL.set1 hi (fun o _ z => by cases z; exact hp) h'))
theorem pj_lst4 {o0 o1 o2 o3 o4 : Option Value} {o' : Option Value} {tl : List (Option Value)} {x : Int64} (hd : decode Y.2.1 pc = .ok (.lstore 4, 2)) (hq : pc + 2 = q) (hp : pj_c1 o3 = true) (kk : pj_V E B l Y d mc ms q (o0 :: o1 :: o2 :: o3 :: some (.long x) :: none :: tl) st h n ce sl Q) : pj_V E B l Y d mc ms pc (o0 :: o1 :: o2 :: o3 :: o4 :: o' :: tl) (.long x :: st) h n ce sl Q := by
  subst hq
  intro p e s m args below meth c H locs la S hr hk hn hW hH hS hL
  have hi : 4 + 1 < Y.2.2.1 := by rw [← hL.2]; simp only [List.length_cons]; omega
  exact lv_lstore S.1 S.2.1 hd hL.1 hi rfl (fun la' h' => kk p e s m args below meth c H locs la' S hr hk hn hW hH hS (hL.set2 hi (fun o _ z => by cases z; exact hp) h'))
theorem pj_iinc4 {o0 o1 o2 o3 : Option Value} {tl : List (Option Value)} {k : Int} {x v : Int32} (hd : decode Y.2.1 pc = .ok (.iinc 4 k, 3)) (hq : pc + 3 = q) (hp : pj_c1 o3 = true) (hv : Int32.ofInt k = v) (kk : pj_V E B l Y d mc ms q (o0 :: o1 :: o2 :: o3 :: some (.int (x + v)) :: tl) st h n ce sl Q) : pj_V E B l Y d mc ms pc (o0 :: o1 :: o2 :: o3 :: some (.int x) :: tl) st h n ce sl Q := by
  subst hq
  subst hv
  intro p e s m args below meth c H locs la S hr hk hn hW hH hS hL
  have hi : 4 < Y.2.2.1 := by rw [← hL.2]; simp only [List.length_cons]; omega
  obtain ⟨j, hj⟩ := List.getElem?_of_mem ((pj_as_mem (o0 :: o1 :: o2 :: o3 :: some (.int x) :: tl) 0 4 (.int x)).mpr ⟨4, by omega, rfl⟩)
  exact lv_iinc S.1 S.2.1 hd hL.1 hj rfl hi rfl (fun la' h' => kk p e s m args below meth c H locs la' S hr hk hn hW hH hS (hL.set1 hi (fun o _ z => by cases z; exact hp) h'))
theorem pj_ist5 {o0 o1 o2 o3 o4 o5 : Option Value} {tl : List (Option Value)} {x : Int32} (hd : decode Y.2.1 pc = .ok (.istore 5, 2)) (hq : pc + 2 = q) (hp : pj_c1 o4 = true) (kk : pj_V E B l Y d mc ms q (o0 :: o1 :: o2 :: o3 :: o4 :: some (.int x) :: tl) st h n ce sl Q) : pj_V E B l Y d mc ms pc (o0 :: o1 :: o2 :: o3 :: o4 :: o5 :: tl) (.int x :: st) h n ce sl Q := by
  subst hq
  intro p e s m args below meth c H locs la S hr hk hn hW hH hS hL
  have hi : 5 < Y.2.2.1 := by rw [← hL.2]; simp only [List.length_cons]; omega
  exact lv_istore S.1 S.2.1 hd hL.1 hi rfl (fun la' h' => kk p e s m args below meth c H locs la' S hr hk hn hW hH hS (hL.set1 hi (fun o _ z => by cases z; exact hp) h'))
theorem pj_ast5 {o0 o1 o2 o3 o4 o5 : Option Value} {tl : List (Option Value)} {x : Nat} (hd : decode Y.2.1 pc = .ok (.astore 5, 2)) (hq : pc + 2 = q) (hp : pj_c1 o4 = true) (kk : pj_V E B l Y d mc ms q (o0 :: o1 :: o2 :: o3 :: o4 :: some (.ref x) :: tl) st h n ce sl Q) : pj_V E B l Y d mc ms pc (o0 :: o1 :: o2 :: o3 :: o4 :: o5 :: tl) (.ref x :: st) h n ce sl Q := by
  subst hq
  intro p e s m args below meth c H locs la S hr hk hn hW hH hS hL
  have hi : 5 < Y.2.2.1 := by rw [← hL.2]; simp only [List.length_cons]; omega
  exact lv_astore S.1 S.2.1 hd hL.1 hi rfl (fun la' h' => kk p e s m args below meth c H locs la' S hr hk hn hW hH hS (hL.set1 hi (fun o _ z => by cases z; exact hp) h'))
theorem pj_lst5 {o0 o1 o2 o3 o4 o5 : Option Value} {o' : Option Value} {tl : List (Option Value)} {x : Int64} (hd : decode Y.2.1 pc = .ok (.lstore 5, 2)) (hq : pc + 2 = q) (hp : pj_c1 o4 = true) (kk : pj_V E B l Y d mc ms q (o0 :: o1 :: o2 :: o3 :: o4 :: some (.long x) :: none :: tl) st h n ce sl Q) : pj_V E B l Y d mc ms pc (o0 :: o1 :: o2 :: o3 :: o4 :: o5 :: o' :: tl) (.long x :: st) h n ce sl Q := by
  subst hq
  intro p e s m args below meth c H locs la S hr hk hn hW hH hS hL
  have hi : 5 + 1 < Y.2.2.1 := by rw [← hL.2]; simp only [List.length_cons]; omega
  exact lv_lstore S.1 S.2.1 hd hL.1 hi rfl (fun la' h' => kk p e s m args below meth c H locs la' S hr hk hn hW hH hS (hL.set2 hi (fun o _ z => by cases z; exact hp) h'))
theorem pj_iinc5 {o0 o1 o2 o3 o4 : Option Value} {tl : List (Option Value)} {k : Int} {x v : Int32} (hd : decode Y.2.1 pc = .ok (.iinc 5 k, 3)) (hq : pc + 3 = q) (hp : pj_c1 o4 = true) (hv : Int32.ofInt k = v) (kk : pj_V E B l Y d mc ms q (o0 :: o1 :: o2 :: o3 :: o4 :: some (.int (x + v)) :: tl) st h n ce sl Q) : pj_V E B l Y d mc ms pc (o0 :: o1 :: o2 :: o3 :: o4 :: some (.int x) :: tl) st h n ce sl Q := by
  subst hq
  subst hv
  intro p e s m args below meth c H locs la S hr hk hn hW hH hS hL
  have hi : 5 < Y.2.2.1 := by rw [← hL.2]; simp only [List.length_cons]; omega
  obtain ⟨j, hj⟩ := List.getElem?_of_mem ((pj_as_mem (o0 :: o1 :: o2 :: o3 :: o4 :: some (.int x) :: tl) 0 5 (.int x)).mpr ⟨5, by omega, rfl⟩)
  exact lv_iinc S.1 S.2.1 hd hL.1 hj rfl hi rfl (fun la' h' => kk p e s m args below meth c H locs la' S hr hk hn hW hH hS (hL.set1 hi (fun o _ z => by cases z; exact hp) h'))
theorem pj_ist6 {o0 o1 o2 o3 o4 o5 o6 : Option Value} {tl : List (Option Value)} {x : Int32} (hd : decode Y.2.1 pc = .ok (.istore 6, 2)) (hq : pc + 2 = q) (hp : pj_c1 o5 = true) (kk : pj_V E B l Y d mc ms q (o0 :: o1 :: o2 :: o3 :: o4 :: o5 :: some (.int x) :: tl) st h n ce sl Q) : pj_V E B l Y d mc ms pc (o0 :: o1 :: o2 :: o3 :: o4 :: o5 :: o6 :: tl) (.int x :: st) h n ce sl Q := by
  subst hq
  intro p e s m args below meth c H locs la S hr hk hn hW hH hS hL
  have hi : 6 < Y.2.2.1 := by rw [← hL.2]; simp only [List.length_cons]; omega
  exact lv_istore S.1 S.2.1 hd hL.1 hi rfl (fun la' h' => kk p e s m args below meth c H locs la' S hr hk hn hW hH hS (hL.set1 hi (fun o _ z => by cases z; exact hp) h'))
theorem pj_ast6 {o0 o1 o2 o3 o4 o5 o6 : Option Value} {tl : List (Option Value)} {x : Nat} (hd : decode Y.2.1 pc = .ok (.astore 6, 2)) (hq : pc + 2 = q) (hp : pj_c1 o5 = true) (kk : pj_V E B l Y d mc ms q (o0 :: o1 :: o2 :: o3 :: o4 :: o5 :: some (.ref x) :: tl) st h n ce sl Q) : pj_V E B l Y d mc ms pc (o0 :: o1 :: o2 :: o3 :: o4 :: o5 :: o6 :: tl) (.ref x :: st) h n ce sl Q := by
  subst hq
  intro p e s m args below meth c H locs la S hr hk hn hW hH hS hL
  have hi : 6 < Y.2.2.1 := by rw [← hL.2]; simp only [List.length_cons]; omega
  exact lv_astore S.1 S.2.1 hd hL.1 hi rfl (fun la' h' => kk p e s m args below meth c H locs la' S hr hk hn hW hH hS (hL.set1 hi (fun o _ z => by cases z; exact hp) h'))
theorem pj_lst6 {o0 o1 o2 o3 o4 o5 o6 : Option Value} {o' : Option Value} {tl : List (Option Value)} {x : Int64} (hd : decode Y.2.1 pc = .ok (.lstore 6, 2)) (hq : pc + 2 = q) (hp : pj_c1 o5 = true) (kk : pj_V E B l Y d mc ms q (o0 :: o1 :: o2 :: o3 :: o4 :: o5 :: some (.long x) :: none :: tl) st h n ce sl Q) : pj_V E B l Y d mc ms pc (o0 :: o1 :: o2 :: o3 :: o4 :: o5 :: o6 :: o' :: tl) (.long x :: st) h n ce sl Q := by
  subst hq
  intro p e s m args below meth c H locs la S hr hk hn hW hH hS hL
  have hi : 6 + 1 < Y.2.2.1 := by rw [← hL.2]; simp only [List.length_cons]; omega
  exact lv_lstore S.1 S.2.1 hd hL.1 hi rfl (fun la' h' => kk p e s m args below meth c H locs la' S hr hk hn hW hH hS (hL.set2 hi (fun o _ z => by cases z; exact hp) h'))
theorem pj_iinc6 {o0 o1 o2 o3 o4 o5 : Option Value} {tl : List (Option Value)} {k : Int} {x v : Int32} (hd : decode Y.2.1 pc = .ok (.iinc 6 k, 3)) (hq : pc + 3 = q) (hp : pj_c1 o5 = true) (hv : Int32.ofInt k = v) (kk : pj_V E B l Y d mc ms q (o0 :: o1 :: o2 :: o3 :: o4 :: o5 :: some (.int (x + v)) :: tl) st h n ce sl Q) : pj_V E B l Y d mc ms pc (o0 :: o1 :: o2 :: o3 :: o4 :: o5 :: some (.int x) :: tl) st h n ce sl Q := by
  subst hq
  subst hv
  intro p e s m args below meth c H locs la S hr hk hn hW hH hS hL
  have hi : 6 < Y.2.2.1 := by rw [← hL.2]; simp only [List.length_cons]; omega
  obtain ⟨j, hj⟩ := List.getElem?_of_mem ((pj_as_mem (o0 :: o1 :: o2 :: o3 :: o4 :: o5 :: some (.int x) :: tl) 0 6 (.int x)).mpr ⟨6, by omega, rfl⟩)
  exact lv_iinc S.1 S.2.1 hd hL.1 hj rfl hi rfl (fun la' h' => kk p e s m args below meth c H locs la' S hr hk hn hW hH hS (hL.set1 hi (fun o _ z => by cases z; exact hp) h'))
theorem pj_ist7 {o0 o1 o2 o3 o4 o5 o6 o7 : Option Value} {tl : List (Option Value)} {x : Int32} (hd : decode Y.2.1 pc = .ok (.istore 7, 2)) (hq : pc + 2 = q) (hp : pj_c1 o6 = true) (kk : pj_V E B l Y d mc ms q (o0 :: o1 :: o2 :: o3 :: o4 :: o5 :: o6 :: some (.int x) :: tl) st h n ce sl Q) : pj_V E B l Y d mc ms pc (o0 :: o1 :: o2 :: o3 :: o4 :: o5 :: o6 :: o7 :: tl) (.int x :: st) h n ce sl Q := by
  subst hq
  intro p e s m args below meth c H locs la S hr hk hn hW hH hS hL
  have hi : 7 < Y.2.2.1 := by rw [← hL.2]; simp only [List.length_cons]; omega
  exact lv_istore S.1 S.2.1 hd hL.1 hi rfl (fun la' h' => kk p e s m args below meth c H locs la' S hr hk hn hW hH hS (hL.set1 hi (fun o _ z => by cases z; exact hp) h'))
theorem pj_ast7 {o0 o1 o2 o3 o4 o5 o6 o7 : Option Value} {tl : List (Option Value)} {x : Nat} (hd : decode Y.2.1 pc = .ok (.astore 7, 2)) (hq : pc + 2 = q) (hp : pj_c1 o6 = true) (kk : pj_V E B l Y d mc ms q (o0 :: o1 :: o2 :: o3 :: o4 :: o5 :: o6 :: some (.ref x) :: tl) st h n ce sl Q) : pj_V E B l Y d mc ms pc (o0 :: o1 :: o2 :: o3 :: o4 :: o5 :: o6 :: o7 :: tl) (.ref x :: st) h n ce sl Q := by
  subst hq
  intro p e s m args below meth c H locs la S hr hk hn hW hH hS hL
  have hi : 7 < Y.2.2.1 := by rw [← hL.2]; simp only [List.length_cons]; omega
  exact lv_astore S.1 S.2.1 hd hL.1 hi rfl (fun la' h' => kk p e s m args below meth c H locs la' S hr hk hn hW hH hS (hL.set1 hi (fun o _ z => by cases z; exact hp) h'))
theorem pj_lst7 {o0 o1 o2 o3 o4 o5 o6 o7 : Option Value} {o' : Option Value} {tl : List (Option Value)} {x : Int64} (hd : decode Y.2.1 pc = .ok (.lstore 7, 2)) (hq : pc + 2 = q) (hp : pj_c1 o6 = true) (kk : pj_V E B l Y d mc ms q (o0 :: o1 :: o2 :: o3 :: o4 :: o5 :: o6 :: some (.long x) :: none :: tl) st h n ce sl Q) : pj_V E B l Y d mc ms pc (o0 :: o1 :: o2 :: o3 :: o4 :: o5 :: o6 :: o7 :: o' :: tl) (.long x :: st) h n ce sl Q := by
  subst hq
  intro p e s m args below meth c H locs la S hr hk hn hW hH hS hL
  have hi : 7 + 1 < Y.2.2.1 := by rw [← hL.2]; simp only [List.length_cons]; omega
  exact lv_lstore S.1 S.2.1 hd hL.1 hi rfl (fun la' h' => kk p e s m args below meth c H locs la' S hr hk hn hW hH hS (hL.set2 hi (fun o _ z => by cases z; exact hp) h'))
theorem pj_iinc7 {o0 o1 o2 o3 o4 o5 o6 : Option Value} {tl : List (Option Value)} {k : Int} {x v : Int32} (hd : decode Y.2.1 pc = .ok (.iinc 7 k, 3)) (hq : pc + 3 = q) (hp : pj_c1 o6 = true) (hv : Int32.ofInt k = v) (kk : pj_V E B l Y d mc ms q (o0 :: o1 :: o2 :: o3 :: o4 :: o5 :: o6 :: some (.int (x + v)) :: tl) st h n ce sl Q) : pj_V E B l Y d mc ms pc (o0 :: o1 :: o2 :: o3 :: o4 :: o5 :: o6 :: some (.int x) :: tl) st h n ce sl Q := by
  subst hq
  subst hv
  intro p e s m args below meth c H locs la S hr hk hn hW hH hS hL
  have hi : 7 < Y.2.2.1 := by rw [← hL.2]; simp only [List.length_cons]; omega
  obtain ⟨j, hj⟩ := List.getElem?_of_mem ((pj_as_mem (o0 :: o1 :: o2 :: o3 :: o4 :: o5 :: o6 :: some (.int x) :: tl) 0 7 (.int x)).mpr ⟨7, by omega, rfl⟩)
  exact lv_iinc S.1 S.2.1 hd hL.1 hj rfl hi rfl (fun la' h' => kk p e s m args below meth c H locs la' S hr hk hn hW hH hS (hL.set1 hi (fun o _ z => by cases z; exact hp) h'))
theorem pj_ist8 {o0 o1 o2 o3 o4 o5 o6 o7 o8 : Option Value} {tl : List (Option Value)} {x : Int32} (hd : decode Y.2.1 pc = .ok (.istore 8, 2)) (hq : pc + 2 = q) (hp : pj_c1 o7 = true) (kk : pj_V E B l Y d mc ms q (o0 :: o1 :: o2 :: o3 :: o4 :: o5 :: o6 :: o7 :: some (.int x) :: tl) st h n ce sl Q) : pj_V E B l Y d mc ms pc (o0 :: o1 :: o2 :: o3 :: o4 :: o5 :: o6 :: o7 :: o8 :: tl) (.int x :: st) h n ce sl Q := by
  subst hq
  intro p e s m args below meth c H locs la S hr hk hn hW hH hS hL
  have hi : 8 < Y.2.2.1 := by rw [← hL.2]; simp only [List.length_cons]; omega
  exact lv_istore S.1 S.2.1 hd hL.1 hi rfl (fun la' h' => kk p e s m args below meth c H locs la' S hr hk hn hW hH hS (hL.set1 hi (fun o _ z => by cases z; exact hp) h'))
theorem pj_ast8 {o0 o1 o2 o3 o4 o5 o6 o7 o8 : Option Value} {tl : List (Option Value)} {x : Nat} (hd : decode Y.2.1 pc = .ok (.astore 8, 2)) (hq : pc + 2 = q) (hp : pj_c1 o7 = true) (kk : pj_V E B l Y d mc ms q (o0 :: o1 :: o2 :: o3 :: o4 :: o5 :: o6 :: o7 :: some (.ref x) :: tl) st h n ce sl Q) : pj_V E B l Y d mc ms pc (o0 :: o1 :: o2 :: o3 :: o4 :: o5 :: o6 :: o7 :: o8 :: tl) (.ref x :: st) h n ce sl Q := by
  subst hq
  intro p e s m args below meth c H locs la S hr hk hn hW hH hS hL
  have hi : 8 < Y.2.2.1 := by rw [← hL.2]; simp only [List.length_cons]; omega
  exact lv_astore S.1 S.2.1 hd hL.1 hi rfl (fun la' h' => kk p e s m args below meth c H locs la' S hr hk hn hW hH hS (hL.set1 hi (fun o _ z => by cases z; exact hp) h'))
theorem pj_lst8 {o0 o1 o2 o3 o4 o5 o6 o7 o8 : Option Value} {o' : Option Value} {tl : List (Option Value)} {x : Int64} (hd : decode Y.2.1 pc = .ok (.lstore 8, 2)) (hq : pc + 2 = q) (hp : pj_c1 o7 = true) (kk : pj_V E B l Y d mc ms q (o0 :: o1 :: o2 :: o3 :: o4 :: o5 :: o6 :: o7 :: some (.long x) :: none :: tl) st h n ce sl Q) : pj_V E B l Y d mc ms pc (o0 :: o1 :: o2 :: o3 :: o4 :: o5 :: o6 :: o7 :: o8 :: o' :: tl) (.long x :: st) h n ce sl Q := by
  subst hq
  intro p e s m args below meth c H locs la S hr hk hn hW hH hS hL
  have hi : 8 + 1 < Y.2.2.1 := by rw [← hL.2]; simp only [List.length_cons]; omega
  exact lv_lstore S.1 S.2.1 hd hL.1 hi rfl (fun la' h' => kk p e s m args below meth c H locs la' S hr hk hn hW hH hS (hL.set2 hi (fun o _ z => by cases z; exact hp) h'))
theorem pj_iinc8 {o0 o1 o2 o3 o4 o5 o6 o7 : Option Value} {tl : List (Option Value)} {k : Int} {x v : Int32} (hd : decode Y.2.1 pc = .ok (.iinc 8 k, 3)) (hq : pc + 3 = q) (hp : pj_c1 o7 = true) (hv : Int32.ofInt k = v) (kk : pj_V E B l Y d mc ms q (o0 :: o1 :: o2 :: o3 :: o4 :: o5 :: o6 :: o7 :: some (.int (x + v)) :: tl) st h n ce sl Q) : pj_V E B l Y d mc ms pc (o0 :: o1 :: o2 :: o3 :: o4 :: o5 :: o6 :: o7 :: some (.int x) :: tl) st h n ce sl Q := by
  subst hq
  subst hv
  intro p e s m args below meth c H locs la S hr hk hn hW hH hS hL
  have hi : 8 < Y.2.2.1 := by rw [← hL.2]; simp only [List.length_cons]; omega
  obtain ⟨j, hj⟩ := List.getElem?_of_mem ((pj_as_mem (o0 :: o1 :: o2 :: o3 :: o4 :: o5 :: o6 :: o7 :: some (.int x) :: tl) 0 8 (.int x)).mpr ⟨8, by omega, rfl⟩)
  exact lv_iinc S.1 S.2.1 hd hL.1 hj rfl hi rfl (fun la' h' => kk p e s m args below meth c H locs la' S hr hk hn hW hH hS (hL.set1 hi (fun o _ z => by cases z; exact hp) h'))
theorem pj_ist9 {o0 o1 o2 o3 o4 o5 o6 o7 o8 o9 : Option Value} {tl : List (Option Value)} {x : Int32} (hd : decode Y.2.1 pc = .ok (.istore 9, 2)) (hq : pc + 2 = q) (hp : pj_c1 o8 = true) (kk : pj_V E B l Y d mc ms q (o0 :: o1 :: o2 :: o3 :: o4 :: o5 :: o6 :: o7 :: o8 :: some (.int x) :: tl) st h n ce sl Q) : pj_V E B l Y d mc ms pc (o0 :: o1 :: o2 :: o3 :: o4 :: o5 :: o6 :: o7 :: o8 :: o9 :: tl) (.int x :: st) h n ce sl Q := by
  subst hq
  intro p e s m args below meth c H locs la S hr hk hn hW hH hS hL
  have hi : 9 < Y.2.2.1 := by rw [← hL.2]; simp only [List.length_cons]; omega
  exact lv_istore S.1 S.2.1 hd hL.1 hi rfl (fun la' h' => kk p e s m args below meth c H locs la' S hr hk hn hW hH hS (hL.set1 hi (fun o _ z => by cases z; exact hp) h'))
theorem pj_ast9 {o0 o1 o2 o3 o4 o5 o6 o7 o8 o9 : Option Value} {tl : List (Option Value)} {x : Nat} (hd : decode Y.2.1 pc = .ok (.astore 9, 2)) (hq : pc + 2 = q) (hp : pj_c1 o8 = true) (kk : pj_V E B l Y d mc ms q (o0 :: o1 :: o2 :: o3 :: o4 :: o5 :: o6 :: o7 :: o8 :: some (.ref x) :: tl) st h n ce sl Q) : pj_V E B l Y d mc ms pc (o0 :: o1 :: o2 :: o3 :: o4 :: o5 :: o6 :: o7 :: o8 :: o9 :: tl) (.ref x :: st) h n ce sl Q := by
  subst hq
  intro p e s m args below meth c H locs la S hr hk hn hW hH hS hL
  have hi : 9 < Y.2.2.1 := by rw [← hL.2]; simp only [List.length_cons]; omega
  exact lv_astore S.1 S.2.1 hd hL.1 hi rfl (fun la' h' => kk p e s m args below meth c H locs la' S hr hk hn hW hH hS (hL.set1 hi (fun o _ z => by cases z; exact hp) h'))
theorem pj_lst9 {o0 o1 o2 o3 o4 o5 o6 o7 o8 o9 : Option Value} {o' : Option Value} {tl : List (Option Value)} {x : Int64} (hd : decode Y.2.1 pc = .ok (.lstore 9, 2)) (hq : pc + 2 = q) (hp : pj_c1 o8 = true) (kk : pj_V E B l Y d mc ms q (o0 :: o1 :: o2 :: o3 :: o4 :: o5 :: o6 :: o7 :: o8 :: some (.long x) :: none :: tl) st h n ce sl Q) : pj_V E B l Y d mc ms pc (o0 :: o1 :: o2 :: o3 :: o4 :: o5 :: o6 :: o7 :: o8 :: o9 :: o' :: tl) (.long x :: st) h n ce sl Q := by
  subst hq
  intro p e s m args below meth c H locs la S hr hk hn hW hH hS hL
  have hi : 9 + 1 < Y.2.2.1 := by rw [← hL.2]; simp only [List.length_cons]; omega
  exact lv_lstore S.1 S.2.1 hd hL.1 hi rfl (fun la' h' => kk p e s m args below meth c H locs la' S hr hk hn hW hH hS (hL.set2 hi (fun o _ z => by cases z; exact hp) h'))
theorem pj_iinc9 {o0 o1 o2 o3 o4 o5 o6 o7 o8 : Option Value} {tl : List (Option Value)} {k : Int} {x v : Int32} (hd : decode Y.2.1 pc = .ok (.iinc 9 k, 3)) (hq : pc + 3 = q) (hp : pj_c1 o8 = true) (hv : Int32.ofInt k = v) (kk : pj_V E B l Y d mc ms q (o0 :: o1 :: o2 :: o3 :: o4 :: o5 :: o6 :: o7 :: o8 :: some (.int (x + v)) :: tl) st h n ce sl Q) : pj_V E B l Y d mc ms pc (o0 :: o1 :: o2 :: o3 :: o4 :: o5 :: o6 :: o7 :: o8 :: some (.int x) :: tl) st h n ce sl Q := by
  subst hq
  subst hv
  intro p e s m args below meth c H locs la S hr hk hn hW hH hS hL
  have hi : 9 < Y.2.2.1 := by rw [← hL.2]; simp only [List.length_cons]; omega
  obtain ⟨j, hj⟩ := List.getElem?_of_mem ((pj_as_mem (o0 :: o1 :: o2 :: o3 :: o4 :: o5 :: o6 :: o7 :: o8 :: some (.int x) :: tl) 0 9 (.int x)).mpr ⟨9, by omega, rfl⟩)
  exact lv_iinc S.1 S.2.1 hd hL.1 hj rfl hi rfl (fun la' h' => kk p e s m args below meth c H locs la' S hr hk hn hW hH hS (hL.set1 hi (fun o _ z => by cases z; exact hp) h'))
theorem pj_ist10 {o0 o1 o2 o3 o4 o5 o6 o7 o8 o9 o10 : Option Value} {tl : List (Option Value)} {x : Int32} (hd : decode Y.2.1 pc = .ok (.istore 10, 2)) (hq : pc + 2 = q) (hp : pj_c1 o9 = true) (kk : pj_V E B l Y d mc ms q (o0 :: o1 :: o2 :: o3 :: o4 :: o5 :: o6 :: o7 :: o8 :: o9 :: some (.int x) :: tl) st h n ce sl Q) : pj_V E B l Y d mc ms pc (o0 :: o1 :: o2 :: o3 :: o4 :: o5 :: o6 :: o7 :: o8 :: o9 :: o10 :: tl) (.int x :: st) h n ce sl Q := by
  subst hq
  intro p e s m args below meth c H locs la S hr hk hn hW hH hS hL
  have hi : 10 < Y.2.2.1 := by rw [← hL.2]; simp only [List.length_cons]; omega
  exact lv_istore S.1 S.2.1 hd hL.1 hi rfl (fun la' h' => kk p e s m args below meth c H locs la' S hr hk hn hW hH hS (hL.set1 hi (fun o _ z => by cases z; exact hp) h'))
theorem pj_ast10 {o0 o1 o2 o3 o4 o5 o6 o7 o8 o9 o10 : Option Value} {tl : List (Option Value)} {x : Nat} (hd : decode Y.2.1 pc = .ok (.astore 10, 2)) (hq : pc + 2 = q) (hp : pj_c1 o9 = true) (kk : pj_V E B l Y d mc ms q (o0 :: o1 :: o2 :: o3 :: o4 :: o5 :: o6 :: o7 :: o8 :: o9 :: some (.ref x) :: tl) st h n ce sl Q) : pj_V E B l Y d mc ms pc (o0 :: o1 :: o2 :: o3 :: o4 :: o5 :: o6 :: o7 :: o8 :: o9 :: o10 :: tl) (.ref x :: st) h n ce sl Q := by
  subst hq
  intro p e s m args below meth c H locs la S hr hk hn hW hH hS hL
  have hi : 10 < Y.2.2.1 := by rw [← hL.2]; simp only [List.length_cons]; omega
  exact lv_astore S.1 S.2.1 hd hL.1 hi rfl (fun la' h' => kk p e s m args below meth c H locs la' S hr hk hn hW hH hS (hL.set1 hi (fun o _ z => by cases z; exact hp) h'))
theorem pj_lst10 {o0 o1 o2 o3 o4 o5 o6 o7 o8 o9 o10 : Option Value} {o' : Option Value} {tl : List (Option Value)} {x : Int64} (hd : decode Y.2.1 pc = .ok (.lstore 10, 2)) (hq : pc + 2 = q) (hp : pj_c1 o9 = true) (kk : pj_V E B l Y d mc ms q (o0 :: o1 :: o2 :: o3 :: o4 :: o5 :: o6 :: o7 :: o8 :: o9 :: some (.long x) :: none :: tl) st h n ce sl Q) : pj_V E B l Y d mc ms pc (o0 :: o1 :: o2 :: o3 :: o4 :: o5 :: o6 :: o7 :: o8 :: o9 :: o10 :: o' :: tl) (.long x :: st) h n ce sl Q := by
  subst hq
  intro p e s m args below meth c H locs la S hr hk hn hW hH hS hL
  have hi : 10 + 1 < Y.2.2.1 := by rw [← hL.2]; simp only [List.length_cons]; omega
  exact lv_lstore S.1 S.2.1 hd hL.1 hi rfl (fun la' h' => kk p e s m args below meth c H locs la' S hr hk hn hW hH hS (hL.set2 hi (fun o _ z => by cases z; exact hp) h'))
theorem pj_iinc10 {o0 o1 o2 o3 o4 o5 o6 o7 o8 o9 : Option Value} {tl : List (Option Value)} {k : Int} {x v : Int32} (hd : decode Y.2.1 pc = .ok (.iinc 10 k, 3)) (hq : pc + 3 = q) (hp : pj_c1 o9 = true) (hv : Int32.ofInt k = v) (kk : pj_V E B l Y d mc ms q (o0 :: o1 :: o2 :: o3 :: o4 :: o5 :: o6 :: o7 :: o8 :: o9 :: some (.int (x + v)) :: tl) st h n ce sl Q) : pj_V E B l Y d mc ms pc (o0 :: o1 :: o2 :: o3 :: o4 :: o5 :: o6 :: o7 :: o8 :: o9 :: some (.int x) :: tl) st h n ce sl Q := by
  subst hq
  subst hv
  intro p e s m args below meth c H locs la S hr hk hn hW hH hS hL
  have hi : 10 < Y.2.2.1 := by rw [← hL.2]; simp only [List.length_cons]; omega
  obtain ⟨j, hj⟩ := List.getElem?_of_mem ((pj_as_mem (o0 :: o1 :: o2 :: o3 :: o4 :: o5 :: o6 :: o7 :: o8 :: o9 :: some (.int x) :: tl) 0 10 (.int x)).mpr ⟨10, by omega, rfl⟩)
  exact lv_iinc S.1 S.2.1 hd hL.1 hj rfl hi rfl (fun la' h' => kk p e s m args below meth c H locs la' S hr hk hn hW hH hS (hL.set1 hi (fun o _ z => by cases z; exact hp) h'))
theorem pj_ist11 {o0 o1 o2 o3 o4 o5 o6 o7 o8 o9 o10 o11 : Option Value} {tl : List (Option Value)} {x : Int32} (hd : decode Y.2.1 pc = .ok (.istore 11, 2)) (hq : pc + 2 = q) (hp : pj_c1 o10 = true) (kk : pj_V E B l Y d mc ms q (o0 :: o1 :: o2 :: o3 :: o4 :: o5 :: o6 :: o7 :: o8 :: o9 :: o10 :: some (.int x) :: tl) st h n ce sl Q) : pj_V E B l Y d mc ms pc (o0 :: o1 :: o2 :: o3 :: o4 :: o5 :: o6 :: o7 :: o8 :: o9 :: o10 :: o11 :: tl) (.int x :: st) h n ce sl Q := by
  subst hq
  intro p e s m args below meth c H locs la S hr hk hn hW hH hS hL
  have hi : 11 < Y.2.2.1 := by rw [← hL.2]; simp only [List.length_cons]; omega
  exact lv_istore S.1 S.2.1 hd hL.1 hi rfl (fun la' h' => kk p e s m args below meth c H locs la' S hr hk hn hW hH hS (hL.set1 hi (fun o _ z => by cases z; exact hp) h'))
theorem pj_ast11 {o0 o1 o2 o3 o4 o5 o6 o7 o8 o9 o10 o11 : Option Value} {tl : List (Option Value)} {x : Nat} (hd : decode Y.2.1 pc = .ok (.astore 11, 2)) (hq : pc + 2 = q) (hp : pj_c1 o10 = true) (kk : pj_V E B l Y d mc ms q (o0 :: o1 :: o2 :: o3 :: o4 :: o5 :: o6 :: o7 :: o8 :: o9 :: o10 :: some (.ref x) :: tl) st h n ce sl Q) : pj_V E B l Y d mc ms pc (o0 :: o1 :: o2 :: o3 :: o4 :: o5 :: o6 :: o7 :: o8 :: o9 :: o10 :: o11 :: tl) (.ref x :: st) h n ce sl Q := by
  subst hq
  intro p e s m args below meth c H locs la S hr hk hn hW hH hS hL
  have hi : 11 < Y.2.2.1 := by rw [← hL.2]; simp only [List.length_cons]; omega
  exact lv_astore S.1 S.2.1 hd hL.1 hi rfl (fun la' h' => kk p e s m args below meth c H locs la' S hr hk hn hW hH hS (hL.set1 hi (fun o _ z => by cases z; exact hp) h'))
theorem pj_lst11 {o0 o1 o2 o3 o4 o5 o6 o7 o8 o9 o10 o11 : Option Value} {o' : Option Value} {tl : List (Option Value)} {x : Int64} (hd : decode Y.2.1 pc = .ok (.lstore 11, 2)) (hq : pc + 2 = q) (hp : pj_c1 o10 = true) (kk : pj_V E B l Y d mc ms q (o0 :: o1 :: o2 :: o3 :: o4 :: o5 :: o6 :: o7 :: o8 :: o9 :: o10 :: some (.long x) :: none :: tl) st h n ce sl Q) : pj_V E B l Y d mc ms pc (o0 :: o1 :: o2 :: o3 :: o4 :: o5 :: o6 :: o7 :: o8 :: o9 :: o10 :: o11 :: o' :: tl) (.long x :: st) h n ce sl Q := by
  subst hq
  intro p e s m args below meth c H locs la S hr hk hn hW hH hS hL
  have hi : 11 + 1 < Y.2.2.1 := by rw [← hL.2]; simp only [List.length_cons]; omega
  exact lv_lstore S.1 S.2.1 hd hL.1 hi rfl (fun la' h' => kk p e s m args below meth c H locs la' S hr hk hn hW hH hS (hL.set2 hi (fun o _ z => by cases z; exact hp) h'))
theorem pj_iinc11 {o0 o1 o2 o3 o4 o5 o6 o7 o8 o9 o10 : Option Value} {tl : List (Option Value)} {k : Int} {x v : Int32} (hd : decode Y.2.1 pc = .ok (.iinc 11 k, 3)) (hq : pc + 3 = q) (hp : pj_c1 o10 = true) (hv : Int32.ofInt k = v) (kk : pj_V E B l Y d mc ms q (o0 :: o1 :: o2 :: o3 :: o4 :: o5 :: o6 :: o7 :: o8 :: o9 :: o10 :: some (.int (x + v)) :: tl) st h n ce sl Q) : pj_V E B l Y d mc ms pc (o0 :: o1 :: o2 :: o3 :: o4 :: o5 :: o6 :: o7 :: o8 :: o9 :: o10 :: some (.int x) :: tl) st h n ce sl Q := by
  subst hq
  subst hv
  intro p e s m args below meth c H locs la S hr hk hn hW hH hS hL
  have hi : 11 < Y.2.2.1 := by rw [← hL.2]; simp only [List.length_cons]; omega
  obtain ⟨j, hj⟩ := List.getElem?_of_mem ((pj_as_mem (o0 :: o1 :: o2 :: o3 :: o4 :: o5 :: o6 :: o7 :: o8 :: o9 :: o10 :: some (.int x) :: tl) 0 11 (.int x)).mpr ⟨11, by omega, rfl⟩)
  exact lv_iinc S.1 S.2.1 hd hL.1 hj rfl hi rfl (fun la' h' => kk p e s m args below meth c H locs la' S hr hk hn hW hH hS (hL.set1 hi (fun o _ z => by cases z; exact hp) h'))
theorem pj_ist12 {o0 o1 o2 o3 o4 o5 o6 o7 o8 o9 o10 o11 o12 : Option Value} {tl : List (Option Value)} {x : Int32} (hd : decode Y.2.1 pc = .ok (.istore 12, 2)) (hq : pc + 2 = q) (hp : pj_c1 o11 = true) (kk : pj_V E B l Y d mc ms q (o0 :: o1 :: o2 :: o3 :: o4 :: o5 :: o6 :: o7 :: o8 :: o9 :: o10 :: o11 :: some (.int x) :: tl) st h n ce sl Q) : pj_V E B l Y d mc ms pc (o0 :: o1 :: o2 :: o3 :: o4 :: o5 :: o6 :: o7 :: o8 :: o9 :: o10 :: o11 :: o12 :: tl) (.int x :: st) h n ce sl Q := by
  subst hq
  intro p e s m args below meth c H locs la S hr hk hn hW hH hS hL
  have hi : 12 < Y.2.2.1 := by rw [← hL.2]; simp only [List.length_cons]; omega
  exact lv_istore S.1 S.2.1 hd hL.1 hi rfl (fun la' h' => kk p e s m args below meth c H locs la' S hr hk hn hW hH hS (hL.set1 hi (fun o _ z => by cases z; exact hp) h'))
theorem pj_ast12 {o0 o1 o2 o3 o4 o5 o6 o7 o8 o9 o10 o11 o12 : Option Value} {tl : List (Option Value)} {x : Nat} (hd : decode Y.2.1 pc = .ok (.astore 12, 2)) (hq : pc + 2 = q) (hp : pj_c1 o11 = true) (kk : pj_V E B l Y d mc ms q (o0 :: o1 :: o2 :: o3 :: o4 :: o5 :: o6 :: o7 :: o8 :: o9 :: o10 :: o11 :: some (.ref x) :: tl) st h n ce sl Q) : pj_V E B l Y d mc ms pc (o0 :: o1 :: o2 :: o3 :: o4 :: o5 :: o6 :: o7 :: o8 :: o9 :: o10 :: o11 :: o12 :: tl) (.ref x :: st) h n ce sl Q := by
  subst hq
  intro p e s m args below meth c H locs la S hr hk hn hW hH hS hL
  have hi : 12 < Y.2.2.1 := by rw [← hL.2]; simp only [List.length_cons]; omega
  exact lv_astore S.1 S.2.1 hd hL.1 hi rfl (fun la' h' => kk p e s m args below meth c H locs la' S hr hk hn hW hH hS (hL.set1 hi (fun o _ z => by cases z; exact hp) h'))
theorem pj_lst12 {o0 o1 o2 o3 o4 o5 o6 o7 o8 o9 o10 o11 o12 : Option Value} {o' : Option Value} {tl : List (Option Value)} {x : Int64} (hd : decode Y.2.1 pc = .ok (.lstore 12, 2)) (hq : pc + 2 = q) (hp : pj_c1 o11 = true) (kk : pj_V E B l Y d mc ms q (o0 :: o1 :: o2 :: o3 :: o4 :: o5 :: o6 :: o7 :: o8 :: o9 :: o10 :: o11 :: some (.long x) :: none :: tl) st h n ce sl Q) : pj_V E B l Y d mc ms pc (o0 :: o1 :: o2 :: o3 :: o4 :: o5 :: o6 :: o7 :: o8 :: o9 :: o10 :: o11 :: o12 :: o' :: tl) (.long x :: st) h n ce sl Q := by
  subst hq
  intro p e s m args below meth c H locs la S hr hk hn hW hH hS hL
  have hi : 12 + 1 < Y.2.2.1 := by rw [← hL.2]; simp only [List.length_cons]; omega
  exact lv_lstore S.1 S.2.1 hd hL.1 hi rfl (fun la' h' => kk p e s m args below meth c H locs la' S hr hk hn hW hH hS (hL.set2 hi (fun o _ z => by cases z; exact hp) h'))
theorem pj_iinc12 {o0 o1 o2 o3 o4 o5 o6 o7 o8 o9 o10 o11 : Option Value} {tl : List (Option Value)} {k : Int} {x v : Int32} (hd : decode Y.2.1 pc = .ok (.iinc 12 k, 3)) (hq : pc + 3 = q) (hp : pj_c1 o11 = true) (hv : Int32.ofInt k = v) (kk : pj_V E B l Y d mc ms q (o0 :: o1 :: o2 :: o3 :: o4 :: o5 :: o6 :: o7 :: o8 :: o9 :: o10 :: o11 :: some (.int (x + v)) :: tl) st h n ce sl Q) : pj_V E B l Y d mc ms pc (o0 :: o1 :: o2 :: o3 :: o4 :: o5 :: o6 :: o7 :: o8 :: o9 :: o10 :: o11 :: some (.int x) :: tl) st h n ce sl Q := by
  subst hq
  subst hv
  intro p e s m args below meth c H locs la S hr hk hn hW hH hS hL
  have hi : 12 < Y.2.2.1 := by rw [← hL.2]; simp only [List.length_cons]; omega
  obtain ⟨j, hj⟩ := List.getElem?_of_mem ((pj_as_mem (o0 :: o1 :: o2 :: o3 :: o4 :: o5 :: o6 :: o7 :: o8 :: o9 :: o10 :: o11 :: some (.int x) :: tl) 0 12 (.int x)).mpr ⟨12, by omega, rfl⟩)
  exact lv_iinc S.1 S.2.1 hd hL.1 hj rfl hi rfl (fun la' h' => kk p e s m args below meth c H locs la' S hr hk hn hW hH hS (hL.set1 hi (fun o _ z => by cases z; exact hp) h'))
theorem pj_ist13 {o0 o1 o2 o3 o4 o5 o6 o7 o8 o9 o10 o11 o12 o13 : Option Value} {tl : List (Option Value)} {x : Int32} (hd : decode Y.2.1 pc = .ok (.istore 13, 2)) (hq : pc + 2 = q) (hp : pj_c1 o12 = true) (kk : pj_V E B l Y d mc ms q (o0 :: o1 :: o2 :: o3 :: o4 :: o5 :: o6 :: o7 :: o8 :: o9 :: o10 :: o11 :: o12 :: some (.int x) :: tl) st h n ce sl Q) : pj_V E B l Y d mc ms pc (o0 :: o1 :: o2 :: o3 :: o4 :: o5 :: o6 :: o7 :: o8 :: o9 :: o10 :: o11 :: o12 :: o13 :: tl) (.int x :: st) h n ce sl Q := by
  subst hq
  intro p e s m args below meth c H locs la S hr hk hn hW hH hS hL
  have hi : 13 < Y.2.2.1 := by rw [← hL.2]; simp only [List.length_cons]; omega
  exact lv_istore S.1 S.2.1 hd hL.1 hi rfl (fun la' h' => kk p e s m args below meth c H locs la' S hr hk hn hW hH hS (hL.set1 hi (fun o _ z => by cases z; exact hp) h'))
theorem pj_ast13 {o0 o1 o2 o3 o4 o5 o6 o7 o8 o9 o10 o11 o12 o13 : Option Value} {tl : List (Option Value)} {x : Nat} (hd : decode Y.2.1 pc = .ok (.astore 13, 2)) (hq : pc + 2 = q) (hp : pj_c1 o12 = true) (kk : pj_V E B l Y d mc ms q (o0 :: o1 :: o2 :: o3 :: o4 :: o5 :: o6 :: o7 :: o8 :: o9 :: o10 :: o11 :: o12 :: some (.ref x) :: tl) st h n ce sl Q) : pj_V E B l Y d mc ms pc (o0 :: o1 :: o2 :: o3 :: o4 :: o5 :: o6 :: o7 :: o8 :: o9 :: o10 :: o11 :: o12 :: o13 :: tl) (.ref x :: st) h n ce sl Q := by
  subst hq
  intro p e s m args below meth c H locs la S hr hk hn hW hH hS hL
  have hi : 13 < Y.2.2.1 := by rw [← hL.2]; simp only [List.length_cons]; omega
  exact lv_astore S.1 S.2.1 hd hL.1 hi rfl (fun la' h' => kk p e s m args below meth c H locs la' S hr hk hn hW hH hS (hL.set1 hi (fun o _ z => by cases z; exact hp) h'))
theorem pj_lst13 {o0 o1 o2 o3 o4 o5 o6 o7 o8 o9 o10 o11 o12 o13 : Option Value} {o' : Option Value} {tl : List (Option Value)} {x : Int64} (hd : decode Y.2.1 pc = .ok (.lstore 13, 2)) (hq : pc + 2 = q) (hp : pj_c1 o12 = true) (kk : pj_V E B l Y d mc ms q (o0 :: o1 :: o2 :: o3 :: o4 :: o5 :: o6 :: o7 :: o8 :: o9 :: o10 :: o11 :: o12 :: some (.long x) :: none :: tl) st h n ce sl Q) : pj_V E B l Y d mc ms pc (o0 :: o1 :: o2 :: o3 :: o4 :: o5 :: o6 :: o7 :: o8 :: o9 :: o10 :: o11 :: o12 :: o13 :: o' :: tl) (.long x :: st) h n ce sl Q := by
  subst hq
  intro p e s m args below meth c H locs la S hr hk hn hW hH hS hL
  have hi : 13 + 1 < Y.2.2.1 := by rw [← hL.2]; simp only [List.length_cons]; omega
  exact lv_lstore S.1 S.2.1 hd hL.1 hi rfl (fun la' h' => kk p e s m args below meth c H locs la' S hr hk hn hW hH hS (hL.set2 hi (fun o _ z => by cases z; exact hp) h'))
theorem pj_iinc13 {o0 o1 o2 o3 o4 o5 o6 o7 o8 o9 o10 o11 o12 : Option Value} {tl : List (Option Value)} {k : Int} {x v : Int32} (hd : decode Y.2.1 pc = .ok (.iinc 13 k, 3)) (hq : pc + 3 = q) (hp : pj_c1 o12 = true) (hv : Int32.ofInt k = v) (kk : pj_V E B l Y d mc ms q (o0 :: o1 :: o2 :: o3 :: o4 :: o5 :: o6 :: o7 :: o8 :: o9 :: o10 :: o11 :: o12 :: some (.int (x + v)) :: tl) st h n ce sl Q) : pj_V E B l Y d mc ms pc (o0 :: o1 :: o2 :: o3 :: o4 :: o5 :: o6 :: o7 :: o8 :: o9 :: o10 :: o11 :: o12 :: some (.int x) :: tl) st h n ce sl Q := by
  subst hq
  subst hv
  intro p e s m args below meth c H locs la S hr hk hn hW hH hS hL
  have hi : 13 < Y.2.2.1 := by rw [← hL.2]; simp only [List.length_cons]; omega
  obtain ⟨j, hj⟩ := List.getElem?_of_mem ((pj_as_mem (o0 :: o1 :: o2 :: o3 :: o4 :: o5 :: o6 :: o7 :: o8 :: o9 :: o10 :: o11 :: o12 :: some (.int x) :: tl) 0 13 (.int x)).mpr ⟨13, by omega, rfl⟩)
  exact lv_iinc S.1 S.2.1 hd hL.1 hj rfl hi rfl (fun la' h' => kk p e s m args below meth c H locs la' S hr hk hn hW hH hS (hL.set1 hi (fun o _ z => by cases z; exact hp) h'))
theorem pj_ist14 {o0 o1 o2 o3 o4 o5 o6 o7 o8 o9 o10 o11 o12 o13 o14 : Option Value} {tl : List (Option Value)} {x : Int32} (hd : decode Y.2.1 pc = .ok (.istore 14, 2)) (hq : pc + 2 = q) (hp : pj_c1 o13 = true) (kk : pj_V E B l Y d mc ms q (o0 :: o1 :: o2 :: o3 :: o4 :: o5 :: o6 :: o7 :: o8 :: o9 :: o10 :: o11 :: o12 :: o13 :: some (.int x) :: tl) st h n ce sl Q) : pj_V E B l Y d mc ms pc (o0 :: o1 :: o2 :: o3 :: o4 :: o5 :: o6 :: o7 :: o8 :: o9 :: o10 :: o11 :: o12 :: o13 :: o14 :: tl) (.int x :: st) h n ce sl Q := by
  subst hq
  intro p e s m args below meth c H locs la S hr hk hn hW hH hS hL
  have hi : 14 < Y.2.2.1 := by rw [← hL.2]; simp only [List.length_cons]; omega
  exact lv_istore S.1 S.2.1 hd hL.1 hi rfl (fun la' h' => kk p e s m args below meth c H locs la' S hr hk hn hW hH hS (hL.set1 hi (fun o _ z => by cases z; exact hp) h'))
theorem pj_ast14 {o0 o1 o2 o3 o4 o5 o6 o7 o8 o9 o10 o11 o12 o13 o14 : Option Value} {tl : List (Option Value)} {x : Nat} (hd : decode Y.2.1 pc = .ok (.astore 14, 2)) (hq : pc + 2 = q) (hp : pj_c1 o13 = true) (kk : pj_V E B l Y d mc ms q (o0 :: o1 :: o2 :: o3 :: o4 :: o5 :: o6 :: o7 :: o8 :: o9 :: o10 :: o11 :: o12 :: o13 :: some (.ref x) :: tl) st h n ce sl Q) : pj_V E B l Y d mc ms pc (o0 :: o1 :: o2 :: o3 :: o4 :: o5 :: o6 :: o7 :: o8 :: o9 :: o10 :: o11 :: o12 :: o13 :: o14 :: tl) (.ref x :: st) h n ce sl Q := by
  subst hq
  intro p e s m args below meth c H locs la S hr hk hn hW hH hS hL
  have hi : 14 < Y.2.2.1 := by rw [← hL.2]; simp only [List.length_cons]; omega
  exact lv_astore S.1 S.2.1 hd hL.1 hi rfl (fun la' h' => kk p e s m args below meth c H locs la' S hr hk hn hW hH hS (hL.set1 hi (fun o _ z => by cases z; exact hp) h'))
theorem pj_lst14 {o0 o1 o2 o3 o4 o5 o6 o7 o8 o9 o10 o11 o12 o13 o14 : Option Value} {o' : Option Value} {tl : List (Option Value)} {x : Int64} (hd : decode Y.2.1 pc = .ok (.lstore 14, 2)) (hq : pc + 2 = q) (hp : pj_c1 o13 = true) (kk : pj_V E B l Y d mc ms q (o0 :: o1 :: o2 :: o3 :: o4 :: o5 :: o6 :: o7 :: o8 :: o9 :: o10 :: o11 :: o12 :: o13 :: some (.long x) :: none :: tl) st h n ce sl Q) : pj_V E B l Y d mc ms pc (o0 :: o1 :: o2 :: o3 :: o4 :: o5 :: o6 :: o7 :: o8 :: o9 :: o10 :: o11 :: o12 :: o13 :: o14 :: o' :: tl) (.long x :: st) h n ce sl Q := by
  subst hq
  intro p e s m args below meth c H locs la S hr hk hn hW hH hS hL
  have hi : 14 + 1 < Y.2.2.1 := by rw [← hL.2]; simp only [List.length_cons]; omega
  exact lv_lstore S.1 S.2.1 hd hL.1 hi rfl (fun la' h' => kk p e s m args below meth c H locs la' S hr hk hn hW hH hS (hL.set2 hi (fun o _ z => by cases z; exact hp) h'))
theorem pj_iinc14 {o0 o1 o2 o3 o4 o5 o6 o7 o8 o9 o10 o11 o12 o13 : Option Value} {tl : List (Option Value)} {k : Int} {x v : Int32} (hd : decode Y.2.1 pc = .ok (.iinc 14 k, 3)) (hq : pc + 3 = q) (hp : pj_c1 o13 = true) (hv : Int32.ofInt k = v) (kk : pj_V E B l Y d mc ms q (o0 :: o1 :: o2 :: o3 :: o4 :: o5 :: o6 :: o7 :: o8 :: o9 :: o10 :: o11 :: o12 :: o13 :: some (.int (x + v)) :: tl) st h n ce sl Q) : pj_V E B l Y d mc ms pc (o0 :: o1 :: o2 :: o3 :: o4 :: o5 :: o6 :: o7 :: o8 :: o9 :: o10 :: o11 :: o12 :: o13 :: some (.int x) :: tl) st h n ce sl Q := by
  subst hq
  subst hv
  intro p e s m args below meth c H locs la S hr hk hn hW hH hS hL
  have hi : 14 < Y.2.2.1 := by rw [← hL.2]; simp only [List.length_cons]; omega
  obtain ⟨j, hj⟩ := List.getElem?_of_mem ((pj_as_mem (o0 :: o1 :: o2 :: o3 :: o4 :: o5 :: o6 :: o7 :: o8 :: o9 :: o10 :: o11 :: o12 :: o13 :: some (.int x) :: tl) 0 14 (.int x)).mpr ⟨14, by omega, rfl⟩)
  exact lv_iinc S.1 S.2.1 hd hL.1 hj rfl hi rfl (fun la' h' => kk p e s m args below meth c H locs la' S hr hk hn hW hH hS (hL.set1 hi (fun o _ z => by cases z; exact hp) h'))
theorem pj_ist15 {o0 o1 o2 o3 o4 o5 o6 o7 o8 o9 o10 o11 o12 o13 o14 o15 : Option Value} {tl : List (Option Value)} {x : Int32} (hd : decode Y.2.1 pc = .ok (.istore 15, 2)) (hq : pc + 2 = q) (hp : pj_c1 o14 = true) (kk : pj_V E B l Y d mc ms q (o0 :: o1 :: o2 :: o3 :: o4 :: o5 :: o6 :: o7 :: o8 :: o9 :: o10 :: o11 :: o12 :: o13 :: o14 :: some (.int x) :: tl) st h n ce sl Q) : pj_V E B l Y d mc ms pc (o0 :: o1 :: o2 :: o3 :: o4 :: o5 :: o6 :: o7 :: o8 :: o9 :: o10 :: o11 :: o12 :: o13 :: o14 :: o15 :: tl) (.int x :: st) h n ce sl Q := by
  subst hq
  intro p e s m args below meth c H locs la S hr hk hn hW hH hS hL
  have hi : 15 < Y.2.2.1 := by rw [← hL.2]; simp only [List.length_cons]; omega
  exact lv_istore S.1 S.2.1 hd hL.1 hi rfl (fun la' h' => kk p e s m args below meth c H locs la' S hr hk hn hW hH hS (hL.set1 hi (fun o _ z => by cases z; exact hp) h'))
theorem pj_ast15 {o0 o1 o2 o3 o4 o5 o6 o7 o8 o9 o10 o11 o12 o13 o14 o15 : Option Value} {tl : List (Option Value)} {x : Nat} (hd : decode Y.2.1 pc = .ok (.astore 15, 2)) (hq : pc + 2 = q) (hp : pj_c1 o14 = true) (kk : pj_V E B l Y d mc ms q (o0 :: o1 :: o2 :: o3 :: o4 :: o5 :: o6 :: o7 :: o8 :: o9 :: o10 :: o11 :: o12 :: o13 :: o14 :: some (.ref x) :: tl) st h n ce sl Q) : pj_V E B l Y d mc ms pc (o0 :: o1 :: o2 :: o3 :: o4 :: o5 :: o6 :: o7 :: o8 :: o9 :: o10 :: o11 :: o12 :: o13 :: o14 :: o15 :: tl) (.ref x :: st) h n ce sl Q := by
  subst hq
  intro p e s m args below meth c H locs la S hr hk hn hW hH hS hL
  have hi : 15 < Y.2.2.1 := by rw [← hL.2]; simp only [List.length_cons]; omega
  exact lv_astore S.1 S.2.1 hd hL.1 hi rfl (fun la' h' => kk p e s m args below meth c H locs la' S hr hk hn hW hH hS (hL.set1 hi (fun o _ z => by cases z; exact hp) h'))
theorem pj_lst15 {o0 o1 o2 o3 o4 o5 o6 o7 o8 o9 o10 o11 o12 o13 o14 o15 : Option Value} {o' : Option Value} {tl : List (Option Value)} {x : Int64} (hd : decode Y.2.1 pc = .ok (.lstore 15, 2)) (hq : pc + 2 = q) (hp : pj_c1 o14 = true) (kk : pj_V E B l Y d mc ms q (o0 :: o1 :: o2 :: o3 :: o4 :: o5 :: o6 :: o7 :: o8 :: o9 :: o10 :: o11 :: o12 :: o13 :: o14 :: some (.long x) :: none :: tl) st h n ce sl Q) : pj_V E B l Y d mc ms pc (o0 :: o1 :: o2 :: o3 :: o4 :: o5 :: o6 :: o7 :: o8 :: o9 :: o10 :: o11 :: o12 :: o13 :: o14 :: o15 :: o' :: tl) (.long x :: st) h n ce sl Q := by
  subst hq
  intro p e s m args below meth c H locs la S hr hk hn hW hH hS hL
  have hi : 15 + 1 < Y.2.2.1 := by rw [← hL.2]; simp only [List.length_cons]; omega
  exact lv_lstore S.1 S.2.1 hd hL.1 hi rfl (fun la' h' => kk p e s m args below meth c H locs la' S hr hk hn hW hH hS (hL.set2 hi (fun o _ z => by cases z; exact hp) h'))
theorem pj_iinc15 {o0 o1 o2 o3 o4 o5 o6 o7 o8 o9 o10 o11 o12 o13 o14 : Option Value} {tl : List (Option Value)} {k : Int} {x v : Int32} (hd : decode Y.2.1 pc = .ok (.iinc 15 k, 3)) (hq : pc + 3 = q) (hp : pj_c1 o14 = true) (hv : Int32.ofInt k = v) (kk : pj_V E B l Y d mc ms q (o0 :: o1 :: o2 :: o3 :: o4 :: o5 :: o6 :: o7 :: o8 :: o9 :: o10 :: o11 :: o12 :: o13 :: o14 :: some (.int (x + v)) :: tl) st h n ce sl Q) : pj_V E B l Y d mc ms pc (o0 :: o1 :: o2 :: o3 :: o4 :: o5 :: o6 :: o7 :: o8 :: o9 :: o10 :: o11 :: o12 :: o13 :: o14 :: some (.int x) :: tl) st h n ce sl Q := by
  subst hq
  subst hv
  intro p e s m args below meth c H locs la S hr hk hn hW hH hS hL
  have hi : 15 < Y.2.2.1 := by rw [← hL.2]; simp only [List.length_cons]; omega
  obtain ⟨j, hj⟩ := List.getElem?_of_mem ((pj_as_mem (o0 :: o1 :: o2 :: o3 :: o4 :: o5 :: o6 :: o7 :: o8 :: o9 :: o10 :: o11 :: o12 :: o13 :: o14 :: some (.int x) :: tl) 0 15 (.int x)).mpr ⟨15, by omega, rfl⟩)
  exact lv_iinc S.1 S.2.1 hd hL.1 hj rfl hi rfl (fun la' h' => kk p e s m args below meth c H locs la' S hr hk hn hW hH hS (hL.set1 hi (fun o _ z => by cases z; exact hp) h'))
theorem pj_ret_go {s : State} {args : Array Value} {H : Heap} {locs : List Loc} {r : Option Value} (hH : pj_HR E B h n H) (hS : va_S (fun q => B ≤ q) s.heap H locs) (hQ : Q r h n) : ∀ t : State, t.heap = H → s.WarmedH t.vm → pj_Qc E B Q args s (.returned r) t := fun t ht _ => ⟨⟨r, h, n, rfl, hQ, by rw [ht]; exact hH⟩, hS.F ht⟩
theorem pj_iret {x : Int32} (hy : Y.2.2.2 = some .int) (hd : decode Y.2.1 pc = .ok (.ireturn, 1)) (hce : ce ≤ mc) (hsl : sl ≤ ms) (hQ : Q (some (.int x)) h n) : pj_V E B l Y d mc ms pc ls [.int x] h n ce sl Q := by
  intro p e s m args below meth c H locs la S hr hk hn hW hH hS hL
  refine W.widen hce hsl ?_
  exact W.iret S.1 S.2.1 (hr.trans hy) (pj_ret_go hH hS hQ) hS.2.2 hd hk
theorem pj_zret {x : Int32} (hy : Y.2.2.2 = some .boolean) (hx : narrow .boolean (.int x) = .int x) (hd : decode Y.2.1 pc = .ok (.ireturn, 1)) (hce : ce ≤ mc) (hsl : sl ≤ ms) (hQ : Q (some (.int x)) h n) : pj_V E B l Y d mc ms pc ls [.int x] h n ce sl Q := by
  intro p e s m args below meth c H locs la S hr hk hn hW hH hS hL
  refine W.widen hce hsl ?_
  exact W.zret S.1 S.2.1 (hr.trans hy) hx (pj_ret_go hH hS hQ) hS.2.2 hd hk
theorem pj_lret {x : Int64} (hy : Y.2.2.2 = some .long) (hd : decode Y.2.1 pc = .ok (.lreturn, 1)) (hce : ce ≤ mc) (hsl : sl ≤ ms) (hQ : Q (some (.long x)) h n) : pj_V E B l Y d mc ms pc ls [.long x] h n ce sl Q := by
  intro p e s m args below meth c H locs la S hr hk hn hW hH hS hL
  refine W.widen hce hsl ?_
  exact W.lret S.1 S.2.1 (hr.trans hy) (pj_ret_go hH hS hQ) hS.2.2 hd hk
theorem pj_vret (hy : Y.2.2.2 = none) (hd : decode Y.2.1 pc = .ok (.return_, 1)) (hce : ce ≤ mc) (hsl : sl ≤ ms) (hQ : Q none h n) : pj_V E B l Y d mc ms pc ls [] h n ce sl Q := by
  intro p e s m args below meth c H locs la S hr hk hn hW hH hS hL
  refine W.widen hce hsl ?_
  exact W.vret S.1 S.2.1 (hr.trans hy) (pj_ret_go hH hS hQ) hS.2.2 hd hk
theorem pj_aret {x : Nat} {C : String} (hy : Y.2.2.2 = some (.object C)) (hd : decode Y.2.1 pc = .ok (.areturn, 1)) (hce : ce ≤ mc) (hsl : sl ≤ ms) (hQ : Q (some (.ref x)) h n) : pj_V E B l Y d mc ms pc ls [.ref x] h n ce sl Q := by
  intro p e s m args below meth c H locs la S hr hk hn hW hH hS hL
  refine W.widen hce hsl ?_
  exact W.aret S.1 S.2.1 (hr.trans hy) (Or.inl ⟨_, rfl⟩) (Or.inr ⟨_, rfl⟩) (pj_ret_go hH hS hQ) hS.2.2 hd hk
theorem pj_aretN {C : String} (hy : Y.2.2.2 = some (.object C)) (hd : decode Y.2.1 pc = .ok (.areturn, 1)) (hce : ce ≤ mc) (hsl : sl ≤ ms) (hQ : Q (some .null) h n) : pj_V E B l Y d mc ms pc ls [.null] h n ce sl Q := by
  intro p e s m args below meth c H locs la S hr hk hn hW hH hS hL
  refine W.widen hce hsl ?_
  exact W.aret S.1 S.2.1 (hr.trans hy) (Or.inl ⟨_, rfl⟩) (Or.inl rfl) (pj_ret_go hH hS hQ) hS.2.2 hd hk
end PJR
