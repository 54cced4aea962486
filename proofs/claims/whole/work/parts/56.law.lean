/-! ===== the law: the words of the skeleton, its judgement, its rows ===== -/
def R_law : String := "GreyDaysLaw"
def lw_P (b : Addr) (xs : List Int32) (args : Array Value) (s : State) : Prop := args = #[.ref b] ∧ s.IntsAt b xs ∧ xs.length ≤ 384 ∧ (Jvm.Cond.and given_1 narrow_1).before args s = true
def lw_Q (_ : Array Value) (s : State) (o : Outcome) (t : State) : Prop := o = .returned (some (.int 1)) ∧ Framed s o t [] 600000 7302250
def lw_Z (below : List Frame) (a : Array Value) (s : State) : State → Prop := fun t => ∃ o, t.status = .running ∧ Ended t below o ∧ lw_Q a s o t
/-- the law's own end, with 1 on the stack, nothing written that was there before, its room as the claim has it -/
theorem lw_ret {p : Program} {l : Launch} {e : Env} {s : State} {m : MethodId} {below : List Frame} {meth : Method} {c : Code} {b : Nat} (hx : p.tables.exec = Jvm.exec) (hb : c.code = code) (hr : meth.sig.returnType = ret) (hlocks : meth.locks = false) {pc : Nat} {H : Heap} {ls : Array Slot} (hdg : decode code pc = .ok (.ireturn, 1)) : W p l e room_1 s m #[Value.ref b] below meth c H [] 600000 7302250 (lw_Z below #[Value.ref b] s) (F0 m pc ls [.int 1]) := by
  intro T hT X
  obtain ⟨fs, hret, hrun, hended, hW, hframe⟩ := X.leave (v := some (.int 1)) (hlocks := hlocks) (fun h => by rw [hr] at h; cases h)
  have hmeth' : T.vm.method? m = some meth := X.method'
  refine ⟨T.setFrames fs, ?_, .returned (some (.int 1)), hrun, hended, rfl, ⟨_, rfl⟩, hW, hframe⟩
  jvm_step X.here [X.here.top, hx, hb, hdg, hmeth', hr, ret, narrow_b1]
  (try refine ⟨rfl, ?_⟩); (try refine ⟨rfl, ?_⟩)
  first | (intro acts; rw [hret _ acts rfl rfl rfl]) | rw [hret _ _ rfl rfl rfl]
  exact Steps.refl _
/-- what holds at the law's entry: the machine, the code, the tables' words (any of lw_tbl by 'hts w (by decide +kernel)'), the script of L ints xs at the cell b, what the Statement gives of the start (any of its parts by flat_of_before) -/
def lw_At (p : Program) (s : State) (m : MethodId) (meth : Method) (c : Code) (b L : Nat) (xs : Nat → Int32) : Prop :=
  p.tables.exec = Jvm.exec ∧ c.code = code ∧ meth.sig.returnType = ret ∧ c.maxLocals = 4 ∧ s.vm.findClass R_law = some m.cls ∧ (∀ w ∈ lw_tbl, w.before #[Value.ref b] s = true) ∧ va_X b L xs s s.heap ∧ b < s.heap.size ∧ meth.locks = false ∧ (Jvm.Cond.and given_1 narrow_1).before #[Value.ref b] s = true
theorem gd_WF0 {p : Program} {s : State} {m : MethodId} {meth : Method} {c : Code} {b L : Nat} {xs : Nat → Int32} (C0 : lw_At p s m meth c b L xs) : ∃ E : pj_E, pj_WF E s := by
  obtain ⟨hx, hb, hr, hml, hown, hts, hX, hbl, hlocks, hgv⟩ := C0
  obtain ⟨c0, i0, k0⟩ := u_known (C := RX0) (T := TX0) (N := 3) (n := 3) hts pj_inX0 (hts _ iX0)
  obtain ⟨c1, i1, k1⟩ := u_known (C := RX1) (T := TX1) (N := 3) (n := 3) hts pj_inX1 (hts _ iX1)
  obtain ⟨c2, i2, k2⟩ := u_known (C := RX2) (T := TX2) (N := 3) (n := 3) hts pj_inX2 (hts _ iX2)
  obtain ⟨c3, i3, k3⟩ := u_known (C := RX3) (T := TX3) (N := 3) (n := 3) hts pj_inX3 (hts _ iX3)
  obtain ⟨c4, i4, k4⟩ := u_known (C := RX4) (T := TX4) (N := 3) (n := 3) hts pj_inX4 (hts _ iX4)
  obtain ⟨c5, i5, k5⟩ := u_known (C := RX5) (T := TX5) (N := 3) (n := 3) hts pj_inX5 (hts _ iX5)
  obtain ⟨c6, i6, k6⟩ := u_known (C := RX6) (T := TX6) (N := 3) (n := 3) hts pj_inX6 (hts _ iX6)
  obtain ⟨c7, i7, k7⟩ := u_known (C := RX7) (T := TX7) (N := 5) (n := 5) hts pj_inX7 (hts _ iX7)
  obtain ⟨c8, i8, k8⟩ := u_known (C := RX9) (T := TX9) (N := 12) (n := 12) hts pj_inX9 (hts _ iX9)
  obtain ⟨c9, i9, k9⟩ := u_known (C := RX10) (T := TX10) (N := 3) (n := 3) hts pj_inX10 (hts _ iX10)
  obtain ⟨c10, i10, k10⟩ := u_known (C := RX11) (T := TX11) (N := 8) (n := 8) hts pj_inX11 (hts _ iX11)
  obtain ⟨c11, i11, k11⟩ := u_known (C := RX12) (T := TX12) (N := 24) (n := 24) hts pj_inX12 (hts _ iX12)
  obtain ⟨a0, q0, r0, x0, y0, z0⟩ := Cond.arrayClass_spec (hts _ ac_int)
  obtain ⟨a1, q1, r1, x1, y1, z1⟩ := Cond.arrayClass_spec (hts _ ac_boolean)
  obtain ⟨r2, a2, q2, f2, -, y2, z2, x2⟩ := Cond.arrayOver_spec (hts _ ao_Thing)
  obtain ⟨r3, a3, q3, f3, -, y3, z3, x3⟩ := Cond.arrayOver_spec (hts _ ao_Town)
  obtain ⟨r4, a4, q4, f4, -, y4, z4, x4⟩ := arrayOverA_spec (hts _ ao_int)
  have hs := flat_of_before _ hgv
  refine ⟨((fun k => if k = 0 then c0 else if k = 1 then c1 else if k = 2 then c2 else if k = 3 then c3 else if k = 4 then c4 else if k = 5 then c5 else if k = 6 then c6 else if k = 7 then c7 else if k = 8 then c8 else if k = 9 then c9 else if k = 10 then c10 else c11, fun k => if k = 0 then i0 else if k = 1 then i1 else if k = 2 then i2 else if k = 3 then i3 else if k = 4 then i4 else if k = 5 then i5 else if k = 6 then i6 else if k = 7 then i7 else if k = 8 then i8 else if k = 9 then i9 else if k = 10 then i10 else i11), fun k => if k = 0 then a0 else if k = 1 then a1 else if k = 2 then a2 else if k = 3 then a3 else a4), ⟨fun k q hq => ?_, fun k q hq => ?_⟩, fun q hq => ?_⟩
  · match k, hq with
    | 0, hq => cases hq; exact k0
    | 1, hq => cases hq; exact k1
    | 2, hq => cases hq; exact k2
    | 3, hq => cases hq; exact k3
    | 4, hq => cases hq; exact k4
    | 5, hq => cases hq; exact k5
    | 6, hq => cases hq; exact k6
    | 7, hq => cases hq; exact k7
    | 8, hq => cases hq; exact k8
    | 9, hq => cases hq; exact k9
    | 10, hq => cases hq; exact k10
    | 11, hq => cases hq; exact k11
    | k + 12, hq => exact absurd hq (by simp [vwCl])
  · match k, hq with
    | 0, hq => cases hq; exact ⟨fun n z => ⟨(fun q hq => by cases hq), q0, y0, r0, z0⟩, x0⟩
    | 1, hq => cases hq; exact ⟨fun n z => ⟨(fun q hq => by cases hq), q1, y1, r1, z1⟩, x1⟩
    | 2, hq => cases hq; exact ⟨fun n z => ⟨(fun q hq => by cases hq), q2, y2, r2, z2⟩, q2, r2, y2, z2, f2, x2⟩
    | 3, hq => cases hq; exact ⟨fun n z => ⟨(fun q hq => by cases hq), q3, y3, r3, z3⟩, q3, r3, y3, z3, f3, x3⟩
    | 4, hq => cases hq; exact ⟨fun n z => ⟨(fun q hq => by cases hq), q4, y4, r4, z4⟩, x4⟩
    | k + 5, hq => exact absurd hq (by simp [pj_tys])
  · simp only [pj_ncs, List.mem_cons, List.not_mem_nil, or_false] at hq
    rcases hq with rfl | rfl | rfl | rfl | rfl | rfl | rfl | rfl | rfl | rfl | rfl | rfl | rfl | rfl | rfl | rfl | rfl <;> exact va_Nc.of (hs _ (by decide +kernel))
def gd_LU (p : Program) (l : Launch) (e : Env) (s : State) (m : MethodId) (below : List Frame) (meth : Method) (c : Code) (b : Nat) (E : pj_E) (pc : Nat) (ls : List (Option Value)) (st : List Value) (h : pj_H) (n ce sl : Nat) : Prop := ∀ (H : Heap) (locs : List Loc) (la : Array Slot), pj_HR E s.heap.size h n H → va_S (fun q => s.heap.size ≤ q) s.heap H locs → pj_L la 4 ls → W p l e room_1 s m #[Value.ref b] below meth c H locs ce sl (lw_Z below #[Value.ref b] s) (F0 m pc la st)
abbrev gd_LS (p : Program) (s : State) (m : MethodId) (c : Code) (b : Nat) : Prop := CallFix p m c code 4 s #[Value.ref b] lw_tbl RL
section
variable {p : Program} {l : Launch} {e : Env} {s : State} {m : MethodId} {below : List Frame} {meth : Method} {c : Code} {b L : Nat} {xs : Nat → Int32} {E : pj_E} {pc q : Nat} {ls : List (Option Value)} {st rest As : List Value} {h : pj_H} {n ce sl : Nat}
theorem gd_lwid {ce' sl' : Nat} (h1 : ce ≤ ce') (h2 : sl ≤ sl') (kk : gd_LU p l e s m below meth c b E pc ls st h n ce' sl') : gd_LU p l e s m below meth c b E pc ls st h n ce sl := fun H locs la hH hS hL => W.widen h1 h2 (kk H locs la hH hS hL)
theorem gd_lald (S : gd_LS p s m c b) {k : Fin 4} {a : Nat} (hd : decode code pc = .ok (.aload_n k, 1)) (hq : pc + 1 = q) (hk : ls[(k : Nat)]? = some (some (.ref a))) (kk : gd_LU p l e s m below meth c b E q ls (.ref a :: st) h n ce sl) : gd_LU p l e s m below meth c b E pc ls st h n ce sl := by
  subst hq
  intro H locs la hH hS hL
  exact lv_aload_n S.1 S.2.1 hd rfl (hL.at hk) (kk H locs la hH hS hL)
theorem gd_lild (S : gd_LS p s m c b) {k : Fin 4} {x : Int32} (hd : decode code pc = .ok (.iload_n k, 1)) (hq : pc + 1 = q) (hk : ls[(k : Nat)]? = some (some (.int x))) (kk : gd_LU p l e s m below meth c b E q ls (.int x :: st) h n ce sl) : gd_LU p l e s m below meth c b E pc ls st h n ce sl := by
  subst hq
  intro H locs la hH hS hL
  exact lv_iload_n S.1 S.2.1 hd rfl (hL.at hk) (kk H locs la hH hS hL)
theorem gd_liconst (S : gd_LS p s m c b) {k : Int} {v : Int32} (hd : decode code pc = .ok (.iconst k, 1)) (hq : pc + 1 = q) (hv : Int32.ofInt k = v) (kk : gd_LU p l e s m below meth c b E q ls (.int v :: st) h n ce sl) : gd_LU p l e s m below meth c b E pc ls st h n ce sl := by
  subst hq
  intro H locs la hH hS hL
  exact lv_iconst S.1 S.2.1 hd hv (kk H locs la hH hS hL)
theorem gd_lbipush (S : gd_LS p s m c b) {k : Int} {v : Int32} (hd : decode code pc = .ok (.bipush k, 2)) (hq : pc + 2 = q) (hv : (Int8.ofInt k).toInt32 = v) (kk : gd_LU p l e s m below meth c b E q ls (.int v :: st) h n ce sl) : gd_LU p l e s m below meth c b E pc ls st h n ce sl := by
  subst hq
  intro H locs la hH hS hL
  exact lv_bipush S.1 S.2.1 hd hv (kk H locs la hH hS hL)
theorem gd_liadd (S : gd_LS p s m c b) {x y : Int32} (hd : decode code pc = .ok (.iadd, 1)) (hq : pc + 1 = q) (kk : gd_LU p l e s m below meth c b E q ls (.int (x + y) :: st) h n ce sl) : gd_LU p l e s m below meth c b E pc ls (.int y :: .int x :: st) h n ce sl := by
  subst hq
  intro H locs la hH hS hL
  exact lv_iadd S.1 S.2.1 hd (kk H locs la hH hS hL)
theorem gd_lisub (S : gd_LS p s m c b) {x y : Int32} (hd : decode code pc = .ok (.isub, 1)) (hq : pc + 1 = q) (kk : gd_LU p l e s m below meth c b E q ls (.int (x - y) :: st) h n ce sl) : gd_LU p l e s m below meth c b E pc ls (.int y :: .int x :: st) h n ce sl := by
  subst hq
  intro H locs la hH hS hL
  exact lv_isub S.1 S.2.1 hd (kk H locs la hH hS hL)
theorem gd_liand (S : gd_LS p s m c b) {x y : Int32} (hd : decode code pc = .ok (.iand, 1)) (hq : pc + 1 = q) (kk : gd_LU p l e s m below meth c b E q ls (.int (x &&& y) :: st) h n ce sl) : gd_LU p l e s m below meth c b E pc ls (.int y :: .int x :: st) h n ce sl := by
  subst hq
  intro H locs la hH hS hL
  exact lv_iand S.1 S.2.1 hd (kk H locs la hH hS hL)
theorem gd_llcmp (S : gd_LS p s m c b) {x y : Int64} (hd : decode code pc = .ok (.lcmp, 1)) (hq : pc + 1 = q) (kk : gd_LU p l e s m below meth c b E q ls (.int (lg_cmp x y) :: st) h n ce sl) : gd_LU p l e s m below meth c b E pc ls (.long y :: .long x :: st) h n ce sl := by
  subst hq
  intro H locs la hH hS hL
  exact W.lcmp S.1 S.2.1 hd (kk H locs la hH hS hL)
theorem gd_licmpgt (S : gd_LS p s m c b) {x y : Int32} {t : Nat} {off : Int} (hd : decode code pc = .ok (.if_icmp .gt off, 3)) (hq : pc + 3 = q) (ht : (pc : Int) + off = (t : Int)) (kt : y < x → gd_LU p l e s m below meth c b E t ls st h n ce sl) (kf : ¬ y < x → gd_LU p l e s m below meth c b E q ls st h n ce sl) : gd_LU p l e s m below meth c b E pc ls (.int y :: .int x :: st) h n ce sl := by
  subst hq
  intro H locs la hH hS hL
  exact lv_icmp_gt S.1 S.2.1 hd ht (fun z => kt z H locs la hH hS hL) (fun z => kf z H locs la hH hS hL)
theorem gd_licmpeq (S : gd_LS p s m c b) {x : Int32} {t : Nat} {off : Int} (hd : decode code pc = .ok (.if_icmp .eq off, 3)) (ht : (pc : Int) + off = (t : Int)) (kt : gd_LU p l e s m below meth c b E t ls st h n ce sl) : gd_LU p l e s m below meth c b E pc ls (.int x :: .int x :: st) h n ce sl := by
  intro H locs la hH hS hL
  exact lv_icmp_eq S.1 S.2.1 hd ht (fun _ => kt H locs la hH hS hL) (fun z => absurd rfl z)
theorem gd_lifeq (S : gd_LS p s m c b) {x : Int32} {t : Nat} {off : Int} (hd : decode code pc = .ok (.ifCond .eq off, 3)) (ht : (pc : Int) + off = (t : Int)) (hx : x = 0) (kt : gd_LU p l e s m below meth c b E t ls st h n ce sl) : gd_LU p l e s m below meth c b E pc ls (.int x :: st) h n ce sl := by
  intro H locs la hH hS hL
  exact lv_if_eq S.1 S.2.1 hd ht (fun _ => kt H locs la hH hS hL) (fun z => absurd hx z)
theorem gd_lgoto (S : gd_LS p s m c b) {t : Nat} {off : Int} (hd : decode code pc = .ok (.goto off, 3)) (ht : (pc : Int) + off = (t : Int)) (kk : gd_LU p l e s m below meth c b E t ls st h n ce sl) : gd_LU p l e s m below meth c b E pc ls st h n ce sl := by
  intro H locs la hH hS hL
  exact lv_goto S.1 S.2.1 hd ht (kk H locs la hH hS hL)
theorem gd_ltabIn (S : gd_LS p s m c b) {t len : Nat} {dflt lo hi off : Int} {offs : Array Int} {x : Int32} (hd : decode code pc = .ok (.tableswitch dflt lo hi offs, len)) (h1 : ¬ x.toInt < lo) (h2 : ¬ hi < x.toInt) (ho : offs[(x.toInt - lo).toNat]? = some off) (ht : (pc : Int) + off = (t : Int)) (kk : gd_LU p l e s m below meth c b E t ls st h n ce sl) : gd_LU p l e s m below meth c b E pc ls (.int x :: st) h n ce sl := by
  intro H locs la hH hS hL
  exact lv_tableIn S.1 S.2.1 hd h1 h2 ho ht (kk H locs la hH hS hL)
theorem gd_ltabOut (S : gd_LS p s m c b) {t len : Nat} {dflt lo hi : Int} {offs : Array Int} {x : Int32} (hd : decode code pc = .ok (.tableswitch dflt lo hi offs, len)) (hx : x.toInt < lo ∨ hi < x.toInt) (ht : (pc : Int) + dflt = (t : Int)) (kk : gd_LU p l e s m below meth c b E t ls st h n ce sl) : gd_LU p l e s m below meth c b E pc ls (.int x :: st) h n ce sl := by
  intro H locs la hH hS hL
  exact lv_tableOut S.1 S.2.1 hd hx ht (kk H locs la hH hS hL)
theorem gd_ldup (S : gd_LS p s m c b) {v : Value} (hd : decode code pc = .ok (.dup, 1)) (hq : pc + 1 = q) (hv : v.category = 1) (kk : gd_LU p l e s m below meth c b E q ls (v :: v :: st) h n ce sl) : gd_LU p l e s m below meth c b E pc ls (v :: st) h n ce sl := by
  subst hq
  intro H locs la hH hS hL
  exact lv_dup S.1 S.2.1 hd hv (kk H locs la hH hS hL)
theorem gd_lslen (S : gd_LS p s m c b) (hX : va_X b L xs s s.heap) (hbl : b < s.heap.size) (hd : decode code pc = .ok (.arraylength, 1)) (hq : pc + 1 = q) (kk : gd_LU p l e s m below meth c b E q ls (.int (nI L) :: st) h n ce sl) : gd_LU p l e s m below meth c b E pc ls (.ref b :: st) h n ce sl := by
  subst hq
  intro H locs la hH hS hL
  exact va_slen S.1 S.2.1 hX hbl (Nat.not_le.mpr hbl) hS hd (kk H locs la hH hS hL)
theorem gd_lsld (S : gd_LS p s m c b) (hX : va_X b L xs s s.heap) (hbl : b < s.heap.size) {j : Nat} (hj : j < L) (hL4 : L ≤ 384) (hd : decode code pc = .ok (.iaload, 1)) (hq : pc + 1 = q) (kk : gd_LU p l e s m below meth c b E q ls (.int (xs j) :: st) h n ce sl) : gd_LU p l e s m below meth c b E pc ls (.int (nI j) :: .ref b :: st) h n ce sl := by
  subst hq
  intro H locs la hH hS hL
  refine va_sld S.1 S.2.1 hX hbl (Nat.not_le.mpr hbl) hS (vp_in_nI hj (by omega)) hd ?_
  rw [nI_clamp (by omega)]
  exact kk H locs la hH hS hL
theorem gd_larg (S : gd_LS p s m c b) (hX : va_X b L xs s s.heap) (hbl : b < s.heap.size) (hL4 : L ≤ 384) {k i : Nat} {ki : Int} {o1 o2 : Option Value} (d0 : decode code pc = .ok (.aload_n 0, 1)) (d1 : decode code (pc + 1) = .ok (.iload_n 3, 1)) (d2 : decode code (pc + 1 + 1) = .ok (.iconst ki, 1)) (d3 : decode code (pc + 1 + 1 + 1) = .ok (.iadd, 1)) (d4 : decode code (pc + 1 + 1 + 1 + 1) = .ok (.iaload, 1)) (hq : pc + 1 + 1 + 1 + 1 + 1 = q) (hk : Int32.ofInt ki = nI k) (hi : i + k < L) (kk : gd_LU p l e s m below meth c b E q [some (.ref b), o1, o2, some (.int (nI i))] (.int (xs (i + k)) :: st) h n ce sl) : gd_LU p l e s m below meth c b E pc [some (.ref b), o1, o2, some (.int (nI i))] st h n ce sl := by
  refine gd_lald S d0 rfl rfl ?_
  refine gd_lild S d1 rfl rfl ?_
  refine gd_liconst S d2 rfl hk ?_
  refine gd_liadd S d3 rfl ?_
  rw [nI_add]
  exact gd_lsld S hX hbl hi hL4 d4 hq kk
theorem gd_last1 (S : gd_LS p s m c b) {o1 o2 o3 : Option Value} {o0 : Option Value} {x : Nat} (hd : decode code pc = .ok (.astore_n 1, 1)) (hq : pc + 1 = q) (hp : pj_c1 o0 = true) (kk : gd_LU p l e s m below meth c b E q [o0, some (.ref x), o2, o3] st h n ce sl) : gd_LU p l e s m below meth c b E pc [o0, o1, o2, o3] (.ref x :: st) h n ce sl := by
  subst hq
  intro H locs la hH hS hL
  exact lv_astore_n S.1 S.2.1 hd rfl hL.1 (show 1 < 4 by decide) rfl (fun la' h' => kk H locs la' hH hS (hL.set1 (by decide) (fun o _ z => by cases z; exact hp) h'))
theorem gd_last2 (S : gd_LS p s m c b) {o0 o1 o2 o3 : Option Value} {x : Nat} (hd : decode code pc = .ok (.astore_n 2, 1)) (hq : pc + 1 = q) (hp : pj_c1 o1 = true) (kk : gd_LU p l e s m below meth c b E q [o0, o1, some (.ref x), o3] st h n ce sl) : gd_LU p l e s m below meth c b E pc [o0, o1, o2, o3] (.ref x :: st) h n ce sl := by
  subst hq
  intro H locs la hH hS hL
  exact lv_astore_n S.1 S.2.1 hd rfl hL.1 (show 2 < 4 by decide) rfl (fun la' h' => kk H locs la' hH hS (hL.set1 (by decide) (fun o _ z => by cases z; exact hp) h'))
theorem gd_list3 (S : gd_LS p s m c b) {o0 o1 o2 o3 : Option Value} {x : Int32} (hd : decode code pc = .ok (.istore_n 3, 1)) (hq : pc + 1 = q) (hp : pj_c1 o2 = true) (kk : gd_LU p l e s m below meth c b E q [o0, o1, o2, some (.int x)] st h n ce sl) : gd_LU p l e s m below meth c b E pc [o0, o1, o2, o3] (.int x :: st) h n ce sl := by
  subst hq
  intro H locs la hH hS hL
  exact lv_istore_n S.1 S.2.1 hd rfl hL.1 (show 3 < 4 by decide) rfl (fun la' h' => kk H locs la' hH hS (hL.set1 (by decide) (fun o _ z => by cases z; exact hp) h'))
theorem gd_liinc3 (S : gd_LS p s m c b) {o0 o1 o2 : Option Value} {k : Int} {x v : Int32} (hd : decode code pc = .ok (.iinc 3 k, 3)) (hq : pc + 3 = q) (hp : pj_c1 o2 = true) (hv : Int32.ofInt k = v) (kk : gd_LU p l e s m below meth c b E q [o0, o1, o2, some (.int (x + v))] st h n ce sl) : gd_LU p l e s m below meth c b E pc [o0, o1, o2, some (.int x)] st h n ce sl := by
  subst hq
  subst hv
  intro H locs la hH hS hL
  obtain ⟨j, hj⟩ := List.getElem?_of_mem ((pj_as_mem [o0, o1, o2, some (.int x)] 0 3 (.int x)).mpr ⟨3, by omega, rfl⟩)
  exact lv_iinc S.1 S.2.1 hd hL.1 hj rfl (show 3 < 4 by decide) rfl (fun la' h' => kk H locs la' hH hS (hL.set1 (by decide) (fun o _ z => by cases z; exact hp) h'))
theorem gd_lnew (S : gd_LS p s m c b) (hW : pj_WF E s) {i ci N : Nat} {C : String} {T : u_T} {fs : List Value} (hd : decode code pc = .ok (.new i, 3)) (hq : pc + 3 = q) (hl : Cond.classLink RL i C ∈ lw_tbl) (hi : Cond.instantiable C N ∈ lw_tbl) (hz : Cond.initialized C ∈ lw_tbl) (hc : vwCl[ci]? = some (C, T, N)) (ty : Nat → FieldType) (hty : ∀ k, k < N → parseFieldDescriptor (T k).2.2.1 = some (ty k)) (hfs : ∀ j, j < N → defaultValue (ty j) = vp_V fs j) (hB : s.heap.size ≤ n) (hce : ce + 1 ≤ 600000) (hsl : sl + N ≤ 7302250) (kk : gd_LU p l e s m below meth c b E q ls (.ref n :: st) (pj_up h n (.inr (ci, fs))) (n + 1) (ce + 1) (sl + N)) : gd_LU p l e s m below meth c b E pc ls st h n ce sl := by
  subst hq
  intro H locs la hH hS hL
  have hKn := hW.1.1 ci _ hc
  refine W.newcK S.1 S.2.1 S.2.2.2.1 (S.2.2.2.2 _ hl) (S.2.2.2.2 _ hi) (S.2.2.2.2 _ hz) rfl hd hce hsl hKn.2.1 hH.1 fun H1 kC hkC e1 z1 o1 => ?_
  exact kk H1 locs la (hH.push hB ⟨_, hc, (u_born ty S.2.2.2.2 (pj_cls hc).1 hKn hkC e1 hty).to hfs⟩ z1 o1) (pj_S_push hS hH.1 (by omega) o1) hL
theorem gd_lcb {args : Array Value} {Y' : pj_Y} {np d' mc' ms' : Nat} (hts : ∀ w ∈ lw_tbl, w.before args s = true) (ho : pj_ok Y' np) (hdd : d' ≤ 1000) : ((pj_rm d' mc' ms').cells = mc' ∧ (pj_rm d' mc' ms').slots = ms' ∧ (pj_rm d' mc' ms').frames + 1 ≤ room_1.frames ∧ 8 + (Y'.2.2.1 + 11) + (pj_rm d' mc' ms').locals ≤ room_1.locals ∧ (∀ w ∈ (Cond.code Y'.1 Y'.2.1 Y'.2.2.1 Y'.2.2.2 :: lw_tbl), ∀ (a' : Array Value) (U : State), s.WarmedH U.vm → w.before a' U = true) ∧ Cond.code Y'.1 Y'.2.1 Y'.2.2.1 Y'.2.2.2 ∈ (Cond.code Y'.1 Y'.2.1 Y'.2.2.1 Y'.2.2.2 :: lw_tbl)) := by
  refine ⟨rfl, rfl, by show d' + 1 ≤ 2048; omega, ?_, pj_words hts ho.1, List.mem_cons_self⟩
  show 8 + (Y'.2.2.1 + 11) + 64 * d' ≤ 84000
  have := ho.2.2.2.2
  omega
theorem gd_lgo {a : Array Value} {H : Heap} {locs : List Loc} {la : Array Slot} {mc' ms' : Nat} {P : Option Value → pj_H → Nat → Prop} (hrun : va_Run p l e room_1 s m #[Value.ref b] below meth c H locs ce sl mc' ms' (F0 m pc la st) rest (pj_Qc E s.heap.size P a) (fun q => s.heap.size ≤ q)) (hS : va_S (fun q => s.heap.size ≤ q) s.heap H locs) (hL : pj_L la 4 ls) (kk : ∀ r h' n', P r h' n' → gd_LU p l e s m below meth c b E (pc + 3) ls (r.toList ++ rest) h' n' (ce + mc') (sl + ms')) : W p l e room_1 s m #[Value.ref b] below meth c H locs ce sl (lw_Z below #[Value.ref b] s) (F0 m pc la st) := by
  intro T hT X
  obtain ⟨v, st₀, t, T', L, h0, X', hLc, e1, e2, ⟨⟨r, h', n', hv, hP, hH'⟩, hz, hkp⟩, stp⟩ := hrun T hT X
  cases hv
  rw [h0] at hz hkp
  obtain ⟨t2, a1, b1⟩ := kk v h' n' hP T'.heap (locs ++ L) la (by rw [e1]; exact hH')
    ⟨Nat.le_trans hS.1 (by rw [e1]; exact hz), fun q h1 h2 => by rw [e1, hkp q (Nat.lt_of_lt_of_le h1 hS.1) h2]; exact hS.2.1 q h1 h2, fun q hq => by
      rcases List.mem_append.mp hq with h | h
      · exact hS.2.2 q h
      · exact hLc q h⟩ hL T' rfl X'
  exact ⟨t2, stp t2 a1, b1⟩
theorem gd_lV (S : gd_LS p s m c b) (hW : pj_WF E s) {i a ci d' mc' ms' np : Nat} {Y' : pj_Y} {P : Option Value → pj_H → Nat → Prop} {fs : List Value} {r : vw_C} (hC : pj_Ct E s.heap.size l Y' d' mc' ms' (.ref a :: As) h n P) (hd : decode code pc = .ok (.invokevirtual i, 3)) (hq : pc + 3 = q) (hl : Cond.methodLink RL i Y'.1 ∈ lw_tbl) (ho : pj_okV Y' np) (hb : h a = some (.inr (ci, fs))) (hc : vwCl[ci]? = some r) (hrc : r.1 = Y'.1.cls) (hst : st = As.reverse ++ .ref a :: rest) (hn : As.length = np) (hw : (rest.map fun v => v.category).sum ≤ 8) (hdd : d' ≤ 1000) (hce : ce + mc' ≤ 600000) (hsl : sl + ms' ≤ 7302250) (kk : ∀ r h' n', P r h' n' → gd_LU p l e s m below meth c b E q ls (r.toList ++ rest) h' n' (ce + mc') (sl + ms')) : gd_LU p l e s m below meth c b E pc ls st h n ce sl := by
  subst hq
  intro H locs la hH hS hL
  obtain ⟨o1, o2, o3⟩ := ho
  obtain ⟨g1, g2, g3, g4, g5, g6⟩ := gd_lcb (mc' := mc') (ms' := ms') S.2.2.2.2 o1 hdd
  exact gd_lgo (va_runV (C := r.1) (b := a) (As := As) (rest := rest) S hC ⟨⟨g1, g2, g3, g4, g5, g6, S.2.2.2.2 _ o1.1, S.2.2.2.2 _ o1.2.1, o1.2.2.1, pj_np o1.2.2.2.1, S.2.2.2.2 _ hl⟩, S.2.2.2.2 _ o2, by rw [hrc]; exact S.2.2.2.2 _ o3⟩ ⟨pj_Pc_blind E s.heap.size _ h n, pj_recv (p := fun _ => True) hW hH hc hb, fun U hU hWm => ⟨rfl, hW.moved hWm.alike, by rw [hU]; exact hH⟩⟩ rfl hn hL.1.1 hst (lv_room hw) hd ⟨hce, hsl⟩) hS hL kk
theorem gd_lI (S : gd_LS p s m c b) (hW : pj_WF E s) {i a d' mc' ms' np : Nat} {Y' : pj_Y} {P : Option Value → pj_H → Nat → Prop} (hC : pj_Ct E s.heap.size l Y' d' mc' ms' (.ref a :: As) h n P) (hd : decode code pc = .ok (.invokespecial i, 3)) (hq : pc + 3 = q) (hl : Cond.methodLink RL i Y'.1 ∈ lw_tbl) (ho : pj_okI Y' np) (hst : st = As.reverse ++ .ref a :: rest) (hn : As.length = np) (hw : (rest.map fun v => v.category).sum ≤ 8) (hdd : d' ≤ 1000) (hce : ce + mc' ≤ 600000) (hsl : sl + ms' ≤ 7302250) (kk : ∀ r h' n', P r h' n' → gd_LU p l e s m below meth c b E q ls (r.toList ++ rest) h' n' (ce + mc') (sl + ms')) : gd_LU p l e s m below meth c b E pc ls st h n ce sl := by
  subst hq
  intro H locs la hH hS hL
  obtain ⟨o1, o2, o3, o4⟩ := ho
  obtain ⟨g1, g2, g3, g4, g5, g6⟩ := gd_lcb (mc' := mc') (ms' := ms') S.2.2.2.2 o1 hdd
  exact gd_lgo (va_runI (b := a) (As := As) (rest := rest) (bytes := Y'.2.1) (maxL := Y'.2.2.1) S hC ⟨⟨g1, g2, g3, g4, g5, by rw [← o4]; exact g6, by rw [← o4]; exact S.2.2.2.2 _ o1.1, S.2.2.2.2 _ o1.2.1, o1.2.2.1, pj_np o1.2.2.2.1, S.2.2.2.2 _ hl⟩, o2, S.2.2.2.2 _ o3⟩ ⟨pj_Pc_blind E s.heap.size _ h n, fun U hU hWm => ⟨rfl, hW.moved hWm.alike, by rw [hU]; exact hH⟩⟩ rfl hn hL.1.1 hst (lv_room hw) hd ⟨hce, hsl⟩) hS hL kk
theorem gd_lend (S : gd_LS p s m c b) (hr : meth.sig.returnType = ret) (hk : meth.locks = false) (hd : decode code pc = .ok (.ireturn, 1)) (hce : ce ≤ 600000) (hsl : sl ≤ 7302250) : gd_LU p l e s m below meth c b E pc ls [.int 1] h n ce sl := by
  intro H locs la hH hS hL
  refine W.widen hce hsl ?_
  refine va_forget hS.2.2 ?_
  exact lw_ret S.1 S.2.1 hr hk hd
end
