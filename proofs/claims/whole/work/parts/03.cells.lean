/-! ===== the pure layer: cells ===== -/
theorem pj_HR.lt {E : pj_E} {B : Nat} {h : pj_H} {n : Nat} {H : Heap} (hH : pj_HR E B h n H) {a : Nat} {c : pj_C} (ha : h a = some c) : a < n := by
  have := (hH.2 a c ha).2.lt
  rw [← hH.1]; exact this
theorem pj_HR.up {E : pj_E} {B : Nat} {h : pj_H} {n : Nat} {H H1 : Heap} {a : Nat} {c0 c : pj_C} (hH : pj_HR E B h n H) (ha : h a = some c0) (hc : va_at E.1 vwCl (a, pj_e E c) H1) (hz : H1.size = H.size) (oq : ∀ q : Nat, q ≠ a → H1[q]? = H[q]?) : pj_HR E B (pj_up h a c) n H1 := by
  refine ⟨hz.trans hH.1, fun b d hb => ?_⟩
  by_cases hba : b = a
  · subst hba
    rw [pj_up_s] at hb
    cases hb
    exact ⟨(hH.2 b c0 ha).1, hc⟩
  · rw [pj_up_n hba] at hb
    exact ⟨(hH.2 b d hb).1, (hH.2 b d hb).2.kept (oq b hba)⟩
theorem pj_HR.push {E : pj_E} {B : Nat} {h : pj_H} {n : Nat} {H H1 : Heap} {c : pj_C} (hH : pj_HR E B h n H) (hB : B ≤ n) (hc : va_at E.1 vwCl (n, pj_e E c) H1) (hz : H1.size = n + 1) (oq : ∀ q : Nat, q < n → H1[q]? = H[q]?) : pj_HR E B (pj_up h n c) (n + 1) H1 := by
  refine ⟨hz, fun b d hb => ?_⟩
  by_cases hba : b = n
  · subst hba
    rw [pj_up_s] at hb
    cases hb
    exact ⟨hB, hc⟩
  · rw [pj_up_n hba] at hb
    exact ⟨(hH.2 b d hb).1, (hH.2 b d hb).2.kept (oq b (hH.lt hb))⟩
theorem pj_S_put {B : Nat} {H0 H H1 : Heap} {locs : List Loc} {a i : Nat} (hS : va_S (fun q => B ≤ q) H0 H locs) (hz : H1.size = H.size) (oq : ∀ q : Nat, q ≠ a → H1[q]? = H[q]?) (ha : B ≤ a) : va_S (fun q => B ≤ q) H0 H1 (locs ++ [⟨a, i⟩]) := hS.put hz oq ha
theorem pj_S_push {B n : Nat} {H0 H H1 : Heap} {locs : List Loc} (hS : va_S (fun q => B ≤ q) H0 H locs) (hn : H.size = n) (hz : n ≤ H1.size) (oq : ∀ q : Nat, q < n → H1[q]? = H[q]?) : va_S (fun q => B ≤ q) H0 H1 locs := by
  subst hn
  exact ⟨Nat.le_trans hS.1 hz, fun q h1 h2 => (oq q (Nat.lt_of_lt_of_le h1 hS.1)).trans (hS.2.1 q h1 h2), hS.2.2⟩
theorem pj_ty {E : pj_E} {s : State} (hW : pj_WF E s) {t : Nat} {ty : FieldType} (ht : (pj_tys E)[t]? = some (E.2 t, ty)) : ArrOfT s (E.2 t) ty ∧ va_RA s (E.2 t) ty := hW.1.2 t _ ht
/-- the k-th field of the class of that number: class that declares it, name, descriptor, whether final -/
def pj_fld (ci k : Nat) : Option (String × String × String × Bool) := match vwCl[ci]? with
  | some r => if k < r.2.2 then some (r.2.1 k) else none
  | none => none
theorem pj_fld_spec {ci k : Nat} {F : String × String × String × Bool} (h : pj_fld ci k = some F) : ∃ (C : String) (T : u_T) (N : Nat), vwCl[ci]? = some (C, T, N) ∧ k < N ∧ T k = F := by
  unfold pj_fld at h
  cases hv : vwCl[ci]? with
  | none => rw [hv] at h; cases h
  | some r =>
    rw [hv] at h
    obtain ⟨C, T, N⟩ := r
    by_cases hk : k < N
    · simp only [hk, if_true] at h
      cases h
      exact ⟨C, T, N, rfl, hk, rfl⟩
    · simp only [hk, if_false] at h
      cases h
/-- what the tables say of each class -/
def pj_clok (C : String) (T : u_T) (N : Nat) : Prop := (∀ w ∈ u_ws C T N, w ∈ lw_tbl) ∧ (∃ ty : Nat → FieldType, ∀ k, k < N → parseFieldDescriptor (T k).2.2.1 = some (ty k)) ∧ (∀ a, a < N → ∀ b, b < N → a ≠ b → (T a).2.1 ≠ (T b).2.1)
theorem pj_cls {ci : Nat} {C : String} {T : u_T} {N : Nat} (h : vwCl[ci]? = some (C, T, N)) : pj_clok C T N := by
  match ci, h with
  | 0, h => cases h; exact ⟨pj_inX0, ⟨tyX0, tyX0_ok⟩, nmX0⟩
  | 1, h => cases h; exact ⟨pj_inX1, ⟨tyX1, tyX1_ok⟩, nmX1⟩
  | 2, h => cases h; exact ⟨pj_inX2, ⟨tyX2, tyX2_ok⟩, nmX2⟩
  | 3, h => cases h; exact ⟨pj_inX3, ⟨tyX3, tyX3_ok⟩, nmX3⟩
  | 4, h => cases h; exact ⟨pj_inX4, ⟨tyX4, tyX4_ok⟩, nmX4⟩
  | 5, h => cases h; exact ⟨pj_inX5, ⟨tyX5, tyX5_ok⟩, nmX5⟩
  | 6, h => cases h; exact ⟨pj_inX6, ⟨tyX6, tyX6_ok⟩, nmX6⟩
  | 7, h => cases h; exact ⟨pj_inX7, ⟨tyX7, tyX7_ok⟩, nmX7⟩
  | 8, h => cases h; exact ⟨pj_inX9, ⟨tyX9, tyX9_ok⟩, nmX9⟩
  | 9, h => cases h; exact ⟨pj_inX10, ⟨tyX10, tyX10_ok⟩, nmX10⟩
  | 10, h => cases h; exact ⟨pj_inX11, ⟨tyX11, tyX11_ok⟩, nmX11⟩
  | 11, h => cases h; exact ⟨pj_inX12, ⟨tyX12, tyX12_ok⟩, nmX12⟩
  | k + 12, h => simp [vwCl] at h
section PJC
variable {E : pj_E} {B : Nat} {l : Launch} {Y : pj_Y} {d mc ms pc q : Nat} {ls : List (Option Value)} {st : List Value} {h : pj_H} {n ce sl : Nat} {Q : Option Value → pj_H → Nat → Prop}
theorem pj_getf {i k a ci : Nat} {fs : List Value} {v : Value} {F : String × String × String × Bool} (hd : decode Y.2.1 pc = .ok (.getfield i, 3)) (hq : pc + 3 = q) (hl : Cond.fieldLink Y.1.cls i F.1 F.2.1 F.2.2.1 ∈ lw_tbl) (ha : h a = some (.inr (ci, fs))) (hF : pj_fld ci k = some F) (hv : fs[k]? = some v) (kk : pj_V E B l Y d mc ms q ls (v :: st) h n ce sl Q) : pj_V E B l Y d mc ms pc ls (.ref a :: st) h n ce sl Q := by
  subst hq
  intro p e s m args below meth c H locs la S hr hk hn hW hH hS hL
  obtain ⟨C, T, N, h1, h2, h3⟩ := pj_fld_spec hF
  subst h3
  have hP : va_P E.1 vwCl [(a, .inr (ci, fs))] H := fun k' q' hk' => by
    cases k' with
    | zero => cases hk'; exact (hH.2 a _ ha).2
    | succ k' => simp at hk'
  exact va_get S.1 S.2.1 S.2.2.2.2 (pj_cls h1).1 S.2.2.2.1 hW.1 hP 0 rfl h1 k h2 (S.2.2.2.2 _ hl) (fun x hx => hx) hv hd (kk p e s m args below meth c H locs la S hr hk hn hW hH hS hL)
theorem pj_putf {i k a ci : Nat} {fs : List Value} {v : Value} {F : String × String × String × Bool} {ty : FieldType} (hd : decode Y.2.1 pc = .ok (.putfield i, 3)) (hq : pc + 3 = q) (hl : Cond.fieldLink Y.1.cls i F.1 F.2.1 F.2.2.1 ∈ lw_tbl) (ha : h a = some (.inr (ci, fs))) (hF : pj_fld ci k = some F) (hfin : F.2.2.2 = false ∨ (Y.1.name = "<init>" ∧ F.1 = Y.1.cls)) (hty : parseFieldDescriptor F.2.2.1 = some ty) (hnr : narrow ty v = v) (hft : fits ty v = true) (hlen : k < fs.length) (kk : pj_V E B l Y d mc ms q ls st (pj_up h a (.inr (ci, fs.set k v))) n ce sl Q) : pj_V E B l Y d mc ms pc ls (v :: .ref a :: st) h n ce sl Q := by
  subst hq
  intro p e s m args below meth c H locs la S hr hk hn hW hH hS hL
  obtain ⟨C, T, N, h1, h2, h3⟩ := pj_fld_spec hF
  subst h3
  obtain ⟨hin, ⟨ty0, hty0⟩, hnm⟩ := pj_cls h1
  have hap := va_apart (own := Y.1.cls) S.2.2.2.2 hin ty0 hty0 hnm hW.1 h1
  obtain ⟨hBa, r, h1', cell, q1, q2, q3, q4⟩ := hH.2 a _ ha
  have hre : r = (C, T, N) := Option.some.inj (h1'.symm.trans h1)
  subst hre
  obtain ⟨hSl, hfc, kC, hkC, hkind⟩ := hW.1.1 ci _ h1
  obtain ⟨cf, kf, fi, f, hi, hsl⟩ := hSl k h2
  have hlay := S.2.2.2.2 _ (hin _ (u_in_lay h2))
  unfold u_lay at hlay
  have hst := (u_facts hfc hkC (u_lays S.2.2.2.2 hin h2) hi).1
  have fin : ∀ H' : Heap, H'[a]? = some (cell.setSlot f.slot v) → H'.size = H.size → (∀ q, q ≠ a → H'[q]? = H[q]?) → W p l e (pj_rm d mc ms) s m args below meth c H' (locs ++ [⟨a, f.slot⟩]) ce sl (MQ below (pj_Qc E B Q) args s mc ms (fun q => B ≤ q)) (F0 m (pc + 3) la st) := by
    intro H' e1 e2 e3
    rw [hsl] at e1
    exact kk p e s m args below meth c H' _ la S hr hk hn hW (hH.up ha ⟨_, h1, t_OB.to (V := updV (vp_V fs) k v) ⟨_, e1, q2, q3, t_set q4 hap h2 v⟩ (fun j _ => vp_updV_set hlen v j)⟩ e2 e3) (pj_S_put hS e2 e3 hBa) hL
  have hslot : f.slot < cell.slots.size := by rw [hsl]; exact k2_hasslot (q4 k h2)
  by_cases hff : (T k).2.2.2 = false
  · rw [if_neg (by rw [hff]; decide)] at hlay
    have h6 := u_store hfc hkC hkind hlay hi hty hnr hft
    exact W.putK S.1 S.2.1 (f := f) ⟨S.2.2.2.1, S.2.2.2.2 _ hl, ⟨_, _, _, hi⟩, hst⟩ (by rw [q2]; exact h6) q1 q3 hslot rfl rfl hd fin
  · obtain ⟨hin2, hdecl⟩ := hfin.resolve_left hff
    rw [if_pos (by simpa using hff)] at hlay
    have hcf : m.cls = cf := by
      obtain ⟨_, _, c', _, _, _, -, -, hf', -, -, -, hown2, -⟩ := Cond.laysFinal_spec hlay
      have e1 : c' = cf := by have := hi.symm.trans hf'; simp at this; exact this.1.symm
      rw [hdecl] at hown2
      rw [← e1]; exact Option.some.inj (S.2.2.2.1.symm.trans hown2)
    have h6 := u_fits hfc hkC hkind (Or.inr hlay) hi hty hnr hft
    exact W.putFinK S.1 S.2.1 S.2.2.2.1 (S.2.2.2.2 _ hl) hi hst hcf (hn.trans hin2) (by rw [q2]; exact h6) q1 q3 hslot rfl rfl hd fin
theorem pj_len {t a N : Nat} {x : (Nat → Int32) ⊕ (Nat → Int64) ⊕ (Nat → UInt32) ⊕ (Nat → UInt64) ⊕ (Nat → Option Nat)} {ty : FieldType} {v : Int32} (ht : (pj_tys E)[t]? = some (E.2 t, ty)) (hd : decode Y.2.1 pc = .ok (.arraylength, 1)) (hq : pc + 1 = q) (ha : h a = some (.inl (t, N, x))) (hv : Int32.ofNat N = v) (kk : pj_V E B l Y d mc ms q ls (.int v :: st) h n ce sl Q) : pj_V E B l Y d mc ms pc ls (.ref a :: st) h n ce sl Q := by
  subst hq
  intro p e s m args below meth c H locs la S hr hk hn hW hH hS hL
  have hP : va_P E.1 vwCl [(a, .inl (E.2 t, N, x))] H := fun k' q' hk' => by
    cases k' with
    | zero => cases hk'; exact (hH.2 a _ ha).2
    | succ k' => simp at hk'
  exact va_alen S.1 S.2.1 hW.1 hP 0 t rfl ht hv hd (kk p e s m args below meth c H locs la S hr hk hn hW hH hS hL)
theorem pj_iald {a N : Nat} {f : Nat → Int32} {i : Int32} (hd : decode Y.2.1 pc = .ok (.iaload, 1)) (hq : pc + 1 = q) (ha : h a = some (.inl (0, N, .inl f))) (hin : vp_in i N) (kk : pj_V E B l Y d mc ms q ls (.int (f i.toNatClampNeg) :: st) h n ce sl Q) : pj_V E B l Y d mc ms pc ls (.int i :: .ref a :: st) h n ce sl Q := by
  subst hq
  intro p e s m args below meth c H locs la S hr hk hn hW hH hS hL
  have hP : va_P E.1 vwCl [(a, .inl (E.2 0, N, .inl f))] H := fun k' q' hk' => by
    cases k' with
    | zero => cases hk'; exact (hH.2 a _ ha).2
    | succ k' => simp at hk'
  exact va_iald S.1 S.2.1 hW.1 hP 0 0 rfl rfl hin hd (kk p e s m args below meth c H locs la S hr hk hn hW hH hS hL)
theorem pj_ialdN {a N j : Nat} {f : Nat → Int32} {i : Int32} (hd : decode Y.2.1 pc = .ok (.iaload, 1)) (hq : pc + 1 = q) (ha : h a = some (.inl (0, N, .inl f))) (hi : i = nI j) (hj : j < N) (hN : N ≤ 2147483647) (kk : pj_V E B l Y d mc ms q ls (.int (f j) :: st) h n ce sl Q) : pj_V E B l Y d mc ms pc ls (.int i :: .ref a :: st) h n ce sl Q := by
  subst hi
  refine pj_iald hd hq ha (vp_in_nI hj (by omega)) ?_
  rw [nI_clamp (by omega)]
  exact kk
theorem pj_zald {a N j : Nat} {f : Nat → Int32} {i : Int32} (hd : decode Y.2.1 pc = .ok (.baload, 1)) (hq : pc + 1 = q) (ha : h a = some (.inl (1, N, .inl f))) (hi : i = nI j) (hj : j < N) (hN : N ≤ 2147483647) (kk : pj_V E B l Y d mc ms q ls (.int (f j) :: st) h n ce sl Q) : pj_V E B l Y d mc ms pc ls (.int i :: .ref a :: st) h n ce sl Q := by
  subst hq
  subst hi
  intro p e s m args below meth c H locs la S hr hk hn hW hH hS hL
  have hP : va_P E.1 vwCl [(a, .inl (E.2 1, N, .inl f))] H := fun k' q' hk' => by
    cases k' with
    | zero => cases hk'; exact (hH.2 a _ ha).2
    | succ k' => simp at hk'
  refine va_zald S.1 S.2.1 hW.1 hP 0 1 rfl rfl (vp_in_nI hj (by omega)) hd ?_
  rw [nI_clamp (by omega)]
  exact kk p e s m args below meth c H locs la S hr hk hn hW hH hS hL
theorem pj_aald {t a N j : Nat} {f : Nat → Option Nat} {i : Int32} {ty : FieldType} (ht : (pj_tys E)[t]? = some (E.2 t, ty)) (hty : ty.isReference = true) (hd : decode Y.2.1 pc = .ok (.aaload, 1)) (hq : pc + 1 = q) (ha : h a = some (.inl (t, N, .inr (.inr (.inr (.inr f)))))) (hi : i = nI j) (hj : j < N) (hN : N ≤ 2147483647) (kk : pj_V E B l Y d mc ms q ls (va_rf (f j) :: st) h n ce sl Q) : pj_V E B l Y d mc ms pc ls (.int i :: .ref a :: st) h n ce sl Q := by
  subst hq
  subst hi
  intro p e s m args below meth c H locs la S hr hk hn hW hH hS hL
  have hin : vp_in (nI j) N := vp_in_nI hj (by omega)
  have hlt : (nI j).toNatClampNeg < N := by rw [nI_clamp (by omega)]; exact hj
  refine W.aald (v := va_rf (f (nI j).toNatClampNeg)) (ty := ty) S.1 S.2.1 (hH.2 a _ ha).2 ((pj_ty hW ht).1 N (fun j => va_rf (f j))) hty (fun q => by cases q) (by show ¬ (_ < 0 ∨ (arrV _ _ _).slots.size ≤ _); rw [arrV_size]; exact hin) (by show (arrV _ _ _).slots[_]? = _; rw [arrV_read _ _ hlt]) rfl rfl hd ?_
  rw [nI_clamp (by omega)]
  exact kk p e s m args below meth c H locs la S hr hk hn hW hH hS hL
theorem pj_iast {a N j : Nat} {f : Nat → Int32} {i x : Int32} (hd : decode Y.2.1 pc = .ok (.iastore, 1)) (hq : pc + 1 = q) (ha : h a = some (.inl (0, N, .inl f))) (hi : i = nI j) (hj : j < N) (hN : N ≤ 2147483647) (kk : pj_V E B l Y d mc ms q ls st (pj_up h a (.inl (0, N, .inl (upd f j x)))) n ce sl Q) : pj_V E B l Y d mc ms pc ls (.int x :: .int i :: .ref a :: st) h n ce sl Q := by
  subst hq
  subst hi
  intro p e s m args below meth c H locs la S hr hk hn hW hH hS hL
  have hin : vp_in (nI j) N := vp_in_nI hj (by omega)
  refine W.iast S.1 S.2.1 (hH.2 a _ ha).2 ((pj_ty hW (t := 0) rfl).1 N (fun j => .int (f j))) (fun q => by cases q) (by show ¬ (_ < 0 ∨ (arrV _ _ _).slots.size ≤ _); rw [arrV_size]; exact hin) rfl rfl hd fun H1 e1 z1 oq => ?_
  rw [nI_clamp (by omega)] at e1
  refine kk p e s m args below meth c H1 _ la S hr hk hn hW (hH.up ha ?_ z1 oq) (pj_S_put hS z1 oq (hH.2 a _ ha).1) hL
  show H1[a]? = some (vp_cell _ _)
  rw [e1]
  show some ((vp_cell (E.2 0) (N, .inl f)).setSlot j _) = _
  rw [vp_cell_i, vp_cell_i, arrV_store]
  congr 2
  funext z
  by_cases hz : z = j
  · subst hz; simp [updV, upd]
  · simp [updV, upd, hz]
theorem pj_zast {a N j : Nat} {f : Nat → Int32} {i x : Int32} (hx : narrow .boolean (.int x) = .int x) (hd : decode Y.2.1 pc = .ok (.bastore, 1)) (hq : pc + 1 = q) (ha : h a = some (.inl (1, N, .inl f))) (hi : i = nI j) (hj : j < N) (hN : N ≤ 2147483647) (kk : pj_V E B l Y d mc ms q ls st (pj_up h a (.inl (1, N, .inl (upd f j x)))) n ce sl Q) : pj_V E B l Y d mc ms pc ls (.int x :: .int i :: .ref a :: st) h n ce sl Q := by
  subst hq
  subst hi
  intro p e s m args below meth c H locs la S hr hk hn hW hH hS hL
  have hin : vp_in (nI j) N := vp_in_nI hj (by omega)
  refine W.zast S.1 S.2.1 (hH.2 a _ ha).2 ((pj_ty hW (t := 1) rfl).1 N (fun j => .int (f j))) (fun q => by cases q) (by show ¬ (_ < 0 ∨ (arrV _ _ _).slots.size ≤ _); rw [arrV_size]; exact hin) rfl rfl hd fun H1 e1 z1 oq => ?_
  rw [nI_clamp (by omega)] at e1
  refine kk p e s m args below meth c H1 _ la S hr hk hn hW (hH.up ha ?_ z1 oq) (pj_S_put hS z1 oq (hH.2 a _ ha).1) hL
  show H1[a]? = some (vp_cell _ _)
  rw [e1]
  show some ((vp_cell (E.2 1) (N, .inl f)).setSlot j _) = _
  rw [vp_cell_i, vp_cell_i, arrV_store]
  congr 2
  funext z
  by_cases hz : z = j
  · subst hz; simp [updV, upd, hx]
  · simp [updV, upd, hz]
end PJC
