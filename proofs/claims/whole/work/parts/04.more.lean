/-! ===== the pure layer: new cells, copies, instanceof, entry, calls ===== -/
theorem pj_assign {args : Array Value} {s : State} {C T : String} {c t : ClassId} (h : (Cond.castable C T).before args s = true) (hc : s.vm.findClass C = some c) (ht : s.vm.findClass T = some t) : s.vm.assignable c t = true := by
  obtain ⟨c0, t0, f1, f2, f3⟩ := Cond.castable_spec h
  cases f1.symm.trans hc
  cases f2.symm.trans ht
  exact f3
section PJN
variable {E : pj_E} {B : Nat} {l : Launch} {Y : pj_Y} {d mc ms pc q : Nat} {ls : List (Option Value)} {st : List Value} {h : pj_H} {n ce sl : Nat} {Q : Option Value → pj_H → Nat → Prop}
theorem pj_new {i ci N : Nat} {C : String} {T : u_T} {fs : List Value} (hd : decode Y.2.1 pc = .ok (.new i, 3)) (hq : pc + 3 = q) (hl : Cond.classLink Y.1.cls i C ∈ lw_tbl) (hi : Cond.instantiable C N ∈ lw_tbl) (hz : Cond.initialized C ∈ lw_tbl) (hc : vwCl[ci]? = some (C, T, N)) (ty : Nat → FieldType) (hty : ∀ k, k < N → parseFieldDescriptor (T k).2.2.1 = some (ty k)) (hfs : ∀ j, j < N → defaultValue (ty j) = vp_V fs j) (hB : B ≤ n) (hce : ce + 1 ≤ mc) (hsl : sl + N ≤ ms) (kk : pj_V E B l Y d mc ms q ls (.ref n :: st) (pj_up h n (.inr (ci, fs))) (n + 1) (ce + 1) (sl + N) Q) : pj_V E B l Y d mc ms pc ls st h n ce sl Q := by
  subst hq
  intro p e s m args below meth c H locs la S hr hk hn hW hH hS hL
  have hKn := hW.1.1 ci _ hc
  refine W.newcK S.1 S.2.1 S.2.2.2.1 (S.2.2.2.2 _ hl) (S.2.2.2.2 _ hi) (S.2.2.2.2 _ hz) rfl hd hce hsl hKn.2.1 hH.1 fun H1 kC hkC e1 z1 o1 => ?_
  refine kk p e s m args below meth c H1 locs la S hr hk hn hW (hH.push hB ⟨_, hc, (u_born ty S.2.2.2.2 (pj_cls hc).1 hKn hkC e1 hty).to hfs⟩ z1 o1) (pj_S_push hS hH.1 (by omega) o1) hL
theorem pj_newi {N : Nat} {i : Int32} (hl : Cond.arrayClass .int ∈ lw_tbl) (hd : decode Y.2.1 pc = .ok (.newarray .int, 2)) (hq : pc + 2 = q) (hi : i = nI N) (hN : N ≤ 100000) (hB : B ≤ n) (hce : ce + 1 ≤ mc) (hsl : sl + N ≤ ms) (kk : pj_V E B l Y d mc ms q ls (.ref n :: st) (pj_up h n (.inl (0, N, .inl (fun _ => 0)))) (n + 1) (ce + 1) (sl + N) Q) : pj_V E B l Y d mc ms pc ls (.int i :: st) h n ce sl Q := by
  subst hq
  subst hi
  intro p e s m args below meth c H locs la S hr hk hn hW hH hS hL
  refine va_newaK (atype := .int) (N := N) S.1 S.2.1 (S.2.2.2.2 _ hl) rfl hd rfl (nI_pos (by omega)) (nI_clamp (by omega)) (by show N * 4 ≤ _; omega) hce hsl hH.1 fun H1 cA e1 z1 o1 hAr hNm => ?_
  have hcA : cA = E.2 0 := Option.some.inj (hNm.symm.trans (pj_ty hW (t := 0) rfl).2)
  subst hcA
  exact kk p e s m args below meth c H1 locs la S hr hk hn hW (hH.push hB e1 z1 o1) (pj_S_push hS hH.1 (by omega) o1) hL
theorem pj_newz {N : Nat} {i : Int32} (hl : Cond.arrayClass .boolean ∈ lw_tbl) (hd : decode Y.2.1 pc = .ok (.newarray .boolean, 2)) (hq : pc + 2 = q) (hi : i = nI N) (hN : N ≤ 100000) (hB : B ≤ n) (hce : ce + 1 ≤ mc) (hsl : sl + N ≤ ms) (kk : pj_V E B l Y d mc ms q ls (.ref n :: st) (pj_up h n (.inl (1, N, .inl (fun _ => 0)))) (n + 1) (ce + 1) (sl + N) Q) : pj_V E B l Y d mc ms pc ls (.int i :: st) h n ce sl Q := by
  subst hq
  subst hi
  intro p e s m args below meth c H locs la S hr hk hn hW hH hS hL
  refine va_newaK (atype := .boolean) (N := N) S.1 S.2.1 (S.2.2.2.2 _ hl) rfl hd rfl (nI_pos (by omega)) (nI_clamp (by omega)) (by show N * 1 ≤ _; omega) hce hsl hH.1 fun H1 cA e1 z1 o1 hAr hNm => ?_
  have hcA : cA = E.2 1 := Option.some.inj (hNm.symm.trans (pj_ty hW (t := 1) rfl).2)
  subst hcA
  exact kk p e s m args below meth c H1 locs la S hr hk hn hW (hH.push hB e1 z1 o1) (pj_S_push hS hH.1 (by omega) o1) hL
theorem pj_newr {t j N : Nat} {i : Int32} {C : String} (ht : (pj_tys E)[t]? = some (E.2 t, .object C)) (hl : Cond.classLink Y.1.cls j C ∈ lw_tbl) (ho : Cond.arrayOver (.object C) ∈ lw_tbl) (hd : decode Y.2.1 pc = .ok (.anewarray j, 3)) (hq : pc + 3 = q) (hi : i = nI N) (hN : N ≤ 100000) (hB : B ≤ n) (hce : ce + 1 ≤ mc) (hsl : sl + N ≤ ms) (kk : pj_V E B l Y d mc ms q ls (.ref n :: st) (pj_up h n (.inl (t, N, .inr (.inr (.inr (.inr (fun _ => none))))))) (n + 1) (ce + 1) (sl + N) Q) : pj_V E B l Y d mc ms pc ls (.int i :: st) h n ce sl Q := by
  subst hq
  subst hi
  intro p e s m args below meth c H locs la S hr hk hn hW hH hS hL
  have hcl : (nI N).toNatClampNeg = N := nI_clamp (by omega)
  refine W.anew S.1 S.2.1 S.2.2.2.1 (S.2.2.2.2 _ hl) (S.2.2.2.2 _ ho) rfl hd rfl (nI_pos (by omega)) (by rw [hcl]; omega) hce (by rw [hcl]; exact hsl) fun cA kA comp f1 f2 f3 f4 => ?_
  rw [hcl]
  generalize hH1 : H.push ({ cls := cA, slots := Array.replicate N .null, vm := .none } : Cell) = H1
  have z1 : H1.size = n + 1 := by rw [← hH1, Array.size_push, hH.1]
  have e1 : H1[n]? = some (arrV cA N (fun _ => .null)) := by rw [← hH1, ← hH.1, Array.getElem?_push_size, ← arrV_new]
  have o1 : ∀ q : Nat, q < n → H1[q]? = H[q]? := fun q hq => by rw [← hH1, Array.getElem?_push, if_neg (by rw [hH.1]; omega)]
  obtain ⟨kA', comp', g1, g2, g3, g4⟩ := (pj_ty hW ht).2
  have hcA : cA = E.2 t := Option.some.inj (f1.symm.trans g4)
  subst hcA
  rw [hH.1]
  exact kk p e s m args below meth c H1 locs la S hr hk hn hW (hH.push hB e1 z1 o1) (pj_S_push hS hH.1 (by omega) o1) hL
theorem pj_aast {t a N j v ci : Nat} {f : Nat → Option Nat} {vs : List Value} {i : Int32} {C : String} {r : vw_C} (ht : (pj_tys E)[t]? = some (E.2 t, .object C)) (hca : C = r.1 ∨ Cond.castable r.1 C ∈ lw_tbl) (hc : vwCl[ci]? = some r) (hd : decode Y.2.1 pc = .ok (.aastore, 1)) (hq : pc + 1 = q) (ha : h a = some (.inl (t, N, .inr (.inr (.inr (.inr f)))))) (hv : h v = some (.inr (ci, vs))) (hi : i = nI j) (hj : j < N) (hN : N ≤ 2147483647) (kk : pj_V E B l Y d mc ms q ls st (pj_up h a (.inl (t, N, .inr (.inr (.inr (.inr (va_up f j (some v)))))))) n ce sl Q) : pj_V E B l Y d mc ms pc ls (.ref v :: .int i :: .ref a :: st) h n ce sl Q := by
  subst hq
  subst hi
  intro p e s m args below meth c H locs la S hr hk hn hW hH hS hL
  have hin : vp_in (nI j) N := vp_in_nI hj (by omega)
  have hcl : (nI j).toNatClampNeg = j := nI_clamp (by omega)
  have hlt : (nI j).toNatClampNeg < N := by rw [hcl]; exact hj
  have h0 : ¬ nI j < 0 := fun q => hin (Or.inl q)
  obtain ⟨kA, comp, k1, k2, k3, -⟩ := (pj_ty hW ht).2
  obtain ⟨kE, hkE, -⟩ := Vm.findClass_spec k3
  obtain ⟨-, r', hr', cellV, g1, g2, g3, -⟩ := hH.2 v _ hv
  have hcls := (hW.1.1 ci r hc).2
  obtain ⟨kC, hkC, -⟩ := hcls.2
  have hasg : s.vm.assignable (E.1.1 ci) comp = true := by
    rcases hca with e0 | hca
    · subst e0
      have hcomp : comp = E.1.1 ci := Option.some.inj (k3.symm.trans hcls.1)
      rw [hcomp]
      exact va_assign hcls
    · exact pj_assign (S.2.2.2.2 _ hca) hcls.1 k3
  refine W.aast S.1 S.2.1 (hH.2 a _ ha).2 (fun q h => by cases h) (fun h => by cases h) k1 k2 rfl hkE ⟨h0, by show _ < (arrV _ _ _).slots.size; rw [arrV_size]; exact hlt⟩ g1 (fun q h => by rw [g3] at h; cases h) (by rw [g2]; exact hkC) (by rw [g2]; exact hasg) rfl rfl hd fun H1 e1 z1 oq => ?_
  rw [hcl] at e1
  refine kk p e s m args below meth c H1 _ la S hr hk hn hW (hH.up ha ?_ z1 oq) (pj_S_put hS z1 oq (hH.2 a _ ha).1) hL
  show H1[a]? = some (vp_cell _ _)
  rw [e1]
  show some ((vp_cell (E.2 t) (N, .inr (.inr (.inr (.inr f))))).setSlot j _) = _
  rw [vp_cell_q, vp_cell_q, arrV_store]
  congr 2
  funext z
  by_cases hz : z = j
  · subst hz; simp [updV, va_up, va_rf]
  · simp [updV, va_up, hz]
theorem pj_recv {p : Nat → Prop} {s : State} {H : Heap} {a ci : Nat} {fs : List Value} {r : vw_C} (hW : pj_WF E s) (hH : pj_HR E B h n H) (hc : vwCl[ci]? = some r) (ha : h a = some (.inr (ci, fs))) : ∃ cell : Cell, H[a]? = some cell ∧ cell.vm.isStatics = false ∧ s.vm.findClass r.1 = some cell.cls := by
  obtain ⟨-, r', h1, cell, g1, g2, g3, -⟩ := hH.2 a _ ha
  exact ⟨cell, g1, by rw [g3]; rfl, by rw [g2]; exact (hW.1.1 ci r hc).2.1⟩
theorem pj_instY {i a ci : Nat} {fs : List Value} {r : vw_C} {T : String} (hd : decode Y.2.1 pc = .ok (.instanceof i, 3)) (hq : pc + 3 = q) (hl : Cond.classLink Y.1.cls i T ∈ lw_tbl) (hc : vwCl[ci]? = some r) (ha : h a = some (.inr (ci, fs))) (hy : r.1 = T ∨ Cond.castable r.1 T ∈ lw_tbl) (kk : pj_V E B l Y d mc ms q ls (.int 1 :: st) h n ce sl Q) : pj_V E B l Y d mc ms pc ls (.ref a :: st) h n ce sl Q := by
  subst hq
  intro p e s m args below meth c H locs la S hr hk hn hW hH hS hL
  have hrec := pj_recv (p := fun _ => True) hW hH hc ha
  rcases hy with hy | hy
  · obtain ⟨cell, g1, g2, g3⟩ := hrec
    exact va_instS (cC := E.1.1 ci) S.1 S.2.1 S.2.2.2.1 (S.2.2.2.2 _ hl) (by rw [← hy]; exact (hW.1.1 ci r hc).2) ⟨cell, g1, g2, by rw [← hy]; exact g3⟩ hd (kk p e s m args below meth c H locs la S hr hk hn hW hH hS hL)
  · exact va_instY (C := r.1) S.1 S.2.1 S.2.2.2.1 (S.2.2.2.2 _ hl) (va_Nw.of rfl (S.2.2.2.2 _ hy)) hrec hd (kk p e s m args below meth c H locs la S hr hk hn hW hH hS hL)
theorem pj_instN {i a ci : Nat} {fs : List Value} {r : vw_C} {T : String} (hd : decode Y.2.1 pc = .ok (.instanceof i, 3)) (hq : pc + 3 = q) (hl : Cond.classLink Y.1.cls i T ∈ lw_tbl) (hc : vwCl[ci]? = some r) (ha : h a = some (.inr (ci, fs))) (hy : (r.1, T) ∈ pj_ncs) (kk : pj_V E B l Y d mc ms q ls (.int 0 :: st) h n ce sl Q) : pj_V E B l Y d mc ms pc ls (.ref a :: st) h n ce sl Q := by
  subst hq
  intro p e s m args below meth c H locs la S hr hk hn hW hH hS hL
  exact va_instNo (C := r.1) S.1 S.2.1 S.2.2.2.1 (S.2.2.2.2 _ hl) (hW.2 _ hy) (pj_recv (p := fun _ => True) hW hH hc ha) hd (kk p e s m args below meth c H locs la S hr hk hn hW hH hS hL)
/-! entry -/
def pj_la : List Value → List (Option Value)
  | [] => []
  | v :: l => if v.category = 2 then some v :: none :: pj_la l else some v :: pj_la l
theorem pj_la_sl : ∀ (vs : List Value), (pj_la vs).length = (lg_sl vs).length ∧ ∀ (i : Nat) (v : Value), (pj_la vs)[i]? = some (some v) → (lg_sl vs)[i]? = some (.val v)
  | [] => ⟨rfl, fun i v hh => by simp [pj_la] at hh⟩
  | u :: l => by
    obtain ⟨h1, h2⟩ := pj_la_sl l
    by_cases hu : u.category = 2
    · have e1 : pj_la (u :: l) = some u :: none :: pj_la l := by simp [pj_la, hu]
      have e2 : lg_sl (u :: l) = .val u :: .second :: lg_sl l := by simp [lg_sl, hu]
      rw [e1, e2]
      refine ⟨by simp [h1], fun i v hh => ?_⟩
      match i, hh with
      | 0, hh => simp at hh; simp [hh]
      | 1, hh => simp at hh
      | i + 2, hh => simp at hh ⊢; exact h2 i v hh
    · have e1 : pj_la (u :: l) = some u :: pj_la l := by simp [pj_la, hu]
      have e2 : lg_sl (u :: l) = .val u :: lg_sl l := by simp [lg_sl, hu]
      rw [e1, e2]
      refine ⟨by simp [h1], fun i v hh => ?_⟩
      match i, hh with
      | 0, hh => simp at hh; simp [hh]
      | i + 1, hh => simp at hh ⊢; exact h2 i v hh
theorem pj_in {av : List Value} (hy : plainName Y.1.cls = true) (hls : pj_la av ++ List.replicate (Y.2.2.1 - (pj_la av).length) none = ls) (hle : (pj_la av).length ≤ Y.2.2.1) (kk : pj_V E B l Y d mc ms 0 ls [] h n 0 0 Q) : pj_Ct E B l Y d mc ms av h n Q := by
  unfold pj_Ct
  refine Met.ofW (cc := Y.2.1) (maxL := Y.2.2.1) (ret := Y.2.2.2) hy rfl ?_
  intro p e s m args below meth c s₁ Bd hml hv
  obtain ⟨rfl, hW, hH⟩ := hv
  have hts := atoms_spec (ws := Cond.code Y.1 Y.2.1 Y.2.2.1 Y.2.2.2 :: lw_tbl) Bd.pre
  have hown : s.vm.findClass Y.1.cls = some m.cls := findClass_of_methodNamed Bd.named
  rw [lg_entry_eq]
  obtain ⟨g1, g2⟩ := pj_la_sl av
  have hl := lv_entry av (n := Y.2.2.1) (by rw [← g1]; exact hle)
  refine kk p e s m _ below meth c s.heap [] _ ⟨Bd.exec, Bd.bytes, hml, hown, fun w hw => hts w (List.mem_cons_of_mem _ hw)⟩ Bd.returns Bd.notSynchronized (name_of_methodNamed Bd.named Bd.method).1 hW hH va_S.rf ⟨⟨hl.1, hl.2.1, ?_⟩, ?_⟩
  · rintro ⟨j, v⟩ hj
    obtain ⟨k, e1, e2⟩ := (pj_as_mem ls 0 j v).mp hj
    have hjk : j = k := by omega
    subst hjk
    rw [← hls] at e2
    have hlt : j < (pj_la av).length := by
      rcases Nat.lt_or_ge j (pj_la av).length with q | q
      · exact q
      · rw [List.getElem?_append_right q] at e2
        have := List.mem_of_getElem? e2
        simp at this
    rw [List.getElem?_append_left hlt] at e2
    show ((lg_sl av ++ List.replicate _ Slot.unset).toArray)[j]? = _
    rw [List.getElem?_toArray, List.getElem?_append_left (by rw [← g1]; exact hlt)]
    exact g2 j v e2
  · rw [← hls, List.length_append, List.length_replicate]
    omega
end PJN
