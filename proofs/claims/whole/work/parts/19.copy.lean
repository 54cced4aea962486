/-! ===== the pure layer: System.arraycopy of ints ===== -/
section PJA
variable {E : pj_E} {B : Nat} {l : Launch} {Y : pj_Y} {d mc ms pc q : Nat} {ls : List (Option Value)} {st : List Value} {h : pj_H} {n ce sl : Nat} {Q : Option Value → pj_H → Nat → Prop}
set_option maxHeartbeats 1000000 in
theorem pj_acopy {i a0 a1 N0 N1 c sp dp : Nat} {f g : Nat → Int32} (hd : decode Y.2.1 pc = .ok (.invokestatic i, 3)) (hq : pc + 3 = q) (hl : Cond.methodLink Y.1.cls i arraycopyName ∈ lw_tbl) (hnat : Cond.native arraycopyName ∈ lw_tbl) (hst : Cond.static arraycopyName ∈ lw_tbl) (hini : Cond.initialized "java/lang/System" ∈ lw_tbl) (ha0 : h a0 = some (.inl (0, N0, .inl f))) (ha1 : h a1 = some (.inl (0, N1, .inl g))) (h4 : sp + c ≤ N0) (h5 : dp + c ≤ N1) (hN0 : N0 ≤ 100000) (hN1 : N1 ≤ 100000) (hdd : 0 < d) (hw : (st.map fun v => v.category).sum + (nativeFrameWords "java/lang/System" "arraycopy" 5 + 11) ≤ 64) (kk : pj_V E B l Y d mc ms q ls st (pj_up h a1 (.inl (0, N1, .inl (va_cpy f g sp dp c)))) n ce sl Q) : pj_V E B l Y d mc ms pc ls (.int (nI c) :: .int (nI dp) :: .ref a1 :: .int (nI sp) :: .ref a0 :: st) h n ce sl Q := by
  subst hq
  intro p e s m args below meth cd H locs la S hr hk hn hW hH hS hL
  have ec : (nI c).toNatClampNeg = c := nI_clamp (by omega)
  have es : (nI sp).toNatClampNeg = sp := nI_clamp (by omega)
  have ed : (nI dp).toNatClampNeg = dp := nI_clamp (by omega)
  have h1 : ¬ nI sp < 0 := nI_pos (by omega)
  have h2 : ¬ nI dp < 0 := nI_pos (by omega)
  have h3 : ¬ nI c < 0 := nI_pos (by omega)
  have tc : (nI c).toInt = (c : Int) := nI_toInt (by omega)
  have ts : (nI sp).toInt = (sp : Int) := nI_toInt (by omega)
  have td : (nI dp).toInt = (dp : Int) := nI_toInt (by omega)
  have hc0 : H[a0]? = some (vp_cell (E.2 0) (N0, .inl f)) := (hH.2 a0 _ ha0).2
  have hc1 : H[a1]? = some (vp_cell (E.2 0) (N1, .inl g)) := (hH.2 a1 _ ha1).2
  intro T hT X
  obtain ⟨-, k0, hk0, cm0, hkk0⟩ := (pj_ty hW (t := 0) rfl).1 N0 (fun j => .int (f j))
  obtain ⟨-, k1, hk1, cm1, hkk1⟩ := (pj_ty hW (t := 0) rfl).1 N1 (fun j => .int (g j))
  obtain ⟨vm', X', step⟩ := X.arraycopy S.1 S.2.2.2.1 (S.2.2.2.2 _ hl) (S.2.2.2.2 _ hnat) (S.2.2.2.2 _ hst) (S.2.2.2.2 _ hini) (src := a0) (dst := a1) (cs := vp_cell (E.2 0) (N0, .inl f)) (cd := vp_cell (E.2 0) (N1, .inl g)) (srcPos := nI sp) (destPos := nI dp) (n := nI c) (by rw [hT]; exact hc0) (by rw [hT]; exact hc1)
    (fun _ h => by cases h) (fun _ h => by cases h) (fun h => by cases h) (fun h => by cases h) hk0 hk1 hkk0 hkk1 (by simp [refKind]) h1 h2 h3
    (by rw [ts, tc]; show ¬ _ > ((arrV (E.2 0) N0 (fun j => .int (f j))).slots.size : Int); rw [arrV_size]; omega)
    (by rw [td, tc]; show ¬ _ > ((arrV (E.2 0) N1 (fun j => .int (g j))).slots.size : Int); rw [arrV_size]; omega)
    (fun vm₁ _ i hi => by
      rw [ec] at hi
      have e : (vp_cell (E.2 0) (N0, .inl f)).slots.getD ((nI sp).toNatClampNeg + i) .null = .int (f ((nI sp).toNatClampNeg + i)) := by
        show (arrV (E.2 0) N0 (fun j => .int (f j))).slots.getD _ _ = _
        rw [Array.getD_eq_getD_getElem?, arrV_read _ _ (by rw [es]; omega)]
        rfl
      refine ⟨?_, ?_⟩
      · rw [e]; rfl
      · rw [e]; exact trivial)
    (g := F0 m pc la (.int (nI c) :: .int (nI dp) :: .ref a1 :: .int (nI sp) :: .ref a0 :: st)) rfl (hL.1.1.trans S.2.2.1.symm) (rest := st) rfl (by rw [S.2.1]; exact hd) (by show 1 ≤ d; omega) (by show 2 * 0 + _ + _ ≤ 64 * d; omega)
  have e1 : copied (vp_cell (E.2 0) (N0, .inl f)) (vp_cell (E.2 0) (N1, .inl g)) (nI sp) (nI dp) (nI c) = vp_cell (E.2 0) (N1, .inl (va_cpy f g sp dp c)) := by
    have := va_copied (fun z => Value.int z) (E.2 0) (E.2 0) f g (n0 := N0) (n1 := N1) (sp := sp) (dp := dp) (n := c) h4
    unfold copied
    rw [es, ed, ec]
    exact this
  rw [e1] at X' step
  have hlt : a1 < H.size := (Array.getElem?_eq_some_iff.mp hc1).1
  have hheap : ((T.setVm vm').setCell a1 (vp_cell (E.2 0) (N1, .inl (va_cpy f g sp dp c)))).heap = H.setIfInBounds a1 (vp_cell (E.2 0) (N1, .inl (va_cpy f g sp dp c))) := by rw [← hT]; rfl
  have oq : ∀ q : Nat, q ≠ a1 → (H.setIfInBounds a1 (vp_cell (E.2 0) (N1, .inl (va_cpy f g sp dp c))))[q]? = H[q]? := fun q hq => by simp [Array.getElem?_setIfInBounds, Ne.symm hq]
  have hz : (H.setIfInBounds a1 (vp_cell (E.2 0) (N1, .inl (va_cpy f g sp dp c)))).size = H.size := by simp
  obtain ⟨t, x1, y1⟩ := kk p e s m args below meth cd _ _ la S hr hk hn hW (hH.up ha1 (show (H.setIfInBounds a1 _)[a1]? = some _ by simp [Array.getElem?_setIfInBounds, hlt]) hz oq) ⟨by simp; exact hS.1, fun q g1 g2 => by
      rw [oq q (fun e => g2 (by rw [e]; exact (hH.2 a1 _ ha1).1))]
      exact hS.2.1 q g1 g2, fun q hq => by
      rcases List.mem_append.mp hq with h | h
      · exact hS.2.2 q h
      · obtain ⟨z, -, hz⟩ := List.mem_map.mp h
        rw [← hz]
        exact (hH.2 a1 _ ha1).1⟩ hL _ hheap X'
  exact ⟨t, step t x1, y1⟩
end PJA
