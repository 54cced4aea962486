/-! ===== rows, of the class: what changes them ===== -/
theorem ac_nat : Cond.native arraycopyName ∈ lw_tbl := pj_m 254 (by decide +kernel)
theorem ac_sta : Cond.static arraycopyName ∈ lw_tbl := pj_m 253 (by decide +kernel)
theorem ac_ini : Cond.initialized "java/lang/System" ∈ lw_tbl := pj_m 69 (by decide +kernel)
def gd_cut (a x : Int32) : Int32 := if a = nI 0 then x.toInt8.toInt32 else if a = nI 1 then x.toInt16.toInt32 else x
def sp_row (r l c : Int32) (s : gd_S) : Int32 × gd_S := if gd_rng r 0 7 && gd_rng l 0 2 && decide (c.toInt ≤ 40) then (if c.toInt < 0 then (-1000014, (nI 4, s.2)) else (c, (nI 0, (fun q => if q = r.toNatClampNeg then l else s.2.1 q), (fun q => if q = r.toNatClampNeg then c.toNatClampNeg else s.2.2.1 q), (fun q i => if q = r.toNatClampNeg then nI 0 else s.2.2.2 q i)))) else (-1000001, s)
def sp_set (r i x : Int32) (s : gd_S) : Int32 × gd_S := if gd_rng r 0 7 then (if gd_th s.2.1 r then (if gd_hp s.2.1 s.2.2.1 r i (nI 1) then (gd_cut (s.2.1 r.toNatClampNeg) x, (nI 0, s.2.1, s.2.2.1, (fun q z => if q = r.toNatClampNeg ∧ z = i.toNatClampNeg then gd_cut (s.2.1 r.toNatClampNeg) x else s.2.2.2 q z))) else (-1000012, (nI 2, s.2))) else (-1000011, (nI 1, s.2))) else (-1000001, s)
def sp_copy (a i b j c : Int32) (s : gd_S) : Int32 × gd_S := if gd_rng a 0 7 && gd_rng b 0 7 then (if gd_th s.2.1 a && gd_th s.2.1 b then (if s.2.1 a.toNatClampNeg = s.2.1 b.toNatClampNeg then (if gd_hp s.2.1 s.2.2.1 a i c && gd_hp s.2.1 s.2.2.1 b j c then (c, (nI 0, s.2.1, s.2.2.1, (fun q z => if q = b.toNatClampNeg ∧ j.toNatClampNeg ≤ z ∧ z < j.toNatClampNeg + c.toNatClampNeg then s.2.2.2 a.toNatClampNeg (i.toNatClampNeg + (z - j.toNatClampNeg)) else s.2.2.2 q z))) else (-1000012, (nI 2, s.2))) else (-1000015, (nI 5, s.2))) else (-1000011, (nI 1, s.2))) else (-1000001, s)
def sp_drop (r : Int32) (s : gd_S) : Int32 × gd_S := if gd_rng r 0 7 then (if gd_th s.2.1 r then (nI (s.2.2.1 r.toNatClampNeg), (nI 0, (fun q => if q = r.toNatClampNeg then -1 else s.2.1 q), s.2.2)) else (-1000011, (nI 1, s.2))) else (-1000001, s)
def gd_PX (v : Int32) (s' : gd_S) (h : pj_H) (b : Nat) (po : Option Nat) (lf : Int32) (n : Nat) : Option Value → pj_H → Nat → Prop := fun r h' n' => r = some (.int v) ∧ n' = n ∧ h' b = some (.inr (10, gd_XO b po lf s'.1)) ∧ gd_RX h' b s'.2.1 s'.2.2.1 s'.2.2.2 ∧ ∀ q, (q < b ∨ b + 12 < q) → h' q = h q
theorem gd_hp_of {ln : Nat → Int32} {mn : Nat → Nat} {r i c : Int32} (hB : gd_RB ln mn) (h : gd_hp ln mn r i c = true) : ∃ j a m, j < 8 ∧ r = nI j ∧ r.toNatClampNeg = j ∧ i = nI a ∧ i.toNatClampNeg = a ∧ c = nI m ∧ c.toNatClampNeg = m ∧ a + m ≤ mn j ∧ mn j ≤ 40 ∧ ¬ ln j = -1 := by
  rw [gd_hp, Bool.and_eq_true, decide_eq_true_eq] at h
  obtain ⟨j, hj, rfl, hc, hn⟩ := gd_th_of h.1
  obtain ⟨-, h1, h2, h3⟩ := h
  rw [hc] at h3
  have hm := (hB j hj).2
  obtain ⟨a, ha, rfl⟩ := nI_of (x := i) (by rw [Int32.lt_iff_toInt_lt]; simp; omega)
  obtain ⟨m, hm', rfl⟩ := nI_of (x := c) (by rw [Int32.lt_iff_toInt_lt]; simp; omega)
  rw [nI_toInt ha, nI_toInt hm'] at h3
  exact ⟨j, a, m, hj, rfl, hc, rfl, nI_clamp ha, rfl, nI_clamp hm', by omega, hm, hn⟩
section
variable {E : pj_E} {B : Nat} {l : Launch} {h : pj_H} {n b : Nat} {ln : Nat → Int32} {mn : Nat → Nat} {it : Nat → Nat → Int32} {po : Option Nat} {lf st : Int32}
theorem c_J7_fill {a N : Nat} {f : Nat → Int32} (x : Int32) (ha : h a = some (.inl (0, N, .inl f))) (hN : N ≤ 100000) : pj_Ct E B l Y_J7_fill_53178 1 0 0 [.ref a, .int x] h n (fun r h' n' => r = none ∧ n' = n ∧ ∃ f', h' = pj_up h a (.inl (0, N, .inl f')) ∧ ∀ i, i < N → f' i = x) := by
  refine pj_in rfl (ls := [some (.ref a), some (.int (x)), none, none]) rfl (Nat.le_of_ble_eq_true rfl) ?_
  refine pj_iconst (q := 1) (v := nI 0) (pj_d p_J7_fill_53178 0 rfl) rfl (by decide) ?_
  refine pj_ist2 (q := 2) (pj_d p_J7_fill_53178 1 rfl) rfl (by first | rfl | assumption) ?_
  refine pj_ald0 (q := 3) (pj_d p_J7_fill_53178 2 rfl) rfl ?_
  refine pj_len (q := 4) (t := 0) (v := nI N) rfl (pj_d p_J7_fill_53178 3 rfl) rfl ha rfl ?_
  refine pj_ist3 (q := 5) (pj_d p_J7_fill_53178 4 rfl) rfl (by first | rfl | assumption) ?_
  have loop : ∀ m i f, (∀ j, j < i → f j = x) → N - i < m → i ≤ N → pj_V E B l Y_J7_fill_53178 1 0 0 5 [some (.ref a), some (.int (x)), some (.int (nI i)), some (.int (nI N))] [] (pj_up h a (.inl (0, N, .inl f))) n 0 0 (fun r h' n' => r = none ∧ n' = n ∧ ∃ f', h' = pj_up h a (.inl (0, N, .inl f')) ∧ ∀ i, i < N → f' i = x) := by
    intro m
    induction m with
    | zero => intro i f _ hi; omega
    | succ m ih =>
      intro i f hf hi hle
      have F1 : (pj_up h a (.inl (0, N, .inl f))) a = some (.inl (0, N, .inl f)) := pj_up_s
      refine pj_ild2 (q := 6) (pj_d p_J7_fill_53178 5 rfl) rfl ?_
      refine pj_ild3 (q := 7) (pj_d p_J7_fill_53178 6 rfl) rfl ?_
      refine pj_icmp_ge (t := 20) (q := 10) (pj_d p_J7_fill_53178 7 rfl) rfl (by decide) (fun c1 => ?_) (fun c1 => ?_)
      · have he : i = N := by have := gd_ge c1 (by omega) (by omega); omega
        subst he
        refine pj_vret rfl (pj_d p_J7_fill_53178 14 rfl) (by decide) (by decide) ?_
        exact ⟨rfl, rfl, f, rfl, hf⟩
      have hlt : i < N := gd_lt c1 (by omega)
      refine pj_ald0 (q := 11) (pj_d p_J7_fill_53178 8 rfl) rfl ?_
      refine pj_ild2 (q := 12) (pj_d p_J7_fill_53178 9 rfl) rfl ?_
      refine pj_ild1 (q := 13) (pj_d p_J7_fill_53178 10 rfl) rfl ?_
      refine pj_iast (q := 14) (pj_d p_J7_fill_53178 11 rfl) rfl F1 rfl hlt (by omega) ?_
      rw [pj_up_up]
      refine pj_iinc2 (q := 17) (v := 1) (pj_d p_J7_fill_53178 12 rfl) rfl (by first | rfl | assumption) (by decide) ?_
      refine pj_goto (t := 5) (pj_d p_J7_fill_53178 13 rfl) (by decide) ?_
      rw [nI_1]
      refine ih (i + 1) _ (fun j hj => ?_) (by omega) (by omega)
      rw [gd_upd]
      split
      · rfl
      · exact hf j (by omega)
  have := loop (N + 1) 0 f (fun j hj => absurd hj (Nat.not_lt_zero j)) (by omega) (by omega)
  rw [pj_up_id ha] at this
  exact this
theorem c_X5_cut {j : Nat} (hj : j ≤ 2) (x : Int32) : pj_Ct E B l Y_X5_cut 1 0 0 [.int (nI j), .int x] h n (pj_is (some (.int (gd_cut (nI j) x))) h n) := by
  refine pj_in rfl (ls := [some (.int (nI j)), some (.int (x))]) rfl (Nat.le_of_ble_eq_true rfl) ?_
  refine pj_ild0 (q := 1) (pj_d p_X5_cut 0 rfl) rfl ?_
  rcases (show j = 0 ∨ j = 1 ∨ j = 2 by omega) with rfl | rfl | rfl
  · refine pj_lookup (t := 28) (dflt := 33) (ps := #[(0, 27), (1, 30)]) (off := 27) (pj_d p_X5_cut 1 rfl) (by decide) (by rfl) (by decide) ?_
    refine pj_ild1 (q := 29) (pj_d p_X5_cut 2 rfl) rfl ?_
    refine pj_i2b (q := 30) (pj_d p_X5_cut 3 rfl) rfl ?_
    refine pj_iret rfl (pj_d p_X5_cut 4 rfl) (by decide) (by decide) ?_
    exact ⟨rfl, rfl, rfl⟩
  · refine pj_lookup (t := 31) (dflt := 33) (ps := #[(0, 27), (1, 30)]) (off := 30) (pj_d p_X5_cut 1 rfl) (by decide) (by rfl) (by decide) ?_
    refine pj_ild1 (q := 32) (pj_d p_X5_cut 5 rfl) rfl ?_
    refine pj_i2s (q := 33) (pj_d p_X5_cut 6 rfl) rfl ?_
    refine pj_iret rfl (pj_d p_X5_cut 7 rfl) (by decide) (by decide) ?_
    exact ⟨rfl, rfl, rfl⟩
  · refine pj_lookup (t := 34) (dflt := 33) (ps := #[(0, 27), (1, 30)]) (off := 33) (pj_d p_X5_cut 1 rfl) (by decide) (by rfl) (by decide) ?_
    refine pj_ild1 (q := 35) (pj_d p_X5_cut 8 rfl) rfl ?_
    refine pj_iret rfl (pj_d p_X5_cut 9 rfl) (by decide) (by decide) ?_
    exact ⟨rfl, rfl, rfl⟩
theorem c_X5_make (hR : gd_RX h b ln mn it) {r c : Nat} (hr : r < 8) (hc : c ≤ 40) (x : Int32) : pj_Ct E B l Y_X5_make 2 0 0 [.ref (b + 1), .int (nI r), .int x, .int (nI c)] h n (fun r' h' n' => r' = none ∧ n' = n ∧ gd_RX h' b (fun q => if q = r then x else ln q) (fun q => if q = r then c else mn q) (fun q i => if q = r then nI 0 else it q i) ∧ ∀ q, (q < b + 1 ∨ b + 12 < q) → h' q = h q) := by
  obtain ⟨R0, ⟨fo, R2, g2⟩, R3, ⟨f4, R4, g4⟩, ⟨f5, R5, g5⟩⟩ := hR
  obtain ⟨fr, hr0, hr1⟩ := R3 r hr
  refine pj_in rfl (ls := [some (.ref (b + 1)), some (.int (nI r)), some (.int (x)), some (.int (nI c))]) rfl (Nat.le_of_ble_eq_true rfl) ?_
  refine pj_ild1 (q := 1) (pj_d p_X5_make 0 rfl) rfl ?_
  refine pj_cp (pj_rS (q := 4) (c_X5_isNumber (nI r)) (pj_d p_X5_make 1 rfl) rfl kX5_27 o_X5_isNumber (by rfl) (by rfl) (Nat.le_of_ble_eq_true rfl) (by decide)) (by decide) (by decide) ?_
  refine pj_if_eq (t := 17) (q := 7) (pj_d p_X5_make 2 rfl) rfl (by decide) (fun c1 => ?_) (fun c1 => ?_)
  · exact absurd ((gd_b_z _).mp c1) (by rw [gd_rng_nI (by omega), Bool.eq_false_iff]; simp; omega)
  refine pj_ild3 (q := 8) (pj_d p_X5_make 3 rfl) rfl ?_
  refine pj_if_lt (t := 17) (q := 11) (pj_d p_X5_make 4 rfl) rfl (by decide) (fun c2 => ?_) (fun c2 => ?_)
  · exact absurd c2 (nI_pos (by omega))
  refine pj_ild3 (q := 12) (pj_d p_X5_make 5 rfl) rfl ?_
  refine pj_bipush (q := 14) (v := nI 40) (pj_d p_X5_make 6 rfl) rfl (by decide) ?_
  refine pj_icmp_le (t := 18) (q := 17) (pj_d p_X5_make 7 rfl) rfl (by decide) (fun c3 => ?_) (fun c3 => ?_)
  rotate_left
  · exact absurd (nI_le hc (by omega)) c3
  refine pj_ald0 (q := 19) (pj_d p_X5_make 9 rfl) rfl ?_
  refine pj_gf (q := 22) (k := 1) (pj_d p_X5_make 10 rfl) rfl kX5_14 (by assumption) (by rfl) (by rfl) ?_
  refine pj_ild1 (q := 23) (pj_d p_X5_make 11 rfl) rfl ?_
  refine pj_ild2 (q := 24) (pj_d p_X5_make 12 rfl) rfl ?_
  refine pj_iast (q := 25) (pj_d p_X5_make 13 rfl) rfl (by assumption) (by rfl) (by first | assumption | omega) (Nat.le_of_ble_eq_true rfl) ?_
  have R0' : (pj_up h (b + 11) (.inl (0, 8, .inl (upd f4 r x)))) (b + 1) = some (.inr (5, [.ref (b + 2), .ref (b + 11), .ref (b + 12)])) := by rw [pj_up_n (by omega)]; exact R0
  have R5' : (pj_up h (b + 11) (.inl (0, 8, .inl (upd f4 r x)))) (b + 12) = some (.inl (0, 8, .inl f5)) := by rw [pj_up_n (by omega)]; exact R5
  refine pj_ald0 (q := 26) (pj_d p_X5_make 14 rfl) rfl ?_
  refine pj_gf (q := 29) (k := 2) (pj_d p_X5_make 15 rfl) rfl kX5_18 (by assumption) (by rfl) (by rfl) ?_
  refine pj_ild1 (q := 30) (pj_d p_X5_make 16 rfl) rfl ?_
  refine pj_ild3 (q := 31) (pj_d p_X5_make 17 rfl) rfl ?_
  refine pj_iast (q := 32) (pj_d p_X5_make 18 rfl) rfl (by assumption) (by rfl) (by first | assumption | omega) (Nat.le_of_ble_eq_true rfl) ?_
  generalize hh2 : pj_up (pj_up h (b + 11) (.inl (0, 8, .inl (upd f4 r x)))) (b + 12) (.inl (0, 8, .inl (upd f5 r (nI c)))) = h2
  have q2 : ∀ q, q ≠ b + 11 → q ≠ b + 12 → h2 q = h q := fun q e1 e2 => by rw [← hh2, pj_up_n e2, pj_up_n e1]
  have S0 : h2 (b + 1) = some (.inr (5, [.ref (b + 2), .ref (b + 11), .ref (b + 12)])) := by rw [q2 _ (by omega) (by omega)]; exact R0
  have S2 : h2 (b + 2) = some (.inl (4, 8, .inr (.inr (.inr (.inr fo))))) := by rw [q2 _ (by omega) (by omega)]; exact R2
  have S3 : h2 (b + 3 + r) = some (.inl (0, 40, .inl fr)) := by rw [q2 _ (by omega) (by omega)]; exact hr0
  have S4 : h2 (b + 11) = some (.inl (0, 8, .inl (upd f4 r x))) := by rw [← hh2, pj_up_n (by omega), pj_up_s]
  have S5 : h2 (b + 12) = some (.inl (0, 8, .inl (upd f5 r (nI c)))) := by rw [← hh2, pj_up_s]
  refine pj_ald0 (q := 33) (pj_d p_X5_make 19 rfl) rfl ?_
  refine pj_gf (q := 36) (k := 0) (pj_d p_X5_make 20 rfl) rfl kX5_11 (by assumption) (by rfl) (by rfl) ?_
  refine pj_ild1 (q := 37) (pj_d p_X5_make 21 rfl) rfl ?_
  refine pj_aald (t := 4) (q := 38) rfl rfl (pj_d p_X5_make 22 rfl) rfl S2 rfl hr (Nat.le_of_ble_eq_true rfl) ?_
  rw [g2 r hr]
  refine pj_iconst (q := 39) (v := nI 0) (pj_d p_X5_make 23 rfl) rfl (by decide) ?_
  refine pj_cv (pj_rS (q := 42) (c_J7_fill (nI 0) S3 (by omega)) (pj_d p_X5_make 24 rfl) rfl kX5_21 o_J7_fill_53178 (by rfl) (by rfl) (Nat.le_of_ble_eq_true rfl) (by decide)) (by decide) (by decide) ?_
  rintro r' h' n' ⟨rfl, rfl, f', rfl, hf'⟩
  refine pj_vret rfl (pj_d p_X5_make 25 rfl) (by decide) (by decide) ?_
  refine ⟨rfl, rfl, ⟨by rw [pj_up_n (by omega)]; exact S0, ⟨fo, by rw [pj_up_n (by omega)]; exact S2, g2⟩, fun q hq => ?_, ⟨_, by rw [pj_up_n (by omega)]; exact S4, fun q hq => by rw [gd_upd]; split <;> rename_i e <;> simp [e, g4 q hq]⟩, ⟨_, by rw [pj_up_n (by omega)]; exact S5, fun q hq => by rw [gd_upd]; split <;> rename_i e <;> simp [e, g5 q hq]⟩⟩, fun q hq => by rw [pj_up_n (by omega), q2 _ (by omega) (by omega)]⟩
  by_cases e : q = r
  · subst e
    exact ⟨f', pj_up_s, fun i hi => by dsimp only; rw [if_pos rfl]; exact hf' i hi⟩
  · obtain ⟨f3, e3, e4⟩ := R3 q hq
    exact ⟨f3, by rw [pj_up_n (by omega), q2 _ (by omega) (by omega)]; exact e3, fun i hi => by dsimp only; rw [if_neg e]; exact e4 i hi⟩
theorem c_X5_put (hR : gd_RX h b ln mn it) (hB : gd_RB ln mn) {r i : Nat} (hp : gd_hp ln mn (nI r) (nI i) (nI 1) = true) (hr : r < 8) (hi : i < 40) (x : Int32) : pj_Ct E B l Y_X5_put 4 0 0 [.ref (b + 1), .int (nI r), .int (nI i), .int x] h n (fun r' h' n' => r' = some (.int (gd_cut (ln r) x)) ∧ n' = n ∧ gd_RX h' b ln mn (fun q z => if q = r ∧ z = i then gd_cut (ln r) x else it q z) ∧ ∀ q, (q < b + 1 ∨ b + 12 < q) → h' q = h q) := by
  have hR' := hR
  obtain ⟨R0, ⟨fo, R2, g2⟩, R3, ⟨f4, R4, g4⟩, ⟨f5, R5, g5⟩⟩ := hR
  obtain ⟨fr, hr0, hr1⟩ := R3 r hr
  obtain ⟨j, hj, hlj⟩ : ∃ j, j ≤ 2 ∧ ln r = nI j := by
    rcases (hB r hr).1 with e | e
    · obtain ⟨j', -, -, -, er, ec, -, -, -, -, -, -, en⟩ := gd_hp_of hB hp
      rw [nI_clamp (by omega)] at ec
      subst ec
      exact absurd e en
    · exact e
  refine pj_in rfl (ls := [some (.ref (b + 1)), some (.int (nI r)), some (.int (nI i)), some (.int (x))]) rfl (Nat.le_of_ble_eq_true rfl) ?_
  refine pj_ald0 (q := 1) (pj_d p_X5_put 0 rfl) rfl ?_
  refine pj_ild1 (q := 2) (pj_d p_X5_put 1 rfl) rfl ?_
  refine pj_ild2 (q := 3) (pj_d p_X5_put 2 rfl) rfl ?_
  refine pj_iconst (q := 4) (v := nI 1) (pj_d p_X5_put 3 rfl) rfl (by decide) ?_
  refine pj_cp (pj_rV (q := 7) (c_X5_hasPlaces hR' hB (nI r) (nI i) (nI 1)) (pj_d p_X5_put 4 rfl) rfl kX5_34 o_X5_hasPlaces (by assumption) (by rfl) (by rfl) (by rfl) (by rfl) (Nat.le_of_ble_eq_true rfl) (by decide)) (by decide) (by decide) ?_
  rw [hp]
  refine pj_if_ne (t := 12) (q := 10) (pj_d p_X5_put 5 rfl) rfl (by decide) (fun c1 => ?_) (fun c1 => ?_)
  rotate_left
  · exact absurd c1 (by decide)
  refine pj_ald0 (q := 13) (pj_d p_X5_put 8 rfl) rfl ?_
  refine pj_gf (q := 16) (k := 0) (pj_d p_X5_put 9 rfl) rfl kX5_11 (by assumption) (by rfl) (by rfl) ?_
  refine pj_ild1 (q := 17) (pj_d p_X5_put 10 rfl) rfl ?_
  refine pj_aald (t := 4) (q := 18) rfl rfl (pj_d p_X5_put 11 rfl) rfl R2 rfl hr (Nat.le_of_ble_eq_true rfl) ?_
  rw [g2 r hr]
  refine pj_ild2 (q := 19) (pj_d p_X5_put 12 rfl) rfl ?_
  refine pj_ald0 (q := 20) (pj_d p_X5_put 13 rfl) rfl ?_
  refine pj_gf (q := 23) (k := 1) (pj_d p_X5_put 14 rfl) rfl kX5_14 (by assumption) (by rfl) (by rfl) ?_
  refine pj_ild1 (q := 24) (pj_d p_X5_put 15 rfl) rfl ?_
  refine pj_ialdN (q := 25) (pj_d p_X5_put 16 rfl) rfl (by assumption) (by rfl) (by first | assumption | omega) (Nat.le_of_ble_eq_true rfl) ?_
  rw [g4 r hr, hlj]
  refine pj_ild3 (q := 26) (pj_d p_X5_put 17 rfl) rfl ?_
  refine pj_cp (pj_rS (q := 29) (c_X5_cut hj x) (pj_d p_X5_put 18 rfl) rfl kX5_38 o_X5_cut (by rfl) (by rfl) (Nat.le_of_ble_eq_true rfl) (by decide)) (by decide) (by decide) ?_
  refine pj_iast (q := 30) (pj_d p_X5_put 19 rfl) rfl hr0 rfl hi (by omega) ?_
  have S0 : (pj_up h (b + 3 + r) (.inl (0, 40, .inl (upd fr i (gd_cut (nI j) x))))) (b + 1) = some (.inr (5, [.ref (b + 2), .ref (b + 11), .ref (b + 12)])) := by rw [pj_up_n (by omega)]; exact R0
  have S2 : (pj_up h (b + 3 + r) (.inl (0, 40, .inl (upd fr i (gd_cut (nI j) x))))) (b + 2) = some (.inl (4, 8, .inr (.inr (.inr (.inr fo))))) := by rw [pj_up_n (by omega)]; exact R2
  refine pj_ald0 (q := 31) (pj_d p_X5_put 20 rfl) rfl ?_
  refine pj_gf (q := 34) (k := 0) (pj_d p_X5_put 21 rfl) rfl kX5_11 (by assumption) (by rfl) (by rfl) ?_
  refine pj_ild1 (q := 35) (pj_d p_X5_put 22 rfl) rfl ?_
  refine pj_aald (t := 4) (q := 36) rfl rfl (pj_d p_X5_put 23 rfl) rfl S2 rfl hr (Nat.le_of_ble_eq_true rfl) ?_
  rw [g2 r hr]
  refine pj_ild2 (q := 37) (pj_d p_X5_put 24 rfl) rfl ?_
  refine pj_ialdN (q := 38) (pj_d p_X5_put 25 rfl) rfl pj_up_s rfl hi (by omega) ?_
  rw [show upd fr i (gd_cut (nI j) x) i = gd_cut (nI j) x by rw [gd_upd, if_pos rfl]]
  refine pj_iret rfl (pj_d p_X5_put 26 rfl) (by decide) (by decide) ?_
  refine ⟨rfl, rfl, ⟨S0, ⟨fo, S2, g2⟩, fun q hq => ?_, ⟨f4, by rw [pj_up_n (by omega)]; exact R4, g4⟩, ⟨f5, by rw [pj_up_n (by omega)]; exact R5, g5⟩⟩, fun q hq => by rw [pj_up_n (by omega)]⟩
  by_cases e : q = r
  · subst e
    refine ⟨_, pj_up_s, fun z hz => ?_⟩
    rw [gd_upd]
    dsimp only
    by_cases ez : z = i
    · rw [if_pos ez, if_pos (show q = q ∧ z = i from ⟨rfl, ez⟩)]
    · rw [if_neg ez, if_neg (fun q => ez q.2)]; exact hr1 z hz
  · obtain ⟨f3, e3, e4⟩ := R3 q hq
    exact ⟨f3, by rw [pj_up_n (by omega)]; exact e3, fun z hz => by dsimp only; rw [if_neg (fun w => e w.1)]; exact e4 z hz⟩
theorem c_X5_itemAt (hR : gd_RX h b ln mn it) (hB : gd_RB ln mn) {r i : Nat} (hp : gd_hp ln mn (nI r) (nI i) (nI 1) = true) (hr : r < 8) (hi : i < 40) : pj_Ct E B l Y_X5_itemAt 4 0 0 [.ref (b + 1), .int (nI r), .int (nI i)] h n (pj_is (some (.int (it r i))) h n) := by
  have hR' := hR
  obtain ⟨R0, ⟨fo, R2, g2⟩, R3, -, -⟩ := hR
  obtain ⟨fr, hr0, hr1⟩ := R3 r hr
  refine pj_in rfl (ls := [some (.ref (b + 1)), some (.int (nI r)), some (.int (nI i))]) rfl (Nat.le_of_ble_eq_true rfl) ?_
  refine pj_ald0 (q := 1) (pj_d p_X5_itemAt 0 rfl) rfl ?_
  refine pj_ild1 (q := 2) (pj_d p_X5_itemAt 1 rfl) rfl ?_
  refine pj_ild2 (q := 3) (pj_d p_X5_itemAt 2 rfl) rfl ?_
  refine pj_iconst (q := 4) (v := nI 1) (pj_d p_X5_itemAt 3 rfl) rfl (by decide) ?_
  refine pj_cp (pj_rV (q := 7) (c_X5_hasPlaces hR' hB (nI r) (nI i) (nI 1)) (pj_d p_X5_itemAt 4 rfl) rfl kX5_34 o_X5_hasPlaces (by assumption) (by rfl) (by rfl) (by rfl) (by rfl) (Nat.le_of_ble_eq_true rfl) (by decide)) (by decide) (by decide) ?_
  rw [hp]
  refine pj_if_eq (t := 21) (q := 10) (pj_d p_X5_itemAt 5 rfl) rfl (by decide) (fun c1 => ?_) (fun c1 => ?_)
  · exact absurd c1 (by decide)
  refine pj_ald0 (q := 11) (pj_d p_X5_itemAt 6 rfl) rfl ?_
  refine pj_gf (q := 14) (k := 0) (pj_d p_X5_itemAt 7 rfl) rfl kX5_11 (by assumption) (by rfl) (by rfl) ?_
  refine pj_ild1 (q := 15) (pj_d p_X5_itemAt 8 rfl) rfl ?_
  refine pj_aald (t := 4) (q := 16) rfl rfl (pj_d p_X5_itemAt 9 rfl) rfl R2 rfl hr (Nat.le_of_ble_eq_true rfl) ?_
  rw [g2 r hr]
  refine pj_ild2 (q := 17) (pj_d p_X5_itemAt 10 rfl) rfl ?_
  refine pj_ialdN (q := 18) (pj_d p_X5_itemAt 11 rfl) rfl hr0 rfl hi (by omega) ?_
  rw [hr1 i hi]
  refine pj_goto (t := 22) (pj_d p_X5_itemAt 12 rfl) (by decide) ?_
  refine pj_iret rfl (pj_d p_X5_itemAt 14 rfl) (by decide) (by decide) ?_
  exact ⟨rfl, rfl, rfl⟩
theorem c_X5_remove (hR : gd_RX h b ln mn it) {r : Nat} (hr : r < 8) (ht : gd_th ln (nI r) = true) : pj_Ct E B l Y_X5_remove 3 0 0 [.ref (b + 1), .int (nI r)] h n (fun r' h' n' => r' = some (.int (nI (mn r))) ∧ n' = n ∧ gd_RX h' b (fun q => if q = r then -1 else ln q) mn it ∧ ∀ q, (q < b + 1 ∨ b + 12 < q) → h' q = h q) := by
  have hR' := hR
  obtain ⟨R0, ⟨fo, R2, g2⟩, R3, ⟨f4, R4, g4⟩, ⟨f5, R5, g5⟩⟩ := hR
  refine pj_in rfl (ls := [some (.ref (b + 1)), some (.int (nI r))]) rfl (Nat.le_of_ble_eq_true rfl) ?_
  refine pj_ald0 (q := 1) (pj_d p_X5_remove 0 rfl) rfl ?_
  refine pj_ild1 (q := 2) (pj_d p_X5_remove 1 rfl) rfl ?_
  refine pj_cp (pj_rV (q := 5) (c_X5_isThere hR' (nI r)) (pj_d p_X5_remove 2 rfl) rfl kX5_31 o_X5_isThere (by assumption) (by rfl) (by rfl) (by rfl) (by rfl) (Nat.le_of_ble_eq_true rfl) (by decide)) (by decide) (by decide) ?_
  rw [ht]
  refine pj_if_ne (t := 10) (q := 8) (pj_d p_X5_remove 3 rfl) rfl (by decide) (fun c1 => ?_) (fun c1 => ?_)
  rotate_left
  · exact absurd c1 (by decide)
  refine pj_ald0 (q := 11) (pj_d p_X5_remove 6 rfl) rfl ?_
  refine pj_gf (q := 14) (k := 1) (pj_d p_X5_remove 7 rfl) rfl kX5_14 (by assumption) (by rfl) (by rfl) ?_
  refine pj_ild1 (q := 15) (pj_d p_X5_remove 8 rfl) rfl ?_
  refine pj_iconst (q := 16) (v := (-1)) (pj_d p_X5_remove 9 rfl) rfl (by decide) ?_
  refine pj_iast (q := 17) (pj_d p_X5_remove 10 rfl) rfl (by assumption) (by rfl) (by first | assumption | omega) (Nat.le_of_ble_eq_true rfl) ?_
  have S0 : (pj_up h (b + 11) (.inl (0, 8, .inl (upd f4 r (-1))))) (b + 1) = some (.inr (5, [.ref (b + 2), .ref (b + 11), .ref (b + 12)])) := by rw [pj_up_n (by omega)]; exact R0
  have S5 : (pj_up h (b + 11) (.inl (0, 8, .inl (upd f4 r (-1))))) (b + 12) = some (.inl (0, 8, .inl f5)) := by rw [pj_up_n (by omega)]; exact R5
  refine pj_ald0 (q := 18) (pj_d p_X5_remove 11 rfl) rfl ?_
  refine pj_gf (q := 21) (k := 2) (pj_d p_X5_remove 12 rfl) rfl kX5_18 (by assumption) (by rfl) (by rfl) ?_
  refine pj_ild1 (q := 22) (pj_d p_X5_remove 13 rfl) rfl ?_
  refine pj_ialdN (q := 23) (pj_d p_X5_remove 14 rfl) rfl (by assumption) (by rfl) (by first | assumption | omega) (Nat.le_of_ble_eq_true rfl) ?_
  rw [g5 r hr]
  refine pj_iret rfl (pj_d p_X5_remove 15 rfl) (by decide) (by decide) ?_
  refine ⟨rfl, rfl, ⟨S0, ⟨fo, by rw [pj_up_n (by omega)]; exact R2, g2⟩, fun q hq => ?_, ⟨_, pj_up_s, fun q hq => by rw [gd_upd]; split <;> rename_i e <;> simp [e, g4 q hq]⟩, ⟨f5, S5, g5⟩⟩, fun q hq => by rw [pj_up_n (by omega)]⟩
  obtain ⟨f3, e3, e4⟩ := R3 q hq
  exact ⟨f3, by rw [pj_up_n (by omega)]; exact e3, e4⟩
theorem c_X5_move (hR : gd_RX h b ln mn it) (hB : gd_RB ln mn) {a i r j c : Nat} (ha : a < 8) (hr : r < 8) (h1 : gd_hp ln mn (nI a) (nI i) (nI c) = true) (h2 : gd_hp ln mn (nI r) (nI j) (nI c) = true) (hi : i + c ≤ 40) (hj : j + c ≤ 40) : pj_Ct E B l Y_X5_move 4 0 0 [.ref (b + 1), .int (nI a), .int (nI i), .int (nI r), .int (nI j), .int (nI c)] h n (fun r' h' n' => r' = none ∧ n' = n ∧ gd_RX h' b ln mn (fun q z => if q = r ∧ j ≤ z ∧ z < j + c then it a (i + (z - j)) else it q z) ∧ ∀ q, (q < b + 1 ∨ b + 12 < q) → h' q = h q) := by
  have hR' := hR
  obtain ⟨R0, ⟨fo, R2, g2⟩, R3, ⟨f4, R4, g4⟩, ⟨f5, R5, g5⟩⟩ := hR
  obtain ⟨fa, ha0, ha1⟩ := R3 a ha
  obtain ⟨fr, hr0, hr1⟩ := R3 r hr
  refine pj_in rfl (ls := [some (.ref (b + 1)), some (.int (nI a)), some (.int (nI i)), some (.int (nI r)), some (.int (nI j)), some (.int (nI c))]) rfl (Nat.le_of_ble_eq_true rfl) ?_
  refine pj_ald0 (q := 1) (pj_d p_X5_move 0 rfl) rfl ?_
  refine pj_ild1 (q := 2) (pj_d p_X5_move 1 rfl) rfl ?_
  refine pj_ild2 (q := 3) (pj_d p_X5_move 2 rfl) rfl ?_
  refine pj_ild5 (q := 5) (pj_d p_X5_move 3 rfl) rfl ?_
  refine pj_cp (pj_rV (q := 8) (c_X5_hasPlaces hR' hB (nI a) (nI i) (nI c)) (pj_d p_X5_move 4 rfl) rfl kX5_34 o_X5_hasPlaces (by assumption) (by rfl) (by rfl) (by rfl) (by rfl) (Nat.le_of_ble_eq_true rfl) (by decide)) (by decide) (by decide) ?_
  rw [h1]
  refine pj_if_eq (t := 43) (q := 11) (pj_d p_X5_move 5 rfl) rfl (by decide) (fun c1 => ?_) (fun c1 => ?_)
  · exact absurd c1 (by decide)
  refine pj_ald0 (q := 12) (pj_d p_X5_move 6 rfl) rfl ?_
  refine pj_ild3 (q := 13) (pj_d p_X5_move 7 rfl) rfl ?_
  refine pj_ild4 (q := 15) (pj_d p_X5_move 8 rfl) rfl ?_
  refine pj_ild5 (q := 17) (pj_d p_X5_move 9 rfl) rfl ?_
  refine pj_cp (pj_rV (q := 20) (c_X5_hasPlaces hR' hB (nI r) (nI j) (nI c)) (pj_d p_X5_move 10 rfl) rfl kX5_34 o_X5_hasPlaces (by assumption) (by rfl) (by rfl) (by rfl) (by rfl) (Nat.le_of_ble_eq_true rfl) (by decide)) (by decide) (by decide) ?_
  rw [h2]
  refine pj_if_eq (t := 43) (q := 23) (pj_d p_X5_move 11 rfl) rfl (by decide) (fun c2 => ?_) (fun c2 => ?_)
  · exact absurd c2 (by decide)
  refine pj_ald0 (q := 24) (pj_d p_X5_move 12 rfl) rfl ?_
  refine pj_gf (q := 27) (k := 0) (pj_d p_X5_move 13 rfl) rfl kX5_11 (by assumption) (by rfl) (by rfl) ?_
  refine pj_ild1 (q := 28) (pj_d p_X5_move 14 rfl) rfl ?_
  refine pj_aald (t := 4) (q := 29) rfl rfl (pj_d p_X5_move 15 rfl) rfl R2 rfl ha (Nat.le_of_ble_eq_true rfl) ?_
  rw [g2 a ha]
  refine pj_ild2 (q := 30) (pj_d p_X5_move 16 rfl) rfl ?_
  refine pj_ald0 (q := 31) (pj_d p_X5_move 17 rfl) rfl ?_
  refine pj_gf (q := 34) (k := 0) (pj_d p_X5_move 18 rfl) rfl kX5_11 (by assumption) (by rfl) (by rfl) ?_
  refine pj_ild3 (q := 35) (pj_d p_X5_move 19 rfl) rfl ?_
  refine pj_aald (t := 4) (q := 36) rfl rfl (pj_d p_X5_move 20 rfl) rfl R2 rfl hr (Nat.le_of_ble_eq_true rfl) ?_
  rw [g2 r hr]
  refine pj_ild4 (q := 38) (pj_d p_X5_move 21 rfl) rfl ?_
  refine pj_ild5 (q := 40) (pj_d p_X5_move 22 rfl) rfl ?_
  refine pj_acopy (q := 43) (pj_d p_X5_move 23 rfl) rfl kX5_42 ac_nat ac_sta ac_ini ha0 hr0 hi hj (by omega) (by omega) (by decide) (by decide) ?_
  refine pj_vret rfl (pj_d p_X5_move 24 rfl) (by decide) (by decide) ?_
  refine ⟨rfl, rfl, ⟨by rw [pj_up_n (by omega)]; exact R0, ⟨fo, by rw [pj_up_n (by omega)]; exact R2, g2⟩, fun q hq => ?_, ⟨f4, by rw [pj_up_n (by omega)]; exact R4, g4⟩, ⟨f5, by rw [pj_up_n (by omega)]; exact R5, g5⟩⟩, fun q hq => by rw [pj_up_n (by omega)]⟩
  by_cases e : q = r
  · subst e
    refine ⟨_, pj_up_s, fun z hz => ?_⟩
    dsimp only
    by_cases hz2 : j ≤ z ∧ z < j + c
    · rw [if_pos (show q = q ∧ j ≤ z ∧ z < j + c from ⟨rfl, hz2⟩), pk_cpy_in hz2.1 hz2.2]
      exact ha1 _ (by omega)
    · rw [if_neg (fun w => hz2 w.2), pk_cpy_out (by omega)]
      exact hr1 z hz
  · obtain ⟨f3, e3, e4⟩ := R3 q hq
    exact ⟨f3, by rw [pj_up_n (by omega)]; exact e3, fun z hz => by dsimp only; rw [if_neg (fun w => e w.1)]; exact e4 z hz⟩
end
