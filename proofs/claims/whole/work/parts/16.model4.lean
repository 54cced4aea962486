/-! ===== the model: thing, pair ===== -/
theorem gd_of_iff {τ : Nat → Nat} {a j : Nat} : gd_of τ a j = true ↔ τ (32 + 3 * j) = a ∨ τ (33 + 3 * j) = a := by
  simp [gd_of]
theorem gd_two_of {τ : Nat → Nat} {a b j : Nat} (hab : a ≠ b) : (gd_of τ a j && gd_of τ b j) = true ↔ (τ (32 + 3 * j) = a ∧ τ (33 + 3 * j) = b) ∨ (τ (32 + 3 * j) = b ∧ τ (33 + 3 * j) = a) := by
  rw [Bool.and_eq_true, gd_of_iff, gd_of_iff]
  omega
section
variable {E : pj_E} {B : Nat} {l : Launch} {h : pj_H} {n g : Nat} {τ : Nat → Nat} {v : Nat → Int32}
theorem c_X12_pair (hR : gd_MR h g v τ) (a b : Int32) : pj_Ct E B l Y_X12_pair 4 0 0 [.ref g, .int a, .int b] h n (pj_is (some (.int (sp_pair τ a b))) h n) := by
  obtain ⟨hM, hT, hv, hW, h1⟩ := hR
  have h7 := hW.1
  have h8 := hW.2.1
  refine pj_in rfl (ls := [some (.ref g), some (.int (a)), some (.int (b)), none, none, none]) rfl (Nat.le_of_ble_eq_true rfl) ?_
  refine gd_thr (pj_d p_X12_pair 0 rfl) (pj_d p_X12_pair 1 rfl) (pj_d p_X12_pair 2 rfl) rfl hM hv ?_
  refine pj_ald0 (q := 6) (pj_d p_X12_pair 3 rfl) rfl ?_
  refine pj_ild1 (q := 7) (pj_d p_X12_pair 4 rfl) rfl ?_
  refine pj_ild2 (q := 8) (pj_d p_X12_pair 5 rfl) rfl ?_
  refine pj_cp (pj_rV (q := 11) (c_X12_areTwo hM hT hW.1 a b) (pj_d p_X12_pair 6 rfl) rfl kX12_191 o_X12_areTwo (by assumption) (by rfl) (by rfl) (by rfl) (by rfl) (Nat.le_of_ble_eq_true rfl) (by decide)) (by decide) (by decide) ?_
  refine pj_if_ne (t := 17) (q := 14) (pj_d p_X12_pair 7 rfl) rfl (by decide) (fun c1 => ?_) (fun c1 => ?_)
  · have e1 := (gd_b_n _).mp c1
    have e3 : sp_two τ a b = true := e1
    rw [Bool.and_eq_true, Bool.and_eq_true] at e1
    obtain ⟨i, hi, rfl, hc⟩ := gd_has_of hW.1 e1.1.1
    obtain ⟨j, hj, rfl, hd⟩ := gd_has_of hW.1 e1.1.2
    have hij : i ≠ j := fun q => by rw [q] at e1; simp at e1
    have hsp : sp_pair τ (nI i) (nI j) = nI (gd_pair τ i j) := by rw [sp_pair, e3, hc, hd]; rfl
    rw [hsp]
    refine pj_iconst (q := 18) (v := nI 0) (pj_d p_X12_pair 10 rfl) rfl (by decide) ?_
    refine pj_ist3 (q := 19) (pj_d p_X12_pair 11 rfl) rfl (by first | rfl | assumption) ?_
    have loop : ∀ m p o4 o5, pj_c1 o4 = true → pj_c1 o5 = true → p + m = τ 2 → gd_pair τ i j = gd_pairF τ i j m p → pj_V E B l Y_X12_pair 4 0 0 19 [some (.ref g), some (.int (nI i)), some (.int (nI j)), some (.int (nI p)), o4, o5] [] h n 0 0 (pj_is (some (.int (nI (gd_pair τ i j)))) h n) := by
      intro m
      induction m with
      | zero =>
        intro p o4 o5 k4 k5 hp he
        refine pj_ild3 (q := 20) (pj_d p_X12_pair 12 rfl) rfl ?_
        refine pj_ald0 (q := 21) (pj_d p_X12_pair 13 rfl) rfl ?_
        refine pj_gf (q := 24) (k := 5) (pj_d p_X12_pair 14 rfl) rfl kX12_19 (by assumption) (by rfl) (by rfl) ?_
        refine pj_iconst (q := 25) (v := nI 2) (pj_d p_X12_pair 15 rfl) rfl (by decide) ?_
        refine pj_ialdN (q := 26) (pj_d p_X12_pair 16 rfl) rfl (by assumption) (by rfl) (by first | assumption | omega) (Nat.le_of_ble_eq_true rfl) ?_
        refine pj_icmp_ge (t := 101) (q := 29) (pj_d p_X12_pair 17 rfl) rfl (by decide) (fun c2 => ?_) (fun c2 => ?_)
        · refine pj_iconst (q := 102) (v := nI 0) (pj_d p_X12_pair 63 rfl) rfl (by decide) ?_
          refine pj_iret rfl (pj_d p_X12_pair 64 rfl) (by decide) (by decide) ?_
          exact ⟨by rw [he]; rfl, rfl, rfl⟩
        · exact absurd (gd_lt c2 (by omega)) (by omega)
      | succ m ih =>
        intro p o4 o5 k4 k5 hp he
        have hlt : p < τ 2 := by omega
        obtain ⟨g1, g2, -⟩ := hW.2.2.2.2.2.1 p hlt
        rw [gd_pairF] at he
        refine pj_ild3 (q := 20) (pj_d p_X12_pair 12 rfl) rfl ?_
        refine pj_ald0 (q := 21) (pj_d p_X12_pair 13 rfl) rfl ?_
        refine pj_gf (q := 24) (k := 5) (pj_d p_X12_pair 14 rfl) rfl kX12_19 (by assumption) (by rfl) (by rfl) ?_
        refine pj_iconst (q := 25) (v := nI 2) (pj_d p_X12_pair 15 rfl) rfl (by decide) ?_
        refine pj_ialdN (q := 26) (pj_d p_X12_pair 16 rfl) rfl (by assumption) (by rfl) (by first | assumption | omega) (Nat.le_of_ble_eq_true rfl) ?_
        refine pj_icmp_ge (t := 101) (q := 29) (pj_d p_X12_pair 17 rfl) rfl (by decide) (fun c2 => ?_) (fun c2 => ?_)
        · exact absurd (gd_ge c2 (by omega) (by omega)) (by omega)
        refine pj_ald0 (q := 30) (pj_d p_X12_pair 18 rfl) rfl ?_
        refine pj_gf (q := 33) (k := 5) (pj_d p_X12_pair 19 rfl) rfl kX12_19 (by assumption) (by rfl) (by rfl) ?_
        refine pj_bipush (q := 35) (v := nI 32) (pj_d p_X12_pair 20 rfl) rfl (by decide) ?_
        refine pj_iconst (q := 36) (v := nI 3) (pj_d p_X12_pair 21 rfl) rfl (by decide) ?_
        refine pj_ild3 (q := 37) (pj_d p_X12_pair 22 rfl) rfl ?_
        refine pj_imul (q := 38) (pj_d p_X12_pair 23 rfl) rfl ?_
        refine pj_iadd (q := 39) (pj_d p_X12_pair 24 rfl) rfl ?_
        rw [pk_mul, nI_add]
        refine pj_ialdN (q := 40) (pj_d p_X12_pair 25 rfl) rfl (by assumption) (by rfl) (by first | assumption | omega) (Nat.le_of_ble_eq_true rfl) ?_
        refine pj_ist4 (q := 42) (pj_d p_X12_pair 26 rfl) rfl (by first | rfl | assumption) ?_
        refine pj_ald0 (q := 43) (pj_d p_X12_pair 27 rfl) rfl ?_
        refine pj_gf (q := 46) (k := 5) (pj_d p_X12_pair 28 rfl) rfl kX12_19 (by assumption) (by rfl) (by rfl) ?_
        refine pj_bipush (q := 48) (v := nI 32) (pj_d p_X12_pair 29 rfl) rfl (by decide) ?_
        refine pj_iconst (q := 49) (v := nI 3) (pj_d p_X12_pair 30 rfl) rfl (by decide) ?_
        refine pj_ild3 (q := 50) (pj_d p_X12_pair 31 rfl) rfl ?_
        refine pj_imul (q := 51) (pj_d p_X12_pair 32 rfl) rfl ?_
        refine pj_iadd (q := 52) (pj_d p_X12_pair 33 rfl) rfl ?_
        refine pj_iconst (q := 53) (v := nI 1) (pj_d p_X12_pair 34 rfl) rfl (by decide) ?_
        refine pj_iadd (q := 54) (pj_d p_X12_pair 35 rfl) rfl ?_
        rw [pk_mul, nI_add, nI_add]
        refine pj_ialdN (q := 55) (pj_d p_X12_pair 36 rfl) rfl (by assumption) (by rfl) (by first | assumption | omega) (Nat.le_of_ble_eq_true rfl) ?_
        rw [show 32 + 3 * p + 1 = 33 + 3 * p by omega]
        refine pj_ist5 (q := 57) (pj_d p_X12_pair 37 rfl) rfl (by first | rfl | assumption) ?_
        have next : ¬ ((τ (32 + 3 * p) = i ∧ τ (33 + 3 * p) = j) ∨ (τ (32 + 3 * p) = j ∧ τ (33 + 3 * p) = i)) → pj_V E B l Y_X12_pair 4 0 0 95 [some (.ref g), some (.int (nI i)), some (.int (nI j)), some (.int (nI p)), some (.int (nI (τ (32 + 3 * p)))), some (.int (nI (τ (33 + 3 * p))))] [] h n 0 0 (pj_is (some (.int (nI (gd_pair τ i j)))) h n) := by
          intro hno
          refine pj_iinc3 (q := 98) (v := 1) (pj_d p_X12_pair 61 rfl) rfl (by first | rfl | assumption) (by decide) ?_
          refine pj_goto (t := 19) (pj_d p_X12_pair 62 rfl) (by decide) ?_
          rw [nI_1]
          exact ih (p + 1) _ _ rfl rfl (by omega) (by rw [he, if_neg (fun q => hno ((gd_two_of hij).mp q))])
        have yes : ((τ (32 + 3 * p) = i ∧ τ (33 + 3 * p) = j) ∨ (τ (32 + 3 * p) = j ∧ τ (33 + 3 * p) = i)) → pj_V E B l Y_X12_pair 4 0 0 81 [some (.ref g), some (.int (nI i)), some (.int (nI j)), some (.int (nI p)), some (.int (nI (τ (32 + 3 * p)))), some (.int (nI (τ (33 + 3 * p))))] [] h n 0 0 (pj_is (some (.int (nI (gd_pair τ i j)))) h n) := by
          intro hy
          refine pj_ald0 (q := 82) (pj_d p_X12_pair 50 rfl) rfl ?_
          refine pj_gf (q := 85) (k := 5) (pj_d p_X12_pair 51 rfl) rfl kX12_19 (by assumption) (by rfl) (by rfl) ?_
          refine pj_bipush (q := 87) (v := nI 32) (pj_d p_X12_pair 52 rfl) rfl (by decide) ?_
          refine pj_iconst (q := 88) (v := nI 3) (pj_d p_X12_pair 53 rfl) rfl (by decide) ?_
          refine pj_ild3 (q := 89) (pj_d p_X12_pair 54 rfl) rfl ?_
          refine pj_imul (q := 90) (pj_d p_X12_pair 55 rfl) rfl ?_
          refine pj_iadd (q := 91) (pj_d p_X12_pair 56 rfl) rfl ?_
          refine pj_iconst (q := 92) (v := nI 2) (pj_d p_X12_pair 57 rfl) rfl (by decide) ?_
          refine pj_iadd (q := 93) (pj_d p_X12_pair 58 rfl) rfl ?_
          rw [pk_mul, nI_add, nI_add]
          refine pj_ialdN (q := 94) (pj_d p_X12_pair 59 rfl) rfl (by assumption) (by rfl) (by first | assumption | omega) (Nat.le_of_ble_eq_true rfl) ?_
          rw [show 32 + 3 * p + 2 = 34 + 3 * p by omega]
          refine pj_iret rfl (pj_d p_X12_pair 60 rfl) (by decide) (by decide) ?_
          exact ⟨by rw [he, if_pos ((gd_two_of hij).mpr hy)], rfl, rfl⟩
        have sec : ¬ (τ (32 + 3 * p) = i ∧ τ (33 + 3 * p) = j) → pj_V E B l Y_X12_pair 4 0 0 69 [some (.ref g), some (.int (nI i)), some (.int (nI j)), some (.int (nI p)), some (.int (nI (τ (32 + 3 * p)))), some (.int (nI (τ (33 + 3 * p))))] [] h n 0 0 (pj_is (some (.int (nI (gd_pair τ i j)))) h n) := by
          intro hno
          refine pj_ild4 (q := 71) (pj_d p_X12_pair 44 rfl) rfl ?_
          refine pj_ild2 (q := 72) (pj_d p_X12_pair 45 rfl) rfl ?_
          refine pj_icmp_ne (t := 95) (q := 75) (pj_d p_X12_pair 46 rfl) rfl (by decide) (fun c5 => ?_) (fun c5 => ?_)
          · exact next (fun q => by rcases q with q | q; exact hno q; exact c5 (by rw [q.1]))
          refine pj_ild5 (q := 77) (pj_d p_X12_pair 47 rfl) rfl ?_
          refine pj_ild1 (q := 78) (pj_d p_X12_pair 48 rfl) rfl ?_
          refine pj_icmp_ne (t := 95) (q := 81) (pj_d p_X12_pair 49 rfl) rfl (by decide) (fun c6 => ?_) (fun c6 => ?_)
          · exact next (fun q => by rcases q with q | q; exact hno q; exact c6 (by rw [q.2]))
          · exact yes (Or.inr ⟨(nI_eq (by omega) (by omega)).mp c5, (nI_eq (by omega) (by omega)).mp c6⟩)
        refine pj_ild4 (q := 59) (pj_d p_X12_pair 38 rfl) rfl ?_
        refine pj_ild1 (q := 60) (pj_d p_X12_pair 39 rfl) rfl ?_
        refine pj_icmp_ne (t := 69) (q := 63) (pj_d p_X12_pair 40 rfl) rfl (by decide) (fun c3 => ?_) (fun c3 => ?_)
        · exact sec (fun q => c3 (by rw [q.1]))
        refine pj_ild5 (q := 65) (pj_d p_X12_pair 41 rfl) rfl ?_
        refine pj_ild2 (q := 66) (pj_d p_X12_pair 42 rfl) rfl ?_
        refine pj_icmp_eq (t := 81) (q := 69) (pj_d p_X12_pair 43 rfl) rfl (by decide) (fun c4 => ?_) (fun c4 => ?_)
        · exact yes (Or.inl ⟨(nI_eq (by omega) (by omega)).mp c3, (nI_eq (by omega) (by omega)).mp c4⟩)
        · exact sec (fun q => c4 (by rw [q.2]))
    exact loop (τ 2) 0 _ _ rfl rfl (by omega) rfl
  · refine pj_ldc (q := 16) (pj_d p_X12_pair 8 rfl) rfl kX12_67 ?_
    refine pj_iret rfl (pj_d p_X12_pair 9 rfl) (by decide) (by decide) ?_
    exact ⟨by rw [sp_pair, sp_two, (gd_b_z _).mp c1]; rfl, rfl, rfl⟩
theorem c_X12_thing (hR : gd_MR h g v τ) (t w : Int32) : pj_Ct E B l Y_X12_thing 3 0 0 [.ref g, .int t, .int w] h n (pj_is (some (.int (sp_thing τ t w))) h n) := by
  obtain ⟨hM, hT, hv, hW, h1⟩ := hR
  have h7 := hW.1
  have h8 := hW.2.1
  refine pj_in rfl (ls := [some (.ref g), some (.int (t)), some (.int (w)), none, none]) rfl (Nat.le_of_ble_eq_true rfl) ?_
  refine gd_thr (pj_d p_X12_thing 0 rfl) (pj_d p_X12_thing 1 rfl) (pj_d p_X12_thing 2 rfl) rfl hM hv ?_
  refine pj_ald0 (q := 6) (pj_d p_X12_thing 3 rfl) rfl ?_
  refine pj_ild1 (q := 7) (pj_d p_X12_thing 4 rfl) rfl ?_
  refine pj_cp (pj_rV (q := 10) (c_X12_isThing hM hT hW.1 t) (pj_d p_X12_thing 5 rfl) rfl kX12_153 o_X12_isThing (by assumption) (by rfl) (by rfl) (by rfl) (by rfl) (Nat.le_of_ble_eq_true rfl) (by decide)) (by decide) (by decide) ?_
  refine pj_if_ne (t := 16) (q := 13) (pj_d p_X12_thing 6 rfl) rfl (by decide) (fun c1 => ?_) (fun c1 => ?_)
  · have e1 := (gd_b_n _).mp c1
    obtain ⟨i, hi, rfl, hc⟩ := gd_has_of hW.1 e1
    have hsp : sp_thing τ (nI i) w = if w.toInt = 0 then nI (τ (12 + 3 * i)) else if w.toInt = 1 then nI (τ (13 + 3 * i)) else if w.toInt = 2 then nI (gd_lk τ i (gd_miss τ 0)) else if w.toInt = 3 then nI (gd_with τ i) else -1000001 := by rw [sp_thing, e1, hc]; rfl
    rw [hsp]
    refine pj_iconst (q := 17) (v := nI 0) (pj_d p_X12_thing 9 rfl) rfl (by decide) ?_
    refine pj_ist3 (q := 18) (pj_d p_X12_thing 10 rfl) rfl (by first | rfl | assumption) ?_
    refine pj_iconst (q := 19) (v := nI 0) (pj_d p_X12_thing 11 rfl) rfl (by decide) ?_
    refine pj_ist4 (q := 21) (pj_d p_X12_thing 12 rfl) rfl (by first | rfl | assumption) ?_
    generalize hf : (fun j => if gd_of τ i j then τ (34 + 3 * j) else 0) = f
    have hg : gd_with τ i = gd_sm f (τ 2) := by rw [← hf]; rfl
    have loop : ∀ m p, τ 2 - p < m → p ≤ τ 2 → pj_V E B l Y_X12_thing 3 0 0 21 [some (.ref g), some (.int (nI i)), some (.int (w)), some (.int (nI (gd_sm f p))), some (.int (nI p))] [] h n 0 0 (pj_is (some (.int (if w.toInt = 0 then nI (τ (12 + 3 * i)) else if w.toInt = 1 then nI (τ (13 + 3 * i)) else if w.toInt = 2 then nI (gd_lk τ i (gd_miss τ 0)) else if w.toInt = 3 then nI (gd_with τ i) else -1000001))) h n) := by
      intro m
      induction m with
      | zero => intro p hp; omega
      | succ m ih =>
        intro p hp hle
        refine pj_ild4 (q := 23) (pj_d p_X12_thing 13 rfl) rfl ?_
        refine pj_ald0 (q := 24) (pj_d p_X12_thing 14 rfl) rfl ?_
        refine pj_gf (q := 27) (k := 5) (pj_d p_X12_thing 15 rfl) rfl kX12_19 (by assumption) (by rfl) (by rfl) ?_
        refine pj_iconst (q := 28) (v := nI 2) (pj_d p_X12_thing 16 rfl) rfl (by decide) ?_
        refine pj_ialdN (q := 29) (pj_d p_X12_thing 17 rfl) rfl (by assumption) (by rfl) (by first | assumption | omega) (Nat.le_of_ble_eq_true rfl) ?_
        refine pj_icmp_ge (t := 93) (q := 32) (pj_d p_X12_thing 18 rfl) rfl (by decide) (fun c2 => ?_) (fun c2 => ?_)
        · have he : p = τ 2 := by have := gd_ge c2 (by omega) (by omega); omega
          subst he
          refine pj_ild2 (q := 94) (pj_d p_X12_thing 58 rfl) rfl ?_
          rcases gd_sw w 3 (by omega) with ⟨j, hj, rfl, hji⟩ | ho
          · rcases (show j = 0 ∨ j = 1 ∨ j = 2 ∨ j = 3 by omega) with rfl | rfl | rfl | rfl
            · refine pj_tabIn (t := 124) (dflt := 52) (lo := 0) (hi := 3) (offs := #[30, 30, 39, 50]) (off := 30) (pj_d p_X12_thing 59 rfl) (by decide) (by decide) (by rfl) (by decide) ?_
              refine pj_ald0 (q := 125) (pj_d p_X12_thing 60 rfl) rfl ?_
              refine pj_ild1 (q := 126) (pj_d p_X12_thing 61 rfl) rfl ?_
              refine pj_iconst (q := 127) (v := nI 1) (pj_d p_X12_thing 62 rfl) rfl (by decide) ?_
              refine pj_ild2 (q := 128) (pj_d p_X12_thing 63 rfl) rfl ?_
              refine pj_iadd (q := 129) (pj_d p_X12_thing 64 rfl) rfl ?_
              rw [nI_add]
              refine pj_cp (pj_rV (q := 132) (c_X12_of hM hT (t := i) (w := 1) (by omega) (by omega)) (pj_d p_X12_thing 65 rfl) rfl kX12_158 o_X12_of (by assumption) (by rfl) (by rfl) (by rfl) (by rfl) (Nat.le_of_ble_eq_true rfl) (by decide)) (by decide) (by decide) ?_
              rw [show 11 + 3 * i + 1 = 12 + 3 * i by omega]
              refine pj_iret rfl (pj_d p_X12_thing 66 rfl) (by decide) (by decide) ?_
              exact ⟨by simp [hji], rfl, rfl⟩
            · refine pj_tabIn (t := 124) (dflt := 52) (lo := 0) (hi := 3) (offs := #[30, 30, 39, 50]) (off := 30) (pj_d p_X12_thing 59 rfl) (by decide) (by decide) (by rfl) (by decide) ?_
              refine pj_ald0 (q := 125) (pj_d p_X12_thing 60 rfl) rfl ?_
              refine pj_ild1 (q := 126) (pj_d p_X12_thing 61 rfl) rfl ?_
              refine pj_iconst (q := 127) (v := nI 1) (pj_d p_X12_thing 62 rfl) rfl (by decide) ?_
              refine pj_ild2 (q := 128) (pj_d p_X12_thing 63 rfl) rfl ?_
              refine pj_iadd (q := 129) (pj_d p_X12_thing 64 rfl) rfl ?_
              rw [nI_add]
              refine pj_cp (pj_rV (q := 132) (c_X12_of hM hT (t := i) (w := 2) (by omega) (by omega)) (pj_d p_X12_thing 65 rfl) rfl kX12_158 o_X12_of (by assumption) (by rfl) (by rfl) (by rfl) (by rfl) (Nat.le_of_ble_eq_true rfl) (by decide)) (by decide) (by decide) ?_
              rw [show 11 + 3 * i + 2 = 13 + 3 * i by omega]
              refine pj_iret rfl (pj_d p_X12_thing 66 rfl) (by decide) (by decide) ?_
              exact ⟨by simp [hji], rfl, rfl⟩
            · refine pj_tabIn (t := 133) (dflt := 52) (lo := 0) (hi := 3) (offs := #[30, 30, 39, 50]) (off := 39) (pj_d p_X12_thing 59 rfl) (by decide) (by decide) (by rfl) (by decide) ?_
              refine pj_ald0 (q := 134) (pj_d p_X12_thing 67 rfl) rfl ?_
              refine pj_ild1 (q := 135) (pj_d p_X12_thing 68 rfl) rfl ?_
              refine pj_ald0 (q := 136) (pj_d p_X12_thing 69 rfl) rfl ?_
              refine pj_iconst (q := 137) (v := nI 0) (pj_d p_X12_thing 70 rfl) rfl (by decide) ?_
              refine pj_cp (pj_rV (q := 140) (c_X12_missingOn hM hT hW (d := 0) (by omega)) (pj_d p_X12_thing 71 rfl) rfl kX12_170 o_X12_missingOn (by assumption) (by rfl) (by rfl) (by rfl) (by rfl) (Nat.le_of_ble_eq_true rfl) (by decide)) (by decide) (by decide) ?_
              refine pj_cp (pj_rV (q := 143) (c_X12_lookOf hM hT hW hi (gd_miss_lt hW 0)) (pj_d p_X12_thing 72 rfl) rfl kX12_167 o_X12_lookOf (by assumption) (by rfl) (by rfl) (by rfl) (by rfl) (Nat.le_of_ble_eq_true rfl) (by decide)) (by decide) (by decide) ?_
              refine pj_iret rfl (pj_d p_X12_thing 73 rfl) (by decide) (by decide) ?_
              exact ⟨by simp [hji], rfl, rfl⟩
            · refine pj_tabIn (t := 144) (dflt := 52) (lo := 0) (hi := 3) (offs := #[30, 30, 39, 50]) (off := 50) (pj_d p_X12_thing 59 rfl) (by decide) (by decide) (by rfl) (by decide) ?_
              refine pj_ild3 (q := 145) (pj_d p_X12_thing 74 rfl) rfl ?_
              refine pj_iret rfl (pj_d p_X12_thing 75 rfl) (by decide) (by decide) ?_
              exact ⟨by simp [hji, hg], rfl, rfl⟩
          · refine pj_tabOut (t := 146) (dflt := 52) (lo := 0) (hi := 3) (offs := #[30, 30, 39, 50]) (pj_d p_X12_thing 59 rfl) (by omega) (by decide) ?_
            refine pj_ldc (q := 148) (pj_d p_X12_thing 76 rfl) rfl kX12_67 ?_
            refine pj_iret rfl (pj_d p_X12_thing 77 rfl) (by decide) (by decide) ?_
            refine ⟨?_, rfl, rfl⟩
            rw [if_neg (by omega), if_neg (by omega), if_neg (by omega), if_neg (by omega)]
        · have hlt : p < τ 2 := gd_lt c2 (by omega)
          obtain ⟨g1, g2, -⟩ := hW.2.2.2.2.2.1 p hlt
          refine pj_ild3 (q := 33) (pj_d p_X12_thing 19 rfl) rfl ?_
          refine pj_ald0 (q := 34) (pj_d p_X12_thing 20 rfl) rfl ?_
          refine pj_gf (q := 37) (k := 5) (pj_d p_X12_thing 21 rfl) rfl kX12_19 (by assumption) (by rfl) (by rfl) ?_
          refine pj_bipush (q := 39) (v := nI 32) (pj_d p_X12_thing 22 rfl) rfl (by decide) ?_
          refine pj_iconst (q := 40) (v := nI 3) (pj_d p_X12_thing 23 rfl) rfl (by decide) ?_
          refine pj_ild4 (q := 42) (pj_d p_X12_thing 24 rfl) rfl ?_
          refine pj_imul (q := 43) (pj_d p_X12_thing 25 rfl) rfl ?_
          refine pj_iadd (q := 44) (pj_d p_X12_thing 26 rfl) rfl ?_
          rw [pk_mul, nI_add]
          refine pj_ialdN (q := 45) (pj_d p_X12_thing 27 rfl) rfl (by assumption) (by rfl) (by first | assumption | omega) (Nat.le_of_ble_eq_true rfl) ?_
          refine pj_ild1 (q := 46) (pj_d p_X12_thing 28 rfl) rfl ?_
          have go : ∀ x, gd_sm f p + x = gd_sm f (p + 1) → pj_V E B l Y_X12_thing 3 0 0 85 [some (.ref g), some (.int (nI i)), some (.int (w)), some (.int (nI (gd_sm f p))), some (.int (nI p))] [.int (nI x), .int (nI (gd_sm f p))] h n 0 0 (pj_is (some (.int (if w.toInt = 0 then nI (τ (12 + 3 * i)) else if w.toInt = 1 then nI (τ (13 + 3 * i)) else if w.toInt = 2 then nI (gd_lk τ i (gd_miss τ 0)) else if w.toInt = 3 then nI (gd_with τ i) else -1000001))) h n) := by
            intro x hx
            refine pj_iadd (q := 86) (pj_d p_X12_thing 54 rfl) rfl ?_
            rw [nI_add, hx]
            refine pj_ist3 (q := 87) (pj_d p_X12_thing 55 rfl) rfl (by first | rfl | assumption) ?_
            refine pj_iinc4 (q := 90) (v := 1) (pj_d p_X12_thing 56 rfl) rfl (by first | rfl | assumption) (by decide) ?_
            refine pj_goto (t := 21) (pj_d p_X12_thing 57 rfl) (by decide) ?_
            rw [nI_1]
            exact ih (p + 1) (by omega) (by omega)
          have yes : gd_of τ i p = true → pj_V E B l Y_X12_thing 3 0 0 67 [some (.ref g), some (.int (nI i)), some (.int (w)), some (.int (nI (gd_sm f p))), some (.int (nI p))] [.int (nI (gd_sm f p))] h n 0 0 (pj_is (some (.int (if w.toInt = 0 then nI (τ (12 + 3 * i)) else if w.toInt = 1 then nI (τ (13 + 3 * i)) else if w.toInt = 2 then nI (gd_lk τ i (gd_miss τ 0)) else if w.toInt = 3 then nI (gd_with τ i) else -1000001))) h n) := by
            intro hy
            refine pj_ald0 (q := 68) (pj_d p_X12_thing 42 rfl) rfl ?_
            refine pj_gf (q := 71) (k := 5) (pj_d p_X12_thing 43 rfl) rfl kX12_19 (by assumption) (by rfl) (by rfl) ?_
            refine pj_bipush (q := 73) (v := nI 32) (pj_d p_X12_thing 44 rfl) rfl (by decide) ?_
            refine pj_iconst (q := 74) (v := nI 3) (pj_d p_X12_thing 45 rfl) rfl (by decide) ?_
            refine pj_ild4 (q := 76) (pj_d p_X12_thing 46 rfl) rfl ?_
            refine pj_imul (q := 77) (pj_d p_X12_thing 47 rfl) rfl ?_
            refine pj_iadd (q := 78) (pj_d p_X12_thing 48 rfl) rfl ?_
            refine pj_iconst (q := 79) (v := nI 2) (pj_d p_X12_thing 49 rfl) rfl (by decide) ?_
            refine pj_iadd (q := 80) (pj_d p_X12_thing 50 rfl) rfl ?_
            rw [pk_mul, nI_add, nI_add]
            refine pj_ialdN (q := 81) (pj_d p_X12_thing 51 rfl) rfl (by assumption) (by rfl) (by first | assumption | omega) (Nat.le_of_ble_eq_true rfl) ?_
            rw [show 32 + 3 * p + 2 = 34 + 3 * p by omega]
            refine pj_goto (t := 85) (pj_d p_X12_thing 52 rfl) (by decide) ?_
            exact go _ (by rw [gd_sm, ← hf]; simp only [if_pos hy])
          refine pj_icmp_eq (t := 67) (q := 49) (pj_d p_X12_thing 29 rfl) rfl (by decide) (fun c3 => ?_) (fun c3 => ?_)
          · exact yes (gd_of_iff.mpr (Or.inl ((nI_eq (by omega) (by omega)).mp c3)))
          refine pj_ald0 (q := 50) (pj_d p_X12_thing 30 rfl) rfl ?_
          refine pj_gf (q := 53) (k := 5) (pj_d p_X12_thing 31 rfl) rfl kX12_19 (by assumption) (by rfl) (by rfl) ?_
          refine pj_bipush (q := 55) (v := nI 32) (pj_d p_X12_thing 32 rfl) rfl (by decide) ?_
          refine pj_iconst (q := 56) (v := nI 3) (pj_d p_X12_thing 33 rfl) rfl (by decide) ?_
          refine pj_ild4 (q := 58) (pj_d p_X12_thing 34 rfl) rfl ?_
          refine pj_imul (q := 59) (pj_d p_X12_thing 35 rfl) rfl ?_
          refine pj_iadd (q := 60) (pj_d p_X12_thing 36 rfl) rfl ?_
          refine pj_iconst (q := 61) (v := nI 1) (pj_d p_X12_thing 37 rfl) rfl (by decide) ?_
          refine pj_iadd (q := 62) (pj_d p_X12_thing 38 rfl) rfl ?_
          rw [pk_mul, nI_add, nI_add]
          refine pj_ialdN (q := 63) (pj_d p_X12_thing 39 rfl) rfl (by assumption) (by rfl) (by first | assumption | omega) (Nat.le_of_ble_eq_true rfl) ?_
          rw [show 32 + 3 * p + 1 = 33 + 3 * p by omega]
          refine pj_ild1 (q := 64) (pj_d p_X12_thing 40 rfl) rfl ?_
          refine pj_icmp_ne (t := 84) (q := 67) (pj_d p_X12_thing 41 rfl) rfl (by decide) (fun c4 => ?_) (fun c4 => ?_)
          · have hno : ¬ gd_of τ i p = true := fun q => by
              rcases gd_of_iff.mp q with q | q
              · exact c3 (by rw [q])
              · exact c4 (by rw [q])
            refine pj_iconst (q := 85) (v := nI 0) (pj_d p_X12_thing 53 rfl) rfl (by decide) ?_
            exact go 0 (by rw [gd_sm, ← hf]; simp only [if_neg hno])
          · exact yes (gd_of_iff.mpr (Or.inr ((nI_eq (by omega) (by omega)).mp c4)))
    exact loop (τ 2 + 1) 0 (by omega) (by omega)
  · refine pj_ldc (q := 15) (pj_d p_X12_thing 7 rfl) rfl kX12_67 ?_
    refine pj_iret rfl (pj_d p_X12_thing 8 rfl) (by decide) (by decide) ?_
    exact ⟨by rw [sp_thing, (gd_b_z _).mp c1]; rfl, rfl, rfl⟩
end
