/-! ===== the class: public calls that only read ===== -/
def gd_XR (h : pj_H) (b : Nat) (po : Option Nat) (lf st : Int32) (τ : Nat → Nat) (ac : Nat) : Prop := h b = some (.inr (10, [.ref (b + 1), .ref (b + 13), .ref (b + 15), .ref (b + 19), .ref (b + 21), va_rf po, .int lf, .int st])) ∧ gd_F h (b + 15) ∧ gd_W τ ∧ (match po with | none => τ 0 = 0 ∧ τ 1 = 0 | some k => b + 35 ≤ k ∧ τ 0 = 1 ∧ gd_T h k τ ac)
theorem gd_sc_same {h : pj_H} {f0 n : Nat} {x v : Int32} (hF : gd_F h f0) (hx : x = v) : gd_sc v h f0 n (some (.int x)) h n := by
  obtain ⟨f, hf⟩ := hF.2.1
  exact ⟨by rw [hx], rfl, f, (pj_up_id hf).symm⟩
section
variable {E : pj_E} {B : Nat} {l : Launch} {h : pj_H} {n b ac : Nat} {po : Option Nat} {lf st : Int32} {τ : Nat → Nat}
theorem c_X11_isThing (hX : gd_XR h b po lf st τ ac) (t : Int32) : pj_Ct E B l Y_X11_isThing 2 0 0 [.ref b, .int t] h n (pj_is (some (.int (gd_b (gd_has τ t)))) h n) := by
  obtain ⟨hx, hF, hW, hp⟩ := hX
  have h7 := hW.1
  refine pj_in rfl (ls := [some (.ref b), some (.int (t))]) rfl (Nat.le_of_ble_eq_true rfl) ?_
  cases po with
  | none =>
    have hn : gd_has τ t = false := by
      rw [Bool.eq_false_iff]
      intro q
      obtain ⟨j, hj, -⟩ := gd_has_of h7 q
      rw [hp.2] at hj
      exact absurd hj (Nat.not_lt_zero _)
    have hx : h b = some (.inr (10, [.ref (b + 1), .ref (b + 13), .ref (b + 15), .ref (b + 19), .ref (b + 21), .null, .int lf, .int st])) := hx
    rw [hn]
    refine pj_ald0 (q := 1) (pj_d p_X11_isThing 0 rfl) rfl ?_
    refine pj_gf (q := 4) (k := 5) (pj_d p_X11_isThing 1 rfl) rfl kX11_102 (by assumption) (by rfl) (by rfl) ?_
    refine pj_ifnullN (t := 22) (pj_d p_X11_isThing 2 rfl) (by decide) ?_
    refine pj_iconst (q := 23) (v := nI 0) (pj_d p_X11_isThing 10 rfl) rfl (by decide) ?_
    refine pj_zret rfl (by first | rfl | decide | (split <;> rfl)) (pj_d p_X11_isThing 11 rfl) (by decide) (by decide) ?_
    exact ⟨rfl, rfl, rfl⟩
  | some k =>
    obtain ⟨hk, p0, hT⟩ := hp
    have hx : h b = some (.inr (10, [.ref (b + 1), .ref (b + 13), .ref (b + 15), .ref (b + 19), .ref (b + 21), .ref k, .int lf, .int st])) := hx
    have t0 := hT.1
    refine pj_ald0 (q := 1) (pj_d p_X11_isThing 0 rfl) rfl ?_
    refine pj_gf (q := 4) (k := 5) (pj_d p_X11_isThing 1 rfl) rfl kX11_102 (by assumption) (by rfl) (by rfl) ?_
    refine pj_ifnull (q := 7) (pj_d p_X11_isThing 2 rfl) rfl ?_
    refine pj_ald0 (q := 8) (pj_d p_X11_isThing 3 rfl) rfl ?_
    refine pj_gf (q := 11) (k := 5) (pj_d p_X11_isThing 4 rfl) rfl kX11_102 (by assumption) (by rfl) (by rfl) ?_
    refine pj_ild1 (q := 12) (pj_d p_X11_isThing 5 rfl) rfl ?_
    refine pj_cp (pj_rV (q := 15) (c_X9_hasThing hT h7 t) (pj_d p_X11_isThing 6 rfl) rfl kX11_295 o_X9_hasThing (by assumption) (by rfl) (by rfl) (by rfl) (by rfl) (Nat.le_of_ble_eq_true rfl) (by decide)) (by decide) (by decide) ?_
    refine pj_if_eq (t := 22) (q := 18) (pj_d p_X11_isThing 7 rfl) rfl (by decide) (fun c1 => ?_) (fun c1 => ?_)
    · rw [(gd_b_z _).mp c1]
      refine pj_iconst (q := 23) (v := nI 0) (pj_d p_X11_isThing 10 rfl) rfl (by decide) ?_
      refine pj_zret rfl (by first | rfl | decide | (split <;> rfl)) (pj_d p_X11_isThing 11 rfl) (by decide) (by decide) ?_
      exact ⟨rfl, rfl, rfl⟩
    · rw [(gd_b_n _).mp c1]
      refine pj_iconst (q := 19) (v := nI 1) (pj_d p_X11_isThing 8 rfl) rfl (by decide) ?_
      refine pj_goto (t := 23) (pj_d p_X11_isThing 9 rfl) (by decide) ?_
      refine pj_zret rfl (by first | rfl | decide | (split <;> rfl)) (pj_d p_X11_isThing 11 rfl) (by decide) (by decide) ?_
      exact ⟨rfl, rfl, rfl⟩
theorem c_X11_areTwo (hX : gd_XR h b po lf st τ ac) (x y : Int32) : pj_Ct E B l Y_X11_areTwo 3 0 0 [.ref b, .int x, .int y] h n (pj_is (some (.int (gd_b (sp_two τ x y)))) h n) := by
  have hx := hX.1
  refine pj_in rfl (ls := [some (.ref b), some (.int (x)), some (.int (y))]) rfl (Nat.le_of_ble_eq_true rfl) ?_
  have no : sp_two τ x y = false → pj_V E B l Y_X11_areTwo 3 0 0 25 [some (.ref b), some (.int (x)), some (.int (y))] [] h n 0 0 (pj_is (some (.int (gd_b (sp_two τ x y)))) h n) := by
    intro hn
    rw [hn]
    refine pj_iconst (q := 26) (v := nI 0) (pj_d p_X11_areTwo 13 rfl) rfl (by decide) ?_
    refine pj_zret rfl (by first | rfl | decide | (split <;> rfl)) (pj_d p_X11_areTwo 14 rfl) (by decide) (by decide) ?_
    exact ⟨rfl, rfl, rfl⟩
  refine pj_ald0 (q := 1) (pj_d p_X11_areTwo 0 rfl) rfl ?_
  refine pj_ild1 (q := 2) (pj_d p_X11_areTwo 1 rfl) rfl ?_
  refine pj_cp (pj_rV (q := 5) (c_X11_isThing hX x) (pj_d p_X11_areTwo 2 rfl) rfl kX11_123 o_X11_isThing (by assumption) (by rfl) (by rfl) (by rfl) (by rfl) (Nat.le_of_ble_eq_true rfl) (by decide)) (by decide) (by decide) ?_
  refine pj_if_eq (t := 25) (q := 8) (pj_d p_X11_areTwo 3 rfl) rfl (by decide) (fun c1 => ?_) (fun c1 => ?_)
  · exact no (by rw [sp_two, (gd_b_z _).mp c1]; rfl)
  refine pj_ald0 (q := 9) (pj_d p_X11_areTwo 4 rfl) rfl ?_
  refine pj_ild2 (q := 10) (pj_d p_X11_areTwo 5 rfl) rfl ?_
  refine pj_cp (pj_rV (q := 13) (c_X11_isThing hX y) (pj_d p_X11_areTwo 6 rfl) rfl kX11_123 o_X11_isThing (by assumption) (by rfl) (by rfl) (by rfl) (by rfl) (Nat.le_of_ble_eq_true rfl) (by decide)) (by decide) (by decide) ?_
  refine pj_if_eq (t := 25) (q := 16) (pj_d p_X11_areTwo 7 rfl) rfl (by decide) (fun c2 => ?_) (fun c2 => ?_)
  · exact no (by rw [sp_two, (gd_b_z _).mp c2]; simp)
  refine pj_ild1 (q := 17) (pj_d p_X11_areTwo 8 rfl) rfl ?_
  refine pj_ild2 (q := 18) (pj_d p_X11_areTwo 9 rfl) rfl ?_
  refine pj_icmp_eq (t := 25) (q := 21) (pj_d p_X11_areTwo 10 rfl) rfl (by decide) (fun c3 => ?_) (fun c3 => ?_)
  · exact no (by rw [sp_two, decide_eq_true c3]; simp)
  · rw [show sp_two τ x y = true by rw [sp_two, (gd_b_n _).mp c1, (gd_b_n _).mp c2, decide_eq_false c3]; rfl]
    refine pj_iconst (q := 22) (v := nI 1) (pj_d p_X11_areTwo 11 rfl) rfl (by decide) ?_
    refine pj_goto (t := 26) (pj_d p_X11_areTwo 12 rfl) (by decide) ?_
    refine pj_zret rfl (by first | rfl | decide | (split <;> rfl)) (pj_d p_X11_areTwo 14 rfl) (by decide) (by decide) ?_
    exact ⟨rfl, rfl, rfl⟩
theorem gd_two_parts {τ : Nat → Nat} {x y : Int32} (h7 : τ 1 ≤ 7) (e : sp_two τ x y = true) : ∃ i j, i < τ 1 ∧ j < τ 1 ∧ i ≠ j ∧ x = nI i ∧ y = nI j ∧ x.toNatClampNeg = i ∧ y.toNatClampNeg = j := by
  have e1 := e
  rw [sp_two, Bool.and_eq_true, Bool.and_eq_true] at e1
  obtain ⟨i, hi, rfl, hc⟩ := gd_has_of h7 e1.1.1
  obtain ⟨j, hj, rfl, hd⟩ := gd_has_of h7 e1.1.2
  exact ⟨i, j, hi, hj, fun q => by rw [q] at e1; simp at e1, rfl, rfl, hc, hd⟩
theorem c_X11_missing (hX : gd_XR h b po lf st τ ac) (w : Int32) : pj_Ct E B l Y_X11_missing 2 0 0 [.ref b, .int w] h n (pj_is (some (.int (sp_missing τ w))) h n) := by
  obtain ⟨hx, hF, hW, hp⟩ := hX
  have h7 := hW.1
  have F0 := hF.1
  refine pj_in rfl (ls := [some (.ref b), some (.int (w))]) rfl (Nat.le_of_ble_eq_true rfl) ?_
  cases po with
  | none =>
    obtain ⟨p0, p1⟩ := hp
    have hx : h b = some (.inr (10, [.ref (b + 1), .ref (b + 13), .ref (b + 15), .ref (b + 19), .ref (b + 21), .null, .int lf, .int st])) := hx
    refine pj_ald0 (q := 1) (pj_d p_X11_missing 0 rfl) rfl ?_
    refine pj_gf (q := 4) (k := 5) (pj_d p_X11_missing 1 rfl) rfl kX11_102 (by assumption) (by rfl) (by rfl) ?_
    refine pj_ifnonnullN (q := 7) (pj_d p_X11_missing 2 rfl) rfl ?_
    refine pj_ldc (q := 9) (pj_d p_X11_missing 3 rfl) rfl kX11_112 ?_
    refine pj_iret rfl (pj_d p_X11_missing 4 rfl) (by decide) (by decide) ?_
    exact ⟨by simp [sp_missing, p0], rfl, rfl⟩
  | some k =>
    obtain ⟨hk, p0, hT⟩ := hp
    have hx : h b = some (.inr (10, [.ref (b + 1), .ref (b + 13), .ref (b + 15), .ref (b + 19), .ref (b + 21), .ref k, .int lf, .int st])) := hx
    have t0 := hT.1
    refine pj_ald0 (q := 1) (pj_d p_X11_missing 0 rfl) rfl ?_
    refine pj_gf (q := 4) (k := 5) (pj_d p_X11_missing 1 rfl) rfl kX11_102 (by assumption) (by rfl) (by rfl) ?_
    refine pj_ifnonnull (t := 10) (pj_d p_X11_missing 2 rfl) (by decide) ?_
    refine pj_ild1 (q := 11) (pj_d p_X11_missing 5 rfl) rfl ?_
    refine pj_cp (pj_rS (q := 14) (c_X11_isWeekday w) (pj_d p_X11_missing 6 rfl) rfl kX11_143 o_X11_isWeekday (by rfl) (by rfl) (Nat.le_of_ble_eq_true rfl) (by decide)) (by decide) (by decide) ?_
    refine pj_if_eq (t := 28) (q := 17) (pj_d p_X11_missing 7 rfl) rfl (by decide) (fun c1 => ?_) (fun c1 => ?_)
    · refine pj_ldc (q := 30) (pj_d p_X11_missing 13 rfl) rfl kX11_47 ?_
      refine pj_iret rfl (pj_d p_X11_missing 14 rfl) (by decide) (by decide) ?_
      exact ⟨by simp [sp_missing, p0, (gd_b_z _).mp c1], rfl, rfl⟩
    · have e := (gd_b_n _).mp c1
      obtain ⟨j, hj, rfl, hc⟩ := gd_rng_of (hi := 6) e
      refine pj_ald0 (q := 18) (pj_d p_X11_missing 8 rfl) rfl ?_
      refine pj_gf (q := 21) (k := 5) (pj_d p_X11_missing 9 rfl) rfl kX11_102 (by assumption) (by rfl) (by rfl) ?_
      refine pj_ild1 (q := 22) (pj_d p_X11_missing 10 rfl) rfl ?_
      refine pj_cp (pj_rV (q := 25) (c_X9_colourOn hT (j := j) (by omega)) (pj_d p_X11_missing 11 rfl) rfl kX11_164 o_X9_colourOn (by assumption) (by rfl) (by rfl) (by rfl) (by rfl) (Nat.le_of_ble_eq_true rfl) (by decide)) (by decide) (by decide) ?_
      refine pj_goto (t := 30) (pj_d p_X11_missing 12 rfl) (by decide) ?_
      refine pj_iret rfl (pj_d p_X11_missing 14 rfl) (by decide) (by decide) ?_
      exact ⟨by simp [sp_missing, p0, e, hc], rfl, rfl⟩
theorem c_X11_look (hX : gd_XR h b po lf st τ ac) (t s : Int32) : pj_Ct E B l Y_X11_look 4 0 0 [.ref b, .int t, .int s] h n (pj_is (some (.int (sp_look τ t s))) h n) := by
  obtain ⟨hx, hF, hW, hp⟩ := hX
  have h7 := hW.1
  have F0 := hF.1
  refine pj_in rfl (ls := [some (.ref b), some (.int (t)), some (.int (s))]) rfl (Nat.le_of_ble_eq_true rfl) ?_
  have bad : (gd_has τ t && gd_rng s 0 31) = false → pj_V E B l Y_X11_look 4 0 0 15 [some (.ref b), some (.int (t)), some (.int (s))] [] h n 0 0 (pj_is (some (.int (sp_look τ t s))) h n) := by
    intro hx
    refine pj_ldc (q := 17) (pj_d p_X11_look 7 rfl) rfl kX11_47 ?_
    refine pj_iret rfl (pj_d p_X11_look 8 rfl) (by decide) (by decide) ?_
    exact ⟨by rw [sp_look, hx]; rfl, rfl, rfl⟩
  refine pj_ald0 (q := 1) (pj_d p_X11_look 0 rfl) rfl ?_
  refine pj_ild1 (q := 2) (pj_d p_X11_look 1 rfl) rfl ?_
  refine pj_cp (pj_rV (q := 5) (c_X11_isThing ⟨hx, hF, hW, hp⟩ t) (pj_d p_X11_look 2 rfl) rfl kX11_123 o_X11_isThing (by assumption) (by rfl) (by rfl) (by rfl) (by rfl) (Nat.le_of_ble_eq_true rfl) (by decide)) (by decide) (by decide) ?_
  refine pj_if_eq (t := 15) (q := 8) (pj_d p_X11_look 3 rfl) rfl (by decide) (fun c1 => ?_) (fun c1 => ?_)
  · exact bad (by rw [(gd_b_z _).mp c1]; rfl)
  refine pj_ild2 (q := 9) (pj_d p_X11_look 4 rfl) rfl ?_
  refine pj_cp (pj_rS (q := 12) (c_X11_isSet s) (pj_d p_X11_look 5 rfl) rfl kX11_126 o_X11_isSet (by rfl) (by rfl) (Nat.le_of_ble_eq_true rfl) (by decide)) (by decide) (by decide) ?_
  refine pj_if_ne (t := 18) (q := 15) (pj_d p_X11_look 6 rfl) rfl (by decide) (fun c2 => ?_) (fun c2 => ?_)
  · have e1 := (gd_b_n _).mp c1
    have e2 := (gd_b_n _).mp c2
    obtain ⟨i, hi, rfl, hc⟩ := gd_has_of h7 e1
    obtain ⟨j, hj, rfl, hd⟩ := gd_rng_of (hi := 31) e2
    cases po with
    | none =>
      obtain ⟨p0, p1⟩ := hp
      exact absurd hi (by rw [p1]; exact Nat.not_lt_zero _)
    | some k =>
      obtain ⟨hk, p0, hT⟩ := hp
      have hx : h b = some (.inr (10, [.ref (b + 1), .ref (b + 13), .ref (b + 15), .ref (b + 19), .ref (b + 21), .ref k, .int lf, .int st])) := hx
      have t0 := hT.1
      obtain ⟨ki, -⟩ := hW.2.2.2.2.1 i hi
      refine pj_ald0 (q := 19) (pj_d p_X11_look 9 rfl) rfl ?_
      refine pj_gf (q := 22) (k := 5) (pj_d p_X11_look 10 rfl) rfl kX11_102 (by assumption) (by rfl) (by rfl) ?_
      refine pj_ild1 (q := 23) (pj_d p_X11_look 11 rfl) rfl ?_
      refine pj_cp (pj_rV (q := 26) (c_X9_thingAt hT h7 hi) (pj_d p_X11_look 12 rfl) rfl kX11_129 o_X9_thingAt (by assumption) (by rfl) (by rfl) (by rfl) (by rfl) (Nat.le_of_ble_eq_true rfl) (by decide)) (by decide) (by decide) ?_
      refine pj_ild2 (q := 27) (pj_d p_X11_look 13 rfl) rfl ?_
      refine pj_cp (vX11_158 (q := 30) rfl (hT.2.2.2.1 i hi) ki (c_lw hT hW (st := j) hi (by omega)) (pj_d p_X11_look 14 rfl) rfl rfl rfl (Nat.le_of_ble_eq_true rfl) (by decide)) (by decide) (by decide) ?_
      refine pj_iret rfl (pj_d p_X11_look 15 rfl) (by decide) (by decide) ?_
      exact ⟨by rw [sp_look, e1, e2, hc, hd]; rfl, rfl, rfl⟩
  · exact bad (by rw [(gd_b_z _).mp c2]; simp)
theorem c_X11_alike (hX : gd_XR h b po lf st τ ac) (x y d : Int32) : pj_Ct E B l Y_X11_alike 5 0 0 [.ref b, .int x, .int y, .int d] h n (pj_is (some (.int (sp_alike τ x y d))) h n) := by
  obtain ⟨hx, hF, hW, hp⟩ := hX
  have h7 := hW.1
  have F0 := hF.1
  refine pj_in rfl (ls := [some (.ref b), some (.int (x)), some (.int (y)), some (.int (d))]) rfl (Nat.le_of_ble_eq_true rfl) ?_
  have bad : (sp_two τ x y && gd_rng d 0 100) = false → pj_V E B l Y_X11_alike 5 0 0 16 [some (.ref b), some (.int (x)), some (.int (y)), some (.int (d))] [] h n 0 0 (pj_is (some (.int (sp_alike τ x y d))) h n) := by
    intro hx
    refine pj_ldc (q := 18) (pj_d p_X11_alike 8 rfl) rfl kX11_47 ?_
    refine pj_iret rfl (pj_d p_X11_alike 9 rfl) (by decide) (by decide) ?_
    exact ⟨by rw [sp_alike, hx]; rfl, rfl, rfl⟩
  refine pj_ald0 (q := 1) (pj_d p_X11_alike 0 rfl) rfl ?_
  refine pj_ild1 (q := 2) (pj_d p_X11_alike 1 rfl) rfl ?_
  refine pj_ild2 (q := 3) (pj_d p_X11_alike 2 rfl) rfl ?_
  refine pj_cp (pj_rV (q := 6) (c_X11_areTwo ⟨hx, hF, hW, hp⟩ x y) (pj_d p_X11_alike 3 rfl) rfl kX11_167 o_X11_areTwo (by assumption) (by rfl) (by rfl) (by rfl) (by rfl) (Nat.le_of_ble_eq_true rfl) (by decide)) (by decide) (by decide) ?_
  refine pj_if_eq (t := 16) (q := 9) (pj_d p_X11_alike 4 rfl) rfl (by decide) (fun c1 => ?_) (fun c1 => ?_)
  · exact bad (by rw [(gd_b_z _).mp c1]; rfl)
  refine pj_ild3 (q := 10) (pj_d p_X11_alike 5 rfl) rfl ?_
  refine pj_cp (pj_rS (q := 13) (c_X11_isAhead d) (pj_d p_X11_alike 6 rfl) rfl kX11_174 o_X11_isAhead (by rfl) (by rfl) (Nat.le_of_ble_eq_true rfl) (by decide)) (by decide) (by decide) ?_
  refine pj_if_ne (t := 19) (q := 16) (pj_d p_X11_alike 7 rfl) rfl (by decide) (fun c2 => ?_) (fun c2 => ?_)
  · have e1 := (gd_b_n _).mp c1
    have e2 := (gd_b_n _).mp c2
    obtain ⟨i, j, hi, hj, hij, rfl, rfl, hc, hd⟩ := gd_two_parts h7 e1
    obtain ⟨q, hq, rfl, hf⟩ := gd_rng_of (hi := 100) e2
    have hsp : sp_alike τ (nI i) (nI j) (nI q) = gd_b (decide (gd_lk τ i (gd_miss τ q) = gd_lk τ j (gd_miss τ q))) := by rw [sp_alike, e1, e2, hc, hd, hf]; rfl
    rw [hsp]
    cases po with
    | none =>
      obtain ⟨p0, p1⟩ := hp
      exact absurd hi (by rw [p1]; exact Nat.not_lt_zero _)
    | some k =>
      obtain ⟨hk, p0, hT⟩ := hp
      have hx : h b = some (.inr (10, [.ref (b + 1), .ref (b + 13), .ref (b + 15), .ref (b + 19), .ref (b + 21), .ref k, .int lf, .int st])) := hx
      have t0 := hT.1
      refine pj_ald0 (q := 20) (pj_d p_X11_alike 10 rfl) rfl ?_
      refine pj_gf (q := 23) (k := 5) (pj_d p_X11_alike 11 rfl) rfl kX11_102 (by assumption) (by rfl) (by rfl) ?_
      refine pj_ild1 (q := 24) (pj_d p_X11_alike 12 rfl) rfl ?_
      refine pj_ild2 (q := 25) (pj_d p_X11_alike 13 rfl) rfl ?_
      refine pj_ald0 (q := 26) (pj_d p_X11_alike 14 rfl) rfl ?_
      refine pj_gf (q := 29) (k := 5) (pj_d p_X11_alike 15 rfl) rfl kX11_102 (by assumption) (by rfl) (by rfl) ?_
      refine pj_ild3 (q := 30) (pj_d p_X11_alike 16 rfl) rfl ?_
      refine pj_cp (pj_rV (q := 33) (c_X9_missingIn hT hW (d := q) (by omega)) (pj_d p_X11_alike 17 rfl) rfl kX11_155 o_X9_missingIn (by assumption) (by rfl) (by rfl) (by rfl) (by rfl) (Nat.le_of_ble_eq_true rfl) (by decide)) (by decide) (by decide) ?_
      refine pj_cp (pj_rV (q := 36) (c_X9_areAlike hT hW hi hj (gd_miss_lt hW q)) (pj_d p_X11_alike 18 rfl) rfl kX11_177 o_X9_areAlike (by assumption) (by rfl) (by rfl) (by rfl) (by rfl) (Nat.le_of_ble_eq_true rfl) (by decide)) (by decide) (by decide) ?_
      refine pj_if_eq (t := 43) (q := 39) (pj_d p_X11_alike 19 rfl) rfl (by decide) (fun c3 => ?_) (fun c3 => ?_)
      · rw [(gd_b_z _).mp c3]
        refine pj_iconst (q := 44) (v := nI 0) (pj_d p_X11_alike 22 rfl) rfl (by decide) ?_
        refine pj_iret rfl (pj_d p_X11_alike 23 rfl) (by decide) (by decide) ?_
        exact ⟨rfl, rfl, rfl⟩
      · rw [(gd_b_n _).mp c3]
        refine pj_iconst (q := 40) (v := nI 1) (pj_d p_X11_alike 20 rfl) rfl (by decide) ?_
        refine pj_goto (t := 44) (pj_d p_X11_alike 21 rfl) (by decide) ?_
        refine pj_iret rfl (pj_d p_X11_alike 23 rfl) (by decide) (by decide) ?_
        exact ⟨rfl, rfl, rfl⟩
  · exact bad (by rw [(gd_b_z _).mp c2]; simp)
theorem c_X11_like (hX : gd_XR h b po lf st τ ac) (t d : Int32) : pj_Ct E B l Y_X11_like 6 0 0 [.ref b, .int t, .int d] h n (gd_sc (sp_like τ t d) h (b + 15) n) := by
  obtain ⟨hx, hF, hW, hp⟩ := hX
  have h7 := hW.1
  have F0 := hF.1
  refine pj_in rfl (ls := [some (.ref b), some (.int (t)), some (.int (d))]) rfl (Nat.le_of_ble_eq_true rfl) ?_
  have bad : (gd_has τ t && gd_rng d 0 100) = false → pj_V E B l Y_X11_like 6 0 0 15 [some (.ref b), some (.int (t)), some (.int (d))] [] h n 0 0 (gd_sc (sp_like τ t d) h (b + 15) n) := by
    intro hx
    refine pj_ldc (q := 17) (pj_d p_X11_like 7 rfl) rfl kX11_47 ?_
    refine pj_iret rfl (pj_d p_X11_like 8 rfl) (by decide) (by decide) ?_
    exact gd_sc_same hF (by rw [sp_like, hx]; rfl)
  refine pj_ald0 (q := 1) (pj_d p_X11_like 0 rfl) rfl ?_
  refine pj_ild1 (q := 2) (pj_d p_X11_like 1 rfl) rfl ?_
  refine pj_cp (pj_rV (q := 5) (c_X11_isThing ⟨hx, hF, hW, hp⟩ t) (pj_d p_X11_like 2 rfl) rfl kX11_123 o_X11_isThing (by assumption) (by rfl) (by rfl) (by rfl) (by rfl) (Nat.le_of_ble_eq_true rfl) (by decide)) (by decide) (by decide) ?_
  refine pj_if_eq (t := 15) (q := 8) (pj_d p_X11_like 3 rfl) rfl (by decide) (fun c1 => ?_) (fun c1 => ?_)
  · exact bad (by rw [(gd_b_z _).mp c1]; rfl)
  refine pj_ild2 (q := 9) (pj_d p_X11_like 4 rfl) rfl ?_
  refine pj_cp (pj_rS (q := 12) (c_X11_isAhead d) (pj_d p_X11_like 5 rfl) rfl kX11_174 o_X11_isAhead (by rfl) (by rfl) (Nat.le_of_ble_eq_true rfl) (by decide)) (by decide) (by decide) ?_
  refine pj_if_ne (t := 18) (q := 15) (pj_d p_X11_like 6 rfl) rfl (by decide) (fun c2 => ?_) (fun c2 => ?_)
  · have e1 := (gd_b_n _).mp c1
    have e2 := (gd_b_n _).mp c2
    obtain ⟨i, hi, rfl, hc⟩ := gd_has_of h7 e1
    obtain ⟨j, hj, rfl, hd⟩ := gd_rng_of (hi := 100) e2
    cases po with
    | none =>
      obtain ⟨p0, p1⟩ := hp
      exact absurd hi (by rw [p1]; exact Nat.not_lt_zero _)
    | some k =>
      obtain ⟨hk, p0, hT⟩ := hp
      have hx : h b = some (.inr (10, [.ref (b + 1), .ref (b + 13), .ref (b + 15), .ref (b + 19), .ref (b + 21), .ref k, .int lf, .int st])) := hx
      have t0 := hT.1
      refine pj_ald0 (q := 19) (pj_d p_X11_like 9 rfl) rfl ?_
      refine pj_gf (q := 22) (k := 2) (pj_d p_X11_like 10 rfl) rfl kX11_26 (by assumption) (by rfl) (by rfl) ?_
      refine pj_ald0 (q := 23) (pj_d p_X11_like 11 rfl) rfl ?_
      refine pj_gf (q := 26) (k := 5) (pj_d p_X11_like 12 rfl) rfl kX11_102 (by assumption) (by rfl) (by rfl) ?_
      refine pj_ild1 (q := 27) (pj_d p_X11_like 13 rfl) rfl ?_
      refine pj_ild2 (q := 28) (pj_d p_X11_like 14 rfl) rfl ?_
      refine pj_cv (pj_rV (q := 31) (c_X3_alikeWith hF hT hW (by omega) hi (d := j) (by omega)) (pj_d p_X11_like 15 rfl) rfl kX11_181 o_X3_alikeWith (by assumption) (by rfl) (by rfl) (by rfl) (by rfl) (Nat.le_of_ble_eq_true rfl) (by decide)) (by decide) (by decide) ?_
      rintro r h' n' ⟨rfl, rfl, f, rfl⟩
      refine pj_iret rfl (pj_d p_X11_like 16 rfl) (by decide) (by decide) ?_
      exact ⟨by rw [sp_like, e1, e2, hc, hd]; rfl, rfl, f, rfl⟩
  · exact bad (by rw [(gd_b_z _).mp c2]; simp)
theorem c_X11_looks (hX : gd_XR h b po lf st τ ac) (d : Int32) : pj_Ct E B l Y_X11_looks 7 0 0 [.ref b, .int d] h n (gd_sc (sp_looks τ d) h (b + 15) n) := by
  obtain ⟨hx, hF, hW, hp⟩ := hX
  have h7 := hW.1
  have F0 := hF.1
  refine pj_in rfl (ls := [some (.ref b), some (.int (d))]) rfl (Nat.le_of_ble_eq_true rfl) ?_
  cases po with
  | none =>
    obtain ⟨p0, p1⟩ := hp
    have hx : h b = some (.inr (10, [.ref (b + 1), .ref (b + 13), .ref (b + 15), .ref (b + 19), .ref (b + 21), .null, .int lf, .int st])) := hx
    refine pj_ald0 (q := 1) (pj_d p_X11_looks 0 rfl) rfl ?_
    refine pj_gf (q := 4) (k := 5) (pj_d p_X11_looks 1 rfl) rfl kX11_102 (by assumption) (by rfl) (by rfl) ?_
    refine pj_ifnonnullN (q := 7) (pj_d p_X11_looks 2 rfl) rfl ?_
    refine pj_ldc (q := 9) (pj_d p_X11_looks 3 rfl) rfl kX11_112 ?_
    refine pj_iret rfl (pj_d p_X11_looks 4 rfl) (by decide) (by decide) ?_
    exact gd_sc_same hF (by simp [sp_looks, p0])
  | some k =>
    obtain ⟨hk, p0, hT⟩ := hp
    have hx : h b = some (.inr (10, [.ref (b + 1), .ref (b + 13), .ref (b + 15), .ref (b + 19), .ref (b + 21), .ref k, .int lf, .int st])) := hx
    have t0 := hT.1
    refine pj_ald0 (q := 1) (pj_d p_X11_looks 0 rfl) rfl ?_
    refine pj_gf (q := 4) (k := 5) (pj_d p_X11_looks 1 rfl) rfl kX11_102 (by assumption) (by rfl) (by rfl) ?_
    refine pj_ifnonnull (t := 10) (pj_d p_X11_looks 2 rfl) (by decide) ?_
    refine pj_ild1 (q := 11) (pj_d p_X11_looks 5 rfl) rfl ?_
    refine pj_cp (pj_rS (q := 14) (c_X11_isAhead d) (pj_d p_X11_looks 6 rfl) rfl kX11_174 o_X11_isAhead (by rfl) (by rfl) (Nat.le_of_ble_eq_true rfl) (by decide)) (by decide) (by decide) ?_
    refine pj_if_eq (t := 32) (q := 17) (pj_d p_X11_looks 7 rfl) rfl (by decide) (fun c1 => ?_) (fun c1 => ?_)
    · refine pj_ldc (q := 34) (pj_d p_X11_looks 15 rfl) rfl kX11_47 ?_
      refine pj_iret rfl (pj_d p_X11_looks 16 rfl) (by decide) (by decide) ?_
      exact gd_sc_same hF (by simp [sp_looks, p0, (gd_b_z _).mp c1])
    · have e := (gd_b_n _).mp c1
      obtain ⟨j, hj, rfl, hc⟩ := gd_rng_of (hi := 100) e
      refine pj_ald0 (q := 18) (pj_d p_X11_looks 8 rfl) rfl ?_
      refine pj_gf (q := 21) (k := 2) (pj_d p_X11_looks 9 rfl) rfl kX11_26 (by assumption) (by rfl) (by rfl) ?_
      refine pj_ald0 (q := 22) (pj_d p_X11_looks 10 rfl) rfl ?_
      refine pj_gf (q := 25) (k := 5) (pj_d p_X11_looks 11 rfl) rfl kX11_102 (by assumption) (by rfl) (by rfl) ?_
      refine pj_ild1 (q := 26) (pj_d p_X11_looks 12 rfl) rfl ?_
      refine pj_cv (pj_rV (q := 29) (c_X3_unlikeLooks hF hT hW (by omega) (d := j) (by omega)) (pj_d p_X11_looks 13 rfl) rfl kX11_185 o_X3_unlikeLooks (by assumption) (by rfl) (by rfl) (by rfl) (by rfl) (Nat.le_of_ble_eq_true rfl) (by decide)) (by decide) (by decide) ?_
      rintro r h' n' ⟨rfl, rfl, f, rfl⟩
      refine pj_goto (t := 34) (pj_d p_X11_looks 14 rfl) (by decide) ?_
      refine pj_iret rfl (pj_d p_X11_looks 16 rfl) (by decide) (by decide) ?_
      exact ⟨by simp [sp_looks, p0, e, hc], rfl, f, rfl⟩
theorem c_X11_harm (hX : gd_XR h b po lf st τ ac) (d : Int32) : pj_Ct E B l Y_X11_harm 6 0 0 [.ref b, .int d] h n (pj_is (some (.int (sp_harm τ d))) h n) := by
  obtain ⟨hx, hF, hW, hp⟩ := hX
  have h7 := hW.1
  have F0 := hF.1
  refine pj_in rfl (ls := [some (.ref b), some (.int (d))]) rfl (Nat.le_of_ble_eq_true rfl) ?_
  cases po with
  | none =>
    obtain ⟨p0, p1⟩ := hp
    have hx : h b = some (.inr (10, [.ref (b + 1), .ref (b + 13), .ref (b + 15), .ref (b + 19), .ref (b + 21), .null, .int lf, .int st])) := hx
    refine pj_ald0 (q := 1) (pj_d p_X11_harm 0 rfl) rfl ?_
    refine pj_gf (q := 4) (k := 5) (pj_d p_X11_harm 1 rfl) rfl kX11_102 (by assumption) (by rfl) (by rfl) ?_
    refine pj_ifnonnullN (q := 7) (pj_d p_X11_harm 2 rfl) rfl ?_
    refine pj_ldc (q := 9) (pj_d p_X11_harm 3 rfl) rfl kX11_112 ?_
    refine pj_iret rfl (pj_d p_X11_harm 4 rfl) (by decide) (by decide) ?_
    exact ⟨by simp [sp_harm, p0], rfl, rfl⟩
  | some k =>
    obtain ⟨hk, p0, hT⟩ := hp
    have hx : h b = some (.inr (10, [.ref (b + 1), .ref (b + 13), .ref (b + 15), .ref (b + 19), .ref (b + 21), .ref k, .int lf, .int st])) := hx
    have t0 := hT.1
    refine pj_ald0 (q := 1) (pj_d p_X11_harm 0 rfl) rfl ?_
    refine pj_gf (q := 4) (k := 5) (pj_d p_X11_harm 1 rfl) rfl kX11_102 (by assumption) (by rfl) (by rfl) ?_
    refine pj_ifnonnull (t := 10) (pj_d p_X11_harm 2 rfl) (by decide) ?_
    refine pj_ild1 (q := 11) (pj_d p_X11_harm 5 rfl) rfl ?_
    refine pj_cp (pj_rS (q := 14) (c_X11_isAhead d) (pj_d p_X11_harm 6 rfl) rfl kX11_174 o_X11_isAhead (by rfl) (by rfl) (Nat.le_of_ble_eq_true rfl) (by decide)) (by decide) (by decide) ?_
    refine pj_if_eq (t := 35) (q := 17) (pj_d p_X11_harm 7 rfl) rfl (by decide) (fun c1 => ?_) (fun c1 => ?_)
    · refine pj_ldc (q := 37) (pj_d p_X11_harm 16 rfl) rfl kX11_47 ?_
      refine pj_iret rfl (pj_d p_X11_harm 17 rfl) (by decide) (by decide) ?_
      exact ⟨by simp [sp_harm, p0, (gd_b_z _).mp c1], rfl, rfl⟩
    · have e := (gd_b_n _).mp c1
      obtain ⟨j, hj, rfl, hc⟩ := gd_rng_of (hi := 100) e
      refine pj_ald0 (q := 18) (pj_d p_X11_harm 8 rfl) rfl ?_
      refine pj_gf (q := 21) (k := 5) (pj_d p_X11_harm 9 rfl) rfl kX11_102 (by assumption) (by rfl) (by rfl) ?_
      refine pj_ald0 (q := 22) (pj_d p_X11_harm 10 rfl) rfl ?_
      refine pj_gf (q := 25) (k := 5) (pj_d p_X11_harm 11 rfl) rfl kX11_102 (by assumption) (by rfl) (by rfl) ?_
      refine pj_ild1 (q := 26) (pj_d p_X11_harm 12 rfl) rfl ?_
      refine pj_cp (pj_rV (q := 29) (c_X9_missingIn hT hW (d := j) (by omega)) (pj_d p_X11_harm 13 rfl) rfl kX11_155 o_X9_missingIn (by assumption) (by rfl) (by rfl) (by rfl) (by rfl) (Nat.le_of_ble_eq_true rfl) (by decide)) (by decide) (by decide) ?_
      refine pj_cp (pj_rV (q := 32) (c_X9_harmWithout hT hW (gd_miss_lt hW j)) (pj_d p_X11_harm 14 rfl) rfl kX11_189 o_X9_harmWithout (by assumption) (by rfl) (by rfl) (by rfl) (by rfl) (Nat.le_of_ble_eq_true rfl) (by decide)) (by decide) (by decide) ?_
      refine pj_goto (t := 37) (pj_d p_X11_harm 15 rfl) (by decide) ?_
      refine pj_iret rfl (pj_d p_X11_harm 17 rfl) (by decide) (by decide) ?_
      exact ⟨by simp [sp_harm, p0, e, hc], rfl, rfl⟩
theorem c_X11_harms (hX : gd_XR h b po lf st τ ac) (d : Int32) : pj_Ct E B l Y_X11_harms 7 0 0 [.ref b, .int d] h n (pj_is (some (.int (sp_harms τ d))) h n) := by
  obtain ⟨hx, hF, hW, hp⟩ := hX
  have h7 := hW.1
  have F0 := hF.1
  refine pj_in rfl (ls := [some (.ref b), some (.int (d))]) rfl (Nat.le_of_ble_eq_true rfl) ?_
  cases po with
  | none =>
    obtain ⟨p0, p1⟩ := hp
    have hx : h b = some (.inr (10, [.ref (b + 1), .ref (b + 13), .ref (b + 15), .ref (b + 19), .ref (b + 21), .null, .int lf, .int st])) := hx
    refine pj_ald0 (q := 1) (pj_d p_X11_harms 0 rfl) rfl ?_
    refine pj_gf (q := 4) (k := 5) (pj_d p_X11_harms 1 rfl) rfl kX11_102 (by assumption) (by rfl) (by rfl) ?_
    refine pj_ifnonnullN (q := 7) (pj_d p_X11_harms 2 rfl) rfl ?_
    refine pj_ldc (q := 9) (pj_d p_X11_harms 3 rfl) rfl kX11_112 ?_
    refine pj_iret rfl (pj_d p_X11_harms 4 rfl) (by decide) (by decide) ?_
    exact ⟨by simp [sp_harms, p0], rfl, rfl⟩
  | some k =>
    obtain ⟨hk, p0, hT⟩ := hp
    have hx : h b = some (.inr (10, [.ref (b + 1), .ref (b + 13), .ref (b + 15), .ref (b + 19), .ref (b + 21), .ref k, .int lf, .int st])) := hx
    have t0 := hT.1
    refine pj_ald0 (q := 1) (pj_d p_X11_harms 0 rfl) rfl ?_
    refine pj_gf (q := 4) (k := 5) (pj_d p_X11_harms 1 rfl) rfl kX11_102 (by assumption) (by rfl) (by rfl) ?_
    refine pj_ifnonnull (t := 10) (pj_d p_X11_harms 2 rfl) (by decide) ?_
    have bad : gd_rng d 1 100 = false → pj_V E B l Y_X11_harms 7 0 0 36 [some (.ref b), some (.int (d))] [] h n 0 0 (pj_is (some (.int (sp_harms τ d))) h n) := by
      intro e
      refine pj_ldc (q := 38) (pj_d p_X11_harms 18 rfl) rfl kX11_47 ?_
      refine pj_iret rfl (pj_d p_X11_harms 19 rfl) (by decide) (by decide) ?_
      exact ⟨by simp [sp_harms, p0, e], rfl, rfl⟩
    refine pj_ild1 (q := 11) (pj_d p_X11_harms 5 rfl) rfl ?_
    refine pj_iconst (q := 12) (v := nI 1) (pj_d p_X11_harms 6 rfl) rfl (by decide) ?_
    refine pj_icmp_lt (t := 36) (q := 15) (pj_d p_X11_harms 7 rfl) rfl (by decide) (fun c1 => ?_) (fun c1 => ?_)
    · exact bad (gd_rng_lt (lo := 1) (by decide) c1)
    refine pj_ild1 (q := 16) (pj_d p_X11_harms 8 rfl) rfl ?_
    refine pj_bipush (q := 18) (v := nI 100) (pj_d p_X11_harms 9 rfl) rfl (by decide) ?_
    refine pj_icmp_gt (t := 36) (q := 21) (pj_d p_X11_harms 10 rfl) rfl (by decide) (fun c2 => ?_) (fun c2 => ?_)
    · exact bad (gd_rng_gt (hi := 100) (by decide) c2)
    · have e : gd_rng d 1 100 = true := gd_rng_in1 (lo := 1) (hi := 100) (by decide) (by decide) c1 c2
      obtain ⟨j, hj, hj2, rfl, hc⟩ := gd_rng_of1 (hi := 100) e
      refine pj_ald0 (q := 22) (pj_d p_X11_harms 11 rfl) rfl ?_
      refine pj_gf (q := 25) (k := 2) (pj_d p_X11_harms 12 rfl) rfl kX11_26 (by assumption) (by rfl) (by rfl) ?_
      refine pj_ald0 (q := 26) (pj_d p_X11_harms 13 rfl) rfl ?_
      refine pj_gf (q := 29) (k := 5) (pj_d p_X11_harms 14 rfl) rfl kX11_102 (by assumption) (by rfl) (by rfl) ?_
      refine pj_ild1 (q := 30) (pj_d p_X11_harms 15 rfl) rfl ?_
      refine pj_cp (pj_rV (q := 33) (c_X3_harmOfDays (f0 := b + 15) hT hW (c := j) (by omega)) (pj_d p_X11_harms 16 rfl) rfl kX11_192 o_X3_harmOfDays (by assumption) (by rfl) (by rfl) (by rfl) (by rfl) (Nat.le_of_ble_eq_true rfl) (by decide)) (by decide) (by decide) ?_
      refine pj_goto (t := 38) (pj_d p_X11_harms 17 rfl) (by decide) ?_
      refine pj_iret rfl (pj_d p_X11_harms 19 rfl) (by decide) (by decide) ?_
      exact ⟨by simp [sp_harms, p0, e, hc], rfl, rfl⟩
theorem c_X11_kind (hX : gd_XR h b po lf st τ ac) (t : Int32) : pj_Ct E B l Y_X11_kind 3 0 0 [.ref b, .int t] h n (pj_is (some (.int (sp_kind τ t))) h n) := by
  obtain ⟨hx, hF, hW, hp⟩ := hX
  have h7 := hW.1
  have F0 := hF.1
  refine pj_in rfl (ls := [some (.ref b), some (.int (t))]) rfl (Nat.le_of_ble_eq_true rfl) ?_
  refine pj_ald0 (q := 1) (pj_d p_X11_kind 0 rfl) rfl ?_
  refine pj_ild1 (q := 2) (pj_d p_X11_kind 1 rfl) rfl ?_
  refine pj_cp (pj_rV (q := 5) (c_X11_isThing ⟨hx, hF, hW, hp⟩ t) (pj_d p_X11_kind 2 rfl) rfl kX11_123 o_X11_isThing (by assumption) (by rfl) (by rfl) (by rfl) (by rfl) (Nat.le_of_ble_eq_true rfl) (by decide)) (by decide) (by decide) ?_
  refine pj_if_eq (t := 22) (q := 8) (pj_d p_X11_kind 3 rfl) rfl (by decide) (fun c1 => ?_) (fun c1 => ?_)
  · refine pj_ldc (q := 24) (pj_d p_X11_kind 10 rfl) rfl kX11_47 ?_
    refine pj_iret rfl (pj_d p_X11_kind 11 rfl) (by decide) (by decide) ?_
    exact ⟨by rw [sp_kind, (gd_b_z _).mp c1]; rfl, rfl, rfl⟩
  · have e1 := (gd_b_n _).mp c1
    obtain ⟨i, hi, rfl, hc⟩ := gd_has_of h7 e1
    cases po with
    | none =>
      obtain ⟨p0, p1⟩ := hp
      exact absurd hi (by rw [p1]; exact Nat.not_lt_zero _)
    | some k =>
      obtain ⟨hk, p0, hT⟩ := hp
      have hx : h b = some (.inr (10, [.ref (b + 1), .ref (b + 13), .ref (b + 15), .ref (b + 19), .ref (b + 21), .ref k, .int lf, .int st])) := hx
      have t0 := hT.1
      obtain ⟨ki, -⟩ := hW.2.2.2.2.1 i hi
      refine pj_ald0 (q := 9) (pj_d p_X11_kind 4 rfl) rfl ?_
      refine pj_gf (q := 12) (k := 5) (pj_d p_X11_kind 5 rfl) rfl kX11_102 (by assumption) (by rfl) (by rfl) ?_
      refine pj_ild1 (q := 13) (pj_d p_X11_kind 6 rfl) rfl ?_
      refine pj_cp (pj_rV (q := 16) (c_X9_thingAt hT h7 hi) (pj_d p_X11_kind 7 rfl) rfl kX11_129 o_X9_thingAt (by assumption) (by rfl) (by rfl) (by rfl) (by rfl) (Nat.le_of_ble_eq_true rfl) (by decide)) (by decide) (by decide) ?_
      refine pj_cp (vX11_257 (q := 19) rfl (hT.2.2.2.1 i hi) ki (c_kindTold ki) (pj_d p_X11_kind 8 rfl) rfl rfl rfl (Nat.le_of_ble_eq_true rfl) (by decide)) (by decide) (by decide) ?_
      refine pj_goto (t := 24) (pj_d p_X11_kind 9 rfl) (by decide) ?_
      refine pj_iret rfl (pj_d p_X11_kind 11 rfl) (by decide) (by decide) ?_
      exact ⟨by rw [sp_kind, e1, hc]; rfl, rfl, rfl⟩
theorem c_X11_pair (hX : gd_XR h b po lf st τ ac) (x y : Int32) : pj_Ct E B l Y_X11_pair 4 0 0 [.ref b, .int x, .int y] h n (pj_is (some (.int (sp_pair τ x y))) h n) := by
  obtain ⟨hx, hF, hW, hp⟩ := hX
  have h7 := hW.1
  have F0 := hF.1
  refine pj_in rfl (ls := [some (.ref b), some (.int (x)), some (.int (y))]) rfl (Nat.le_of_ble_eq_true rfl) ?_
  refine pj_ald0 (q := 1) (pj_d p_X11_pair 0 rfl) rfl ?_
  refine pj_ild1 (q := 2) (pj_d p_X11_pair 1 rfl) rfl ?_
  refine pj_ild2 (q := 3) (pj_d p_X11_pair 2 rfl) rfl ?_
  refine pj_cp (pj_rV (q := 6) (c_X11_areTwo ⟨hx, hF, hW, hp⟩ x y) (pj_d p_X11_pair 3 rfl) rfl kX11_167 o_X11_areTwo (by assumption) (by rfl) (by rfl) (by rfl) (by rfl) (Nat.le_of_ble_eq_true rfl) (by decide)) (by decide) (by decide) ?_
  refine pj_if_eq (t := 21) (q := 9) (pj_d p_X11_pair 4 rfl) rfl (by decide) (fun c1 => ?_) (fun c1 => ?_)
  · refine pj_ldc (q := 23) (pj_d p_X11_pair 11 rfl) rfl kX11_47 ?_
    refine pj_iret rfl (pj_d p_X11_pair 12 rfl) (by decide) (by decide) ?_
    exact ⟨by rw [sp_pair, (gd_b_z _).mp c1]; rfl, rfl, rfl⟩
  · have e1 := (gd_b_n _).mp c1
    obtain ⟨i, j, hi, hj, hij, rfl, rfl, hc, hd⟩ := gd_two_parts h7 e1
    cases po with
    | none =>
      obtain ⟨p0, p1⟩ := hp
      exact absurd hi (by rw [p1]; exact Nat.not_lt_zero _)
    | some k =>
      obtain ⟨hk, p0, hT⟩ := hp
      have hx : h b = some (.inr (10, [.ref (b + 1), .ref (b + 13), .ref (b + 15), .ref (b + 19), .ref (b + 21), .ref k, .int lf, .int st])) := hx
      have t0 := hT.1
      refine pj_ald0 (q := 10) (pj_d p_X11_pair 5 rfl) rfl ?_
      refine pj_gf (q := 13) (k := 5) (pj_d p_X11_pair 6 rfl) rfl kX11_102 (by assumption) (by rfl) (by rfl) ?_
      refine pj_ild1 (q := 14) (pj_d p_X11_pair 7 rfl) rfl ?_
      refine pj_ild2 (q := 15) (pj_d p_X11_pair 8 rfl) rfl ?_
      refine pj_cp (pj_rV (q := 18) (c_X9_harmOfPair hT hW (a := i) (b := j) (by omega) (by omega)) (pj_d p_X11_pair 9 rfl) rfl kX11_171 o_X9_harmOfPair (by assumption) (by rfl) (by rfl) (by rfl) (by rfl) (Nat.le_of_ble_eq_true rfl) (by decide)) (by decide) (by decide) ?_
      refine pj_goto (t := 23) (pj_d p_X11_pair 10 rfl) (by decide) ?_
      refine pj_iret rfl (pj_d p_X11_pair 12 rfl) (by decide) (by decide) ?_
      exact ⟨by rw [sp_pair, e1, hc, hd]; rfl, rfl, rfl⟩
theorem c_X11_thing (hX : gd_XR h b po lf st τ ac) (t w : Int32) : pj_Ct E B l Y_X11_thing 4 0 0 [.ref b, .int t, .int w] h n (pj_is (some (.int (sp_thing τ t w))) h n) := by
  obtain ⟨hx, hF, hW, hp⟩ := hX
  have h7 := hW.1
  have F0 := hF.1
  refine pj_in rfl (ls := [some (.ref b), some (.int (t)), some (.int (w))]) rfl (Nat.le_of_ble_eq_true rfl) ?_
  refine pj_ald0 (q := 1) (pj_d p_X11_thing 0 rfl) rfl ?_
  refine pj_ild1 (q := 2) (pj_d p_X11_thing 1 rfl) rfl ?_
  refine pj_cp (pj_rV (q := 5) (c_X11_isThing ⟨hx, hF, hW, hp⟩ t) (pj_d p_X11_thing 2 rfl) rfl kX11_123 o_X11_isThing (by assumption) (by rfl) (by rfl) (by rfl) (by rfl) (Nat.le_of_ble_eq_true rfl) (by decide)) (by decide) (by decide) ?_
  refine pj_if_ne (t := 11) (q := 8) (pj_d p_X11_thing 3 rfl) rfl (by decide) (fun c1 => ?_) (fun c1 => ?_)
  · have e1 := (gd_b_n _).mp c1
    obtain ⟨i, hi, rfl, hc⟩ := gd_has_of h7 e1
    have hsp : sp_thing τ (nI i) w = if w.toInt = 0 then nI (τ (12 + 3 * i)) else if w.toInt = 1 then nI (τ (13 + 3 * i)) else if w.toInt = 2 then nI (gd_lk τ i (gd_miss τ 0)) else if w.toInt = 3 then nI (gd_with τ i) else -1000001 := by rw [sp_thing, e1, hc]; rfl
    rw [hsp]
    cases po with
    | none =>
      obtain ⟨p0, p1⟩ := hp
      exact absurd hi (by rw [p1]; exact Nat.not_lt_zero _)
    | some k =>
      obtain ⟨hk, p0, hT⟩ := hp
      have hx : h b = some (.inr (10, [.ref (b + 1), .ref (b + 13), .ref (b + 15), .ref (b + 19), .ref (b + 21), .ref k, .int lf, .int st])) := hx
      have t0 := hT.1
      obtain ⟨ki, -⟩ := hW.2.2.2.2.1 i hi
      have ta := hT.2.2.2.1 i hi
      refine pj_ild2 (q := 12) (pj_d p_X11_thing 6 rfl) rfl ?_
      rcases gd_sw w 3 (by omega) with ⟨j, hj, rfl, hji⟩ | ho
      · rcases (show j = 0 ∨ j = 1 ∨ j = 2 ∨ j = 3 by omega) with rfl | rfl | rfl | rfl
        · refine pj_tabIn (t := 44) (dflt := 85) (lo := 0) (hi := 3) (offs := #[32, 44, 56, 76]) (off := 32) (pj_d p_X11_thing 7 rfl) (by decide) (by decide) (by rfl) (by decide) ?_
          refine pj_ald0 (q := 45) (pj_d p_X11_thing 8 rfl) rfl ?_
          refine pj_gf (q := 48) (k := 5) (pj_d p_X11_thing 9 rfl) rfl kX11_102 (by assumption) (by rfl) (by rfl) ?_
          refine pj_ild1 (q := 49) (pj_d p_X11_thing 10 rfl) rfl ?_
          refine pj_cp (pj_rV (q := 52) (c_X9_thingAt hT h7 hi) (pj_d p_X11_thing 11 rfl) rfl kX11_129 o_X9_thingAt (by assumption) (by rfl) (by rfl) (by rfl) (by rfl) (Nat.le_of_ble_eq_true rfl) (by decide)) (by decide) (by decide) ?_
          refine pj_cp (vX11_149 (q := 55) rfl ta ki (c_X8_mixed ta ki) (pj_d p_X11_thing 12 rfl) rfl rfl rfl (Nat.le_of_ble_eq_true rfl) (by decide)) (by decide) (by decide) ?_
          refine pj_iret rfl (pj_d p_X11_thing 13 rfl) (by decide) (by decide) ?_
          exact ⟨by simp [hji], rfl, rfl⟩
        · refine pj_tabIn (t := 56) (dflt := 85) (lo := 0) (hi := 3) (offs := #[32, 44, 56, 76]) (off := 44) (pj_d p_X11_thing 7 rfl) (by decide) (by decide) (by rfl) (by decide) ?_
          refine pj_ald0 (q := 57) (pj_d p_X11_thing 14 rfl) rfl ?_
          refine pj_gf (q := 60) (k := 5) (pj_d p_X11_thing 15 rfl) rfl kX11_102 (by assumption) (by rfl) (by rfl) ?_
          refine pj_ild1 (q := 61) (pj_d p_X11_thing 16 rfl) rfl ?_
          refine pj_cp (pj_rV (q := 64) (c_X9_thingAt hT h7 hi) (pj_d p_X11_thing 17 rfl) rfl kX11_129 o_X9_thingAt (by assumption) (by rfl) (by rfl) (by rfl) (by rfl) (Nat.le_of_ble_eq_true rfl) (by decide)) (by decide) (by decide) ?_
          refine pj_cp (vX11_152 (q := 67) rfl ta ki (c_X8_shaped (ci := 0) ta ki) (pj_d p_X11_thing 18 rfl) rfl rfl rfl (Nat.le_of_ble_eq_true rfl) (by decide)) (by decide) (by decide) ?_
          refine pj_iret rfl (pj_d p_X11_thing 19 rfl) (by decide) (by decide) ?_
          exact ⟨by simp [hji], rfl, rfl⟩
        · refine pj_tabIn (t := 68) (dflt := 85) (lo := 0) (hi := 3) (offs := #[32, 44, 56, 76]) (off := 56) (pj_d p_X11_thing 7 rfl) (by decide) (by decide) (by rfl) (by decide) ?_
          refine pj_ald0 (q := 69) (pj_d p_X11_thing 20 rfl) rfl ?_
          refine pj_gf (q := 72) (k := 5) (pj_d p_X11_thing 21 rfl) rfl kX11_102 (by assumption) (by rfl) (by rfl) ?_
          refine pj_ild1 (q := 73) (pj_d p_X11_thing 22 rfl) rfl ?_
          refine pj_cp (pj_rV (q := 76) (c_X9_thingAt hT h7 hi) (pj_d p_X11_thing 23 rfl) rfl kX11_129 o_X9_thingAt (by assumption) (by rfl) (by rfl) (by rfl) (by rfl) (Nat.le_of_ble_eq_true rfl) (by decide)) (by decide) (by decide) ?_
          refine pj_ald0 (q := 77) (pj_d p_X11_thing 24 rfl) rfl ?_
          refine pj_gf (q := 80) (k := 5) (pj_d p_X11_thing 25 rfl) rfl kX11_102 (by assumption) (by rfl) (by rfl) ?_
          refine pj_iconst (q := 81) (v := nI 0) (pj_d p_X11_thing 26 rfl) rfl (by decide) ?_
          refine pj_cp (pj_rV (q := 84) (c_X9_missingIn hT hW (d := 0) (by omega)) (pj_d p_X11_thing 27 rfl) rfl kX11_155 o_X9_missingIn (by assumption) (by rfl) (by rfl) (by rfl) (by rfl) (Nat.le_of_ble_eq_true rfl) (by decide)) (by decide) (by decide) ?_
          refine pj_cp (vX11_158 (q := 87) rfl ta ki (c_lw hT hW hi (gd_miss_lt hW 0)) (pj_d p_X11_thing 28 rfl) rfl rfl rfl (Nat.le_of_ble_eq_true rfl) (by decide)) (by decide) (by decide) ?_
          refine pj_iret rfl (pj_d p_X11_thing 29 rfl) (by decide) (by decide) ?_
          exact ⟨by simp [hji], rfl, rfl⟩
        · refine pj_tabIn (t := 88) (dflt := 85) (lo := 0) (hi := 3) (offs := #[32, 44, 56, 76]) (off := 76) (pj_d p_X11_thing 7 rfl) (by decide) (by decide) (by rfl) (by decide) ?_
          refine pj_ald0 (q := 89) (pj_d p_X11_thing 30 rfl) rfl ?_
          refine pj_gf (q := 92) (k := 5) (pj_d p_X11_thing 31 rfl) rfl kX11_102 (by assumption) (by rfl) (by rfl) ?_
          refine pj_ild1 (q := 93) (pj_d p_X11_thing 32 rfl) rfl ?_
          refine pj_cp (pj_rV (q := 96) (c_X9_harmOfPairsWith hT hW (a := i) (by omega)) (pj_d p_X11_thing 33 rfl) rfl kX11_161 o_X9_harmOfPairsWith (by assumption) (by rfl) (by rfl) (by rfl) (by rfl) (Nat.le_of_ble_eq_true rfl) (by decide)) (by decide) (by decide) ?_
          refine pj_iret rfl (pj_d p_X11_thing 34 rfl) (by decide) (by decide) ?_
          exact ⟨by simp [hji], rfl, rfl⟩
      · refine pj_tabOut (t := 97) (dflt := 85) (lo := 0) (hi := 3) (offs := #[32, 44, 56, 76]) (pj_d p_X11_thing 7 rfl) (by omega) (by decide) ?_
        refine pj_ldc (q := 99) (pj_d p_X11_thing 35 rfl) rfl kX11_47 ?_
        refine pj_iret rfl (pj_d p_X11_thing 36 rfl) (by decide) (by decide) ?_
        refine ⟨?_, rfl, rfl⟩
        rw [if_neg (by omega), if_neg (by omega), if_neg (by omega), if_neg (by omega)]
  · refine pj_ldc (q := 10) (pj_d p_X11_thing 4 rfl) rfl kX11_47 ?_
    refine pj_iret rfl (pj_d p_X11_thing 5 rfl) (by decide) (by decide) ?_
    exact ⟨by rw [sp_thing, (gd_b_z _).mp c1]; rfl, rfl, rfl⟩
theorem c_X11_week (hX : gd_XR h b po lf st τ ac) (w : Int32) : pj_Ct E B l Y_X11_week 7 0 0 [.ref b, .int w] h n (pj_is (some (.int (sp_week τ w))) h n) := by
  obtain ⟨hx, hF, hW, hp⟩ := hX
  have h7 := hW.1
  have F0 := hF.1
  refine pj_in rfl (ls := [some (.ref b), some (.int (w))]) rfl (Nat.le_of_ble_eq_true rfl) ?_
  cases po with
  | none =>
    obtain ⟨p0, p1⟩ := hp
    have hx : h b = some (.inr (10, [.ref (b + 1), .ref (b + 13), .ref (b + 15), .ref (b + 19), .ref (b + 21), .null, .int lf, .int st])) := hx
    refine pj_ald0 (q := 1) (pj_d p_X11_week 0 rfl) rfl ?_
    refine pj_gf (q := 4) (k := 5) (pj_d p_X11_week 1 rfl) rfl kX11_102 (by assumption) (by rfl) (by rfl) ?_
    refine pj_ifnonnullN (q := 7) (pj_d p_X11_week 2 rfl) rfl ?_
    refine pj_ldc (q := 9) (pj_d p_X11_week 3 rfl) rfl kX11_112 ?_
    refine pj_iret rfl (pj_d p_X11_week 4 rfl) (by decide) (by decide) ?_
    exact ⟨by simp [sp_week, p0], rfl, rfl⟩
  | some k =>
    obtain ⟨hk, p0, hT⟩ := hp
    have hx : h b = some (.inr (10, [.ref (b + 1), .ref (b + 13), .ref (b + 15), .ref (b + 19), .ref (b + 21), .ref k, .int lf, .int st])) := hx
    have t0 := hT.1
    refine pj_ald0 (q := 1) (pj_d p_X11_week 0 rfl) rfl ?_
    refine pj_gf (q := 4) (k := 5) (pj_d p_X11_week 1 rfl) rfl kX11_102 (by assumption) (by rfl) (by rfl) ?_
    refine pj_ifnonnull (t := 10) (pj_d p_X11_week 2 rfl) (by decide) ?_
    refine pj_ild1 (q := 11) (pj_d p_X11_week 5 rfl) rfl ?_
    refine pj_cp (pj_rS (q := 14) (c_X11_isChoice w) (pj_d p_X11_week 6 rfl) rfl kX11_195 o_X11_isChoice (by rfl) (by rfl) (Nat.le_of_ble_eq_true rfl) (by decide)) (by decide) (by decide) ?_
    refine pj_if_ne (t := 20) (q := 17) (pj_d p_X11_week 7 rfl) rfl (by decide) (fun c1 => ?_) (fun c1 => ?_)
    · have e := (gd_b_n _).mp c1
      obtain ⟨j, hj, rfl, hc⟩ := gd_rng_of (hi := 1) e
      have hji : (nI j).toInt = (j : Int) := nI_toInt (by omega)
      refine pj_ild1 (q := 21) (pj_d p_X11_week 10 rfl) rfl ?_
      refine pj_if_ne (t := 38) (q := 24) (pj_d p_X11_week 11 rfl) rfl (by decide) (fun c2 => ?_) (fun c2 => ?_)
      · have hj0 : ¬ j = 0 := fun q => c2 (by rw [q]; rfl)
        refine pj_ald0 (q := 39) (pj_d p_X11_week 18 rfl) rfl ?_
        refine pj_gf (q := 42) (k := 2) (pj_d p_X11_week 19 rfl) rfl kX11_26 (by assumption) (by rfl) (by rfl) ?_
        refine pj_ald0 (q := 43) (pj_d p_X11_week 20 rfl) rfl ?_
        refine pj_gf (q := 46) (k := 5) (pj_d p_X11_week 21 rfl) rfl kX11_102 (by assumption) (by rfl) (by rfl) ?_
        refine pj_cp (pj_rV (q := 49) (c_X3_worstDay (f0 := b + 15) hT hW) (pj_d p_X11_week 22 rfl) rfl kX11_202 o_X3_worstDay (by assumption) (by rfl) (by rfl) (by rfl) (by rfl) (Nat.le_of_ble_eq_true rfl) (by decide)) (by decide) (by decide) ?_
        refine pj_iret rfl (pj_d p_X11_week 23 rfl) (by decide) (by decide) ?_
        exact ⟨by simp [sp_week, p0, e, hji, hj0], rfl, rfl⟩
      · have hj0 : j = 0 := (nI_eq (by omega) (by omega)).mp (c2.trans nI_0.symm)
        subst hj0
        refine pj_ald0 (q := 25) (pj_d p_X11_week 12 rfl) rfl ?_
        refine pj_gf (q := 28) (k := 2) (pj_d p_X11_week 13 rfl) rfl kX11_26 (by assumption) (by rfl) (by rfl) ?_
        refine pj_ald0 (q := 29) (pj_d p_X11_week 14 rfl) rfl ?_
        refine pj_gf (q := 32) (k := 5) (pj_d p_X11_week 15 rfl) rfl kX11_102 (by assumption) (by rfl) (by rfl) ?_
        refine pj_cp (pj_rV (q := 35) (c_X3_clearDays (f0 := b + 15) hT hW) (pj_d p_X11_week 16 rfl) rfl kX11_198 o_X3_clearDays (by assumption) (by rfl) (by rfl) (by rfl) (by rfl) (Nat.le_of_ble_eq_true rfl) (by decide)) (by decide) (by decide) ?_
        refine pj_goto (t := 49) (pj_d p_X11_week 17 rfl) (by decide) ?_
        refine pj_iret rfl (pj_d p_X11_week 23 rfl) (by decide) (by decide) ?_
        exact ⟨by simp [sp_week, p0, e, hji], rfl, rfl⟩
    · refine pj_ldc (q := 19) (pj_d p_X11_week 8 rfl) rfl kX11_47 ?_
      refine pj_iret rfl (pj_d p_X11_week 9 rfl) (by decide) (by decide) ?_
      exact ⟨by simp [sp_week, p0, (gd_b_z _).mp c1], rfl, rfl⟩
theorem c_X11_merged (hX : gd_XR h b po lf st τ ac) (x y : Int32) : pj_Ct E B l Y_X11_merged 6 0 0 [.ref b, .int x, .int y] h n (pj_is (some (.int (sp_merged τ x y))) h n) := by
  obtain ⟨hx, hF, hW, hp⟩ := hX
  have h7 := hW.1
  have F0 := hF.1
  refine pj_in rfl (ls := [some (.ref b), some (.int (x)), some (.int (y))]) rfl (Nat.le_of_ble_eq_true rfl) ?_
  refine pj_ald0 (q := 1) (pj_d p_X11_merged 0 rfl) rfl ?_
  refine pj_ild1 (q := 2) (pj_d p_X11_merged 1 rfl) rfl ?_
  refine pj_ild2 (q := 3) (pj_d p_X11_merged 2 rfl) rfl ?_
  refine pj_cp (pj_rV (q := 6) (c_X11_areTwo ⟨hx, hF, hW, hp⟩ x y) (pj_d p_X11_merged 3 rfl) rfl kX11_167 o_X11_areTwo (by assumption) (by rfl) (by rfl) (by rfl) (by rfl) (Nat.le_of_ble_eq_true rfl) (by decide)) (by decide) (by decide) ?_
  refine pj_if_eq (t := 25) (q := 9) (pj_d p_X11_merged 4 rfl) rfl (by decide) (fun c1 => ?_) (fun c1 => ?_)
  · refine pj_ldc (q := 27) (pj_d p_X11_merged 13 rfl) rfl kX11_47 ?_
    refine pj_iret rfl (pj_d p_X11_merged 14 rfl) (by decide) (by decide) ?_
    exact ⟨by rw [sp_merged, (gd_b_z _).mp c1]; rfl, rfl, rfl⟩
  · have e1 := (gd_b_n _).mp c1
    obtain ⟨i, j, hi, hj, hij, rfl, rfl, hc, hd⟩ := gd_two_parts h7 e1
    cases po with
    | none =>
      obtain ⟨p0, p1⟩ := hp
      exact absurd hi (by rw [p1]; exact Nat.not_lt_zero _)
    | some k =>
      obtain ⟨hk, p0, hT⟩ := hp
      have hx : h b = some (.inr (10, [.ref (b + 1), .ref (b + 13), .ref (b + 15), .ref (b + 19), .ref (b + 21), .ref k, .int lf, .int st])) := hx
      have t0 := hT.1
      refine pj_ald0 (q := 10) (pj_d p_X11_merged 5 rfl) rfl ?_
      refine pj_gf (q := 13) (k := 2) (pj_d p_X11_merged 6 rfl) rfl kX11_26 (by assumption) (by rfl) (by rfl) ?_
      refine pj_ald0 (q := 14) (pj_d p_X11_merged 7 rfl) rfl ?_
      refine pj_gf (q := 17) (k := 5) (pj_d p_X11_merged 8 rfl) rfl kX11_102 (by assumption) (by rfl) (by rfl) ?_
      refine pj_ild1 (q := 18) (pj_d p_X11_merged 9 rfl) rfl ?_
      refine pj_ild2 (q := 19) (pj_d p_X11_merged 10 rfl) rfl ?_
      refine pj_cp (pj_rV (q := 22) (c_X3_fewestMissing (f0 := b + 15) hT hW hi hj) (pj_d p_X11_merged 11 rfl) rfl kX11_233 o_X3_fewestMissing (by assumption) (by rfl) (by rfl) (by rfl) (by rfl) (Nat.le_of_ble_eq_true rfl) (by decide)) (by decide) (by decide) ?_
      refine pj_goto (t := 27) (pj_d p_X11_merged 12 rfl) (by decide) ?_
      refine pj_iret rfl (pj_d p_X11_merged 14 rfl) (by decide) (by decide) ?_
      exact ⟨by rw [sp_merged, e1, hc, hd]; rfl, rfl, rfl⟩
theorem c_X11_year (hX : gd_XR h b po lf st τ ac) (m s w : Int32) : pj_Ct E B l Y_X11_year 7 0 0 [.ref b, .int m, .int s, .int w] h n (pj_is (some (.int (sp_year τ m s w))) h n) := by
  obtain ⟨hx, hF, hW, hp⟩ := hX
  have h7 := hW.1
  have F0 := hF.1
  refine pj_in rfl (ls := [some (.ref b), some (.int (m)), some (.int (s)), some (.int (w))]) rfl (Nat.le_of_ble_eq_true rfl) ?_
  cases po with
  | none =>
    obtain ⟨p0, p1⟩ := hp
    have hx : h b = some (.inr (10, [.ref (b + 1), .ref (b + 13), .ref (b + 15), .ref (b + 19), .ref (b + 21), .null, .int lf, .int st])) := hx
    refine pj_ald0 (q := 1) (pj_d p_X11_year 0 rfl) rfl ?_
    refine pj_gf (q := 4) (k := 5) (pj_d p_X11_year 1 rfl) rfl kX11_102 (by assumption) (by rfl) (by rfl) ?_
    refine pj_ifnonnullN (q := 7) (pj_d p_X11_year 2 rfl) rfl ?_
    refine pj_ldc (q := 9) (pj_d p_X11_year 3 rfl) rfl kX11_112 ?_
    refine pj_iret rfl (pj_d p_X11_year 4 rfl) (by decide) (by decide) ?_
    exact ⟨by simp [sp_year, p0], rfl, rfl⟩
  | some k =>
    obtain ⟨hk, p0, hT⟩ := hp
    have hx : h b = some (.inr (10, [.ref (b + 1), .ref (b + 13), .ref (b + 15), .ref (b + 19), .ref (b + 21), .ref k, .int lf, .int st])) := hx
    have t0 := hT.1
    refine pj_ald0 (q := 1) (pj_d p_X11_year 0 rfl) rfl ?_
    refine pj_gf (q := 4) (k := 5) (pj_d p_X11_year 1 rfl) rfl kX11_102 (by assumption) (by rfl) (by rfl) ?_
    refine pj_ifnonnull (t := 10) (pj_d p_X11_year 2 rfl) (by decide) ?_
    have bad : (gd_rng m 0 200 && gd_rng s 1 999999 && gd_rng w 0 1) = false → pj_V E B l Y_X11_year 7 0 0 39 [some (.ref b), some (.int (m)), some (.int (s)), some (.int (w))] [] h n 0 0 (pj_is (some (.int (sp_year τ m s w))) h n) := by
      intro e
      refine pj_ldc (q := 41) (pj_d p_X11_year 19 rfl) rfl kX11_47 ?_
      refine pj_iret rfl (pj_d p_X11_year 20 rfl) (by decide) (by decide) ?_
      exact ⟨by rw [sp_year, if_pos p0, e]; rfl, rfl, rfl⟩
    refine pj_ild1 (q := 11) (pj_d p_X11_year 5 rfl) rfl ?_
    refine pj_if_lt (t := 39) (q := 14) (pj_d p_X11_year 6 rfl) rfl (by decide) (fun c1 => ?_) (fun c1 => ?_)
    · exact bad (by rw [gd_rng_lo (by decide) c1]; rfl)
    refine pj_ild1 (q := 15) (pj_d p_X11_year 7 rfl) rfl ?_
    refine pj_sipush (q := 18) (v := nI 200) (pj_d p_X11_year 8 rfl) rfl (by decide) ?_
    refine pj_icmp_gt (t := 39) (q := 21) (pj_d p_X11_year 9 rfl) rfl (by decide) (fun c2 => ?_) (fun c2 => ?_)
    · exact bad (by rw [show gd_rng m 0 200 = false from gd_rng_gt (hi := 200) (by decide) c2]; rfl)
    refine pj_ild2 (q := 22) (pj_d p_X11_year 10 rfl) rfl ?_
    refine pj_iconst (q := 23) (v := nI 1) (pj_d p_X11_year 11 rfl) rfl (by decide) ?_
    refine pj_icmp_lt (t := 39) (q := 26) (pj_d p_X11_year 12 rfl) rfl (by decide) (fun c3 => ?_) (fun c3 => ?_)
    · exact bad (by rw [show gd_rng s 1 999999 = false from gd_rng_lt (lo := 1) (by decide) c3]; simp)
    refine pj_ild2 (q := 27) (pj_d p_X11_year 13 rfl) rfl ?_
    refine pj_ldc (q := 29) (pj_d p_X11_year 14 rfl) rfl kX11_249 ?_
    rw [show (999999 : Int32) = nI 999999 from rfl]
    refine pj_icmp_gt (t := 39) (q := 32) (pj_d p_X11_year 15 rfl) rfl (by decide) (fun c4 => ?_) (fun c4 => ?_)
    · exact bad (by rw [show gd_rng s 1 999999 = false from gd_rng_gt (hi := 999999) (by decide) c4]; simp)
    refine pj_ild3 (q := 33) (pj_d p_X11_year 16 rfl) rfl ?_
    refine pj_cp (pj_rS (q := 36) (c_X11_isChoice w) (pj_d p_X11_year 17 rfl) rfl kX11_195 o_X11_isChoice (by rfl) (by rfl) (Nat.le_of_ble_eq_true rfl) (by decide)) (by decide) (by decide) ?_
    refine pj_if_ne (t := 42) (q := 39) (pj_d p_X11_year 18 rfl) rfl (by decide) (fun c5 => ?_) (fun c5 => ?_)
    · have e1 : gd_rng m 0 200 = true := gd_rng_in (hi := 200) (by decide) c1 c2
      have e2 : gd_rng s 1 999999 = true := gd_rng_in1 (lo := 1) (hi := 999999) (by decide) (by decide) c3 c4
      have e3 := (gd_b_n _).mp c5
      obtain ⟨c, hc, rfl, hcc⟩ := gd_rng_of (hi := 200) e1
      obtain ⟨x, hx1, hx2, rfl, hxc⟩ := gd_rng_of1 (hi := 999999) e2
      obtain ⟨j, hj, rfl, hjc⟩ := gd_rng_of (hi := 1) e3
      have hji : (nI j).toInt = (j : Int) := nI_toInt (by omega)
      refine pj_ald0 (q := 43) (pj_d p_X11_year 21 rfl) rfl ?_
      refine pj_gf (q := 46) (k := 2) (pj_d p_X11_year 22 rfl) rfl kX11_26 (by assumption) (by rfl) (by rfl) ?_
      refine pj_ald0 (q := 47) (pj_d p_X11_year 23 rfl) rfl ?_
      refine pj_gf (q := 50) (k := 5) (pj_d p_X11_year 24 rfl) rfl kX11_102 (by assumption) (by rfl) (by rfl) ?_
      refine pj_ild1 (q := 51) (pj_d p_X11_year 25 rfl) rfl ?_
      refine pj_ild2 (q := 52) (pj_d p_X11_year 26 rfl) rfl ?_
      refine pj_ild3 (q := 53) (pj_d p_X11_year 27 rfl) rfl ?_
      refine pj_cp (pj_rV (q := 56) (c_X3_drawnYear (f0 := b + 15) hT hW hc hx2 j hj) (pj_d p_X11_year 28 rfl) rfl kX11_250 o_X3_drawnYear (by assumption) (by rfl) (by rfl) (by rfl) (by rfl) (Nat.le_of_ble_eq_true rfl) (by decide)) (by decide) (by decide) ?_
      refine pj_iret rfl (pj_d p_X11_year 29 rfl) (by decide) (by decide) ?_
      refine ⟨?_, rfl, rfl⟩
      rw [sp_year, if_pos p0, e1, e2, e3, hcc, hxc, hji]
      simp
    · exact bad (by rw [(gd_b_z _).mp c5]; simp)
end
