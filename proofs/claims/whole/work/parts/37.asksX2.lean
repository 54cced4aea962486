/-! ===== asked: the class's calls, counts ===== -/
def gd_iso (a w : Nat) : Bool := decide (w = 0 ∨ a = w ∨ (w = 1 ∧ a < 4) ∨ (w = 4 ∧ a = 5))
def sp_as (x w : Int32) (τ : Nat → Nat) (st : Int32) : Int32 × Int32 := if gd_has τ x && gd_rng w 0 5 then (if gd_iso (τ (11 + 3 * x.toNatClampNeg)) w.toNatClampNeg then (x, nI 0) else (-1000013, nI 3)) else (-1000001, st)
def sp_count (w : Int32) (ln : Nat → Int32) (t : gd_TT) (tl : Nat) : Int32 := if gd_rng w 0 6 then (if w.toInt = 0 then nI (gd_ct (fun r => !decide (ln r = -1)) 8) else if w.toInt = 1 then nI (t.1 1) else if w.toInt = 2 then nI (t.1 2) else if w.toInt = 3 then nI (t.1 3) else if w.toInt = 4 then (if t.1 0 = 1 then nI (gd_harm t.1 (gd_miss t.1 0)) else 0) else if w.toInt = 5 then nI t.2.2 else nI tl) else -1000001
section
variable {E : pj_E} {B : Nat} {l : Launch} {h : pj_H} {n b : Nat} {po : Option Nat} {lf st : Int32} {τ : Nat → Nat} {ac : Nat} {K : gd_KT} {m0 : Int32}
theorem c_X11_isOfKind {a kd i sh mx w : Nat} (hk : 1 ≤ kd ∧ kd ≤ 5) (ha : h a = some (.inr (gd_tc kd, [.int (nI i), .int (nI sh), .int (nI mx)]))) (hw : w ≤ 5) : pj_Ct E B l Y_X11_isOfKind 1 0 0 [.ref a, .int (nI w)] h n (pj_is (some (.int (gd_b (gd_iso kd w)))) h n) := by
  refine pj_in rfl (ls := [some (.ref a), some (.int (nI w))]) rfl (Nat.le_of_ble_eq_true rfl) ?_
  refine pj_ild1 (q := 1) (pj_d p_X11_isOfKind 0 rfl) rfl ?_
  rcases (show w = 0 ∨ w = 1 ∨ w = 2 ∨ w = 3 ∨ w = 4 ∨ w = 5 by omega) with rfl | rfl | rfl | rfl | rfl | rfl
  · refine pj_tabIn (t := 40) (dflt := 66) (lo := 0) (hi := 5) (offs := #[39, 41, 46, 51, 56, 61]) (off := 39) (pj_d p_X11_isOfKind 1 rfl) (by decide) (by decide) (by rfl) (by decide) ?_
    refine pj_iconst (q := 41) (v := nI 1) (pj_d p_X11_isOfKind 2 rfl) rfl (by decide) ?_
    refine pj_zret rfl (by first | rfl | decide | (split <;> rfl)) (pj_d p_X11_isOfKind 3 rfl) (by decide) (by decide) ?_
    rcases gd_kd hk.1 hk.2 with rfl | rfl | rfl | rfl | rfl <;> exact ⟨rfl, rfl, rfl⟩
  · refine pj_tabIn (t := 42) (dflt := 66) (lo := 0) (hi := 5) (offs := #[39, 41, 46, 51, 56, 61]) (off := 41) (pj_d p_X11_isOfKind 1 rfl) (by decide) (by decide) (by rfl) (by decide) ?_
    refine pj_ald0 (q := 43) (pj_d p_X11_isOfKind 4 rfl) rfl ?_
    rcases gd_kd hk.1 hk.2 with rfl | rfl | rfl | rfl | rfl
    · refine pj_instY (q := 46) (r := (RX1, TX1, 3)) (pj_d p_X11_isOfKind 5 rfl) rfl kX11_298 rfl ha (Or.inl rfl) ?_
      refine pj_zret rfl (by first | rfl | decide | (split <;> rfl)) (pj_d p_X11_isOfKind 6 rfl) (by decide) (by decide) ?_
      exact ⟨rfl, rfl, rfl⟩
    · refine pj_instY (q := 46) (r := (RX10, TX10, 3)) (pj_d p_X11_isOfKind 5 rfl) rfl kX11_298 rfl ha (Or.inr ca_Twin_Dyed) ?_
      refine pj_zret rfl (by first | rfl | decide | (split <;> rfl)) (pj_d p_X11_isOfKind 6 rfl) (by decide) (by decide) ?_
      exact ⟨rfl, rfl, rfl⟩
    · refine pj_instY (q := 46) (r := (RX6, TX6, 3)) (pj_d p_X11_isOfKind 5 rfl) rfl kX11_298 rfl ha (Or.inr ca_Shining_Dyed) ?_
      refine pj_zret rfl (by first | rfl | decide | (split <;> rfl)) (pj_d p_X11_isOfKind 6 rfl) (by decide) (by decide) ?_
      exact ⟨rfl, rfl, rfl⟩
    · refine pj_instN (q := 46) (r := (RX4, TX4, 3)) (pj_d p_X11_isOfKind 5 rfl) rfl kX11_298 rfl ha (by decide) ?_
      refine pj_zret rfl (by first | rfl | decide | (split <;> rfl)) (pj_d p_X11_isOfKind 6 rfl) (by decide) (by decide) ?_
      exact ⟨rfl, rfl, rfl⟩
    · refine pj_instN (q := 46) (r := (RX2, TX2, 3)) (pj_d p_X11_isOfKind 5 rfl) rfl kX11_298 rfl ha (by decide) ?_
      refine pj_zret rfl (by first | rfl | decide | (split <;> rfl)) (pj_d p_X11_isOfKind 6 rfl) (by decide) (by decide) ?_
      exact ⟨rfl, rfl, rfl⟩
  · refine pj_tabIn (t := 47) (dflt := 66) (lo := 0) (hi := 5) (offs := #[39, 41, 46, 51, 56, 61]) (off := 46) (pj_d p_X11_isOfKind 1 rfl) (by decide) (by decide) (by rfl) (by decide) ?_
    refine pj_ald0 (q := 48) (pj_d p_X11_isOfKind 7 rfl) rfl ?_
    rcases gd_kd hk.1 hk.2 with rfl | rfl | rfl | rfl | rfl
    · refine pj_instN (q := 51) (r := (RX1, TX1, 3)) (pj_d p_X11_isOfKind 8 rfl) rfl kX11_300 rfl ha (by decide) ?_
      refine pj_zret rfl (by first | rfl | decide | (split <;> rfl)) (pj_d p_X11_isOfKind 9 rfl) (by decide) (by decide) ?_
      exact ⟨rfl, rfl, rfl⟩
    · refine pj_instY (q := 51) (r := (RX10, TX10, 3)) (pj_d p_X11_isOfKind 8 rfl) rfl kX11_300 rfl ha (Or.inl rfl) ?_
      refine pj_zret rfl (by first | rfl | decide | (split <;> rfl)) (pj_d p_X11_isOfKind 9 rfl) (by decide) (by decide) ?_
      exact ⟨rfl, rfl, rfl⟩
    · refine pj_instN (q := 51) (r := (RX6, TX6, 3)) (pj_d p_X11_isOfKind 8 rfl) rfl kX11_300 rfl ha (by decide) ?_
      refine pj_zret rfl (by first | rfl | decide | (split <;> rfl)) (pj_d p_X11_isOfKind 9 rfl) (by decide) (by decide) ?_
      exact ⟨rfl, rfl, rfl⟩
    · refine pj_instN (q := 51) (r := (RX4, TX4, 3)) (pj_d p_X11_isOfKind 8 rfl) rfl kX11_300 rfl ha (by decide) ?_
      refine pj_zret rfl (by first | rfl | decide | (split <;> rfl)) (pj_d p_X11_isOfKind 9 rfl) (by decide) (by decide) ?_
      exact ⟨rfl, rfl, rfl⟩
    · refine pj_instN (q := 51) (r := (RX2, TX2, 3)) (pj_d p_X11_isOfKind 8 rfl) rfl kX11_300 rfl ha (by decide) ?_
      refine pj_zret rfl (by first | rfl | decide | (split <;> rfl)) (pj_d p_X11_isOfKind 9 rfl) (by decide) (by decide) ?_
      exact ⟨rfl, rfl, rfl⟩
  · refine pj_tabIn (t := 52) (dflt := 66) (lo := 0) (hi := 5) (offs := #[39, 41, 46, 51, 56, 61]) (off := 51) (pj_d p_X11_isOfKind 1 rfl) (by decide) (by decide) (by rfl) (by decide) ?_
    refine pj_ald0 (q := 53) (pj_d p_X11_isOfKind 10 rfl) rfl ?_
    rcases gd_kd hk.1 hk.2 with rfl | rfl | rfl | rfl | rfl
    · refine pj_instN (q := 56) (r := (RX1, TX1, 3)) (pj_d p_X11_isOfKind 11 rfl) rfl kX11_302 rfl ha (by decide) ?_
      refine pj_zret rfl (by first | rfl | decide | (split <;> rfl)) (pj_d p_X11_isOfKind 12 rfl) (by decide) (by decide) ?_
      exact ⟨rfl, rfl, rfl⟩
    · refine pj_instN (q := 56) (r := (RX10, TX10, 3)) (pj_d p_X11_isOfKind 11 rfl) rfl kX11_302 rfl ha (by decide) ?_
      refine pj_zret rfl (by first | rfl | decide | (split <;> rfl)) (pj_d p_X11_isOfKind 12 rfl) (by decide) (by decide) ?_
      exact ⟨rfl, rfl, rfl⟩
    · refine pj_instY (q := 56) (r := (RX6, TX6, 3)) (pj_d p_X11_isOfKind 11 rfl) rfl kX11_302 rfl ha (Or.inl rfl) ?_
      refine pj_zret rfl (by first | rfl | decide | (split <;> rfl)) (pj_d p_X11_isOfKind 12 rfl) (by decide) (by decide) ?_
      exact ⟨rfl, rfl, rfl⟩
    · refine pj_instN (q := 56) (r := (RX4, TX4, 3)) (pj_d p_X11_isOfKind 11 rfl) rfl kX11_302 rfl ha (by decide) ?_
      refine pj_zret rfl (by first | rfl | decide | (split <;> rfl)) (pj_d p_X11_isOfKind 12 rfl) (by decide) (by decide) ?_
      exact ⟨rfl, rfl, rfl⟩
    · refine pj_instN (q := 56) (r := (RX2, TX2, 3)) (pj_d p_X11_isOfKind 11 rfl) rfl kX11_302 rfl ha (by decide) ?_
      refine pj_zret rfl (by first | rfl | decide | (split <;> rfl)) (pj_d p_X11_isOfKind 12 rfl) (by decide) (by decide) ?_
      exact ⟨rfl, rfl, rfl⟩
  · refine pj_tabIn (t := 57) (dflt := 66) (lo := 0) (hi := 5) (offs := #[39, 41, 46, 51, 56, 61]) (off := 56) (pj_d p_X11_isOfKind 1 rfl) (by decide) (by decide) (by rfl) (by decide) ?_
    refine pj_ald0 (q := 58) (pj_d p_X11_isOfKind 13 rfl) rfl ?_
    rcases gd_kd hk.1 hk.2 with rfl | rfl | rfl | rfl | rfl
    · refine pj_instN (q := 61) (r := (RX1, TX1, 3)) (pj_d p_X11_isOfKind 14 rfl) rfl kX11_304 rfl ha (by decide) ?_
      refine pj_zret rfl (by first | rfl | decide | (split <;> rfl)) (pj_d p_X11_isOfKind 15 rfl) (by decide) (by decide) ?_
      exact ⟨rfl, rfl, rfl⟩
    · refine pj_instN (q := 61) (r := (RX10, TX10, 3)) (pj_d p_X11_isOfKind 14 rfl) rfl kX11_304 rfl ha (by decide) ?_
      refine pj_zret rfl (by first | rfl | decide | (split <;> rfl)) (pj_d p_X11_isOfKind 15 rfl) (by decide) (by decide) ?_
      exact ⟨rfl, rfl, rfl⟩
    · refine pj_instN (q := 61) (r := (RX6, TX6, 3)) (pj_d p_X11_isOfKind 14 rfl) rfl kX11_304 rfl ha (by decide) ?_
      refine pj_zret rfl (by first | rfl | decide | (split <;> rfl)) (pj_d p_X11_isOfKind 15 rfl) (by decide) (by decide) ?_
      exact ⟨rfl, rfl, rfl⟩
    · refine pj_instY (q := 61) (r := (RX4, TX4, 3)) (pj_d p_X11_isOfKind 14 rfl) rfl kX11_304 rfl ha (Or.inl rfl) ?_
      refine pj_zret rfl (by first | rfl | decide | (split <;> rfl)) (pj_d p_X11_isOfKind 15 rfl) (by decide) (by decide) ?_
      exact ⟨rfl, rfl, rfl⟩
    · refine pj_instY (q := 61) (r := (RX2, TX2, 3)) (pj_d p_X11_isOfKind 14 rfl) rfl kX11_304 rfl ha (Or.inr ca_Faded_Ink) ?_
      refine pj_zret rfl (by first | rfl | decide | (split <;> rfl)) (pj_d p_X11_isOfKind 15 rfl) (by decide) (by decide) ?_
      exact ⟨rfl, rfl, rfl⟩
  · refine pj_tabIn (t := 62) (dflt := 66) (lo := 0) (hi := 5) (offs := #[39, 41, 46, 51, 56, 61]) (off := 61) (pj_d p_X11_isOfKind 1 rfl) (by decide) (by decide) (by rfl) (by decide) ?_
    refine pj_ald0 (q := 63) (pj_d p_X11_isOfKind 16 rfl) rfl ?_
    rcases gd_kd hk.1 hk.2 with rfl | rfl | rfl | rfl | rfl
    · refine pj_instN (q := 66) (r := (RX1, TX1, 3)) (pj_d p_X11_isOfKind 17 rfl) rfl kX11_306 rfl ha (by decide) ?_
      refine pj_zret rfl (by first | rfl | decide | (split <;> rfl)) (pj_d p_X11_isOfKind 18 rfl) (by decide) (by decide) ?_
      exact ⟨rfl, rfl, rfl⟩
    · refine pj_instN (q := 66) (r := (RX10, TX10, 3)) (pj_d p_X11_isOfKind 17 rfl) rfl kX11_306 rfl ha (by decide) ?_
      refine pj_zret rfl (by first | rfl | decide | (split <;> rfl)) (pj_d p_X11_isOfKind 18 rfl) (by decide) (by decide) ?_
      exact ⟨rfl, rfl, rfl⟩
    · refine pj_instN (q := 66) (r := (RX6, TX6, 3)) (pj_d p_X11_isOfKind 17 rfl) rfl kX11_306 rfl ha (by decide) ?_
      refine pj_zret rfl (by first | rfl | decide | (split <;> rfl)) (pj_d p_X11_isOfKind 18 rfl) (by decide) (by decide) ?_
      exact ⟨rfl, rfl, rfl⟩
    · refine pj_instN (q := 66) (r := (RX4, TX4, 3)) (pj_d p_X11_isOfKind 17 rfl) rfl kX11_306 rfl ha (by decide) ?_
      refine pj_zret rfl (by first | rfl | decide | (split <;> rfl)) (pj_d p_X11_isOfKind 18 rfl) (by decide) (by decide) ?_
      exact ⟨rfl, rfl, rfl⟩
    · refine pj_instY (q := 66) (r := (RX2, TX2, 3)) (pj_d p_X11_isOfKind 17 rfl) rfl kX11_306 rfl ha (Or.inl rfl) ?_
      refine pj_zret rfl (by first | rfl | decide | (split <;> rfl)) (pj_d p_X11_isOfKind 18 rfl) (by decide) (by decide) ?_
      exact ⟨rfl, rfl, rfl⟩
theorem c_X11_status (hx : h b = some (.inr (10, gd_XO b po lf st))) : pj_Ct E B l Y_X11_status 1 0 0 [.ref b] h n (pj_is (some (.int st)) h n) := by
  refine pj_in rfl (ls := [some (.ref b)]) rfl (Nat.le_of_ble_eq_true rfl) ?_
  refine pj_ald0 (q := 1) (pj_d p_X11_status 0 rfl) rfl ?_
  refine pj_gf (q := 4) (k := 7) (pj_d p_X11_status 1 rfl) rfl kX11_282 (by assumption) (by rfl) (by rfl) ?_
  refine pj_iret rfl (pj_d p_X11_status 2 rfl) (by decide) (by decide) ?_
  exact ⟨rfl, rfl, rfl⟩
theorem c_X11_fault (hx : h b = some (.inr (10, gd_XO b po lf st))) : pj_Ct E B l Y_X11_fault 1 0 0 [.ref b] h n (pj_is (some (.int lf)) h n) := by
  refine pj_in rfl (ls := [some (.ref b)]) rfl (Nat.le_of_ble_eq_true rfl) ?_
  refine pj_ald0 (q := 1) (pj_d p_X11_fault 0 rfl) rfl ?_
  refine pj_gf (q := 4) (k := 6) (pj_d p_X11_fault 1 rfl) rfl kX11_94 (by assumption) (by rfl) (by rfl) ?_
  refine pj_iret rfl (pj_d p_X11_fault 2 rfl) (by decide) (by decide) ?_
  exact ⟨rfl, rfl, rfl⟩
theorem c_X11_trace (hx : h b = some (.inr (10, gd_XO b po lf st))) (hK : gd_KX h (b + 19) K m0) (hle : K.2 ≤ 16) (x : Int32) : pj_Ct E B l Y_X11_trace 2 0 0 [.ref b, .int x] h n (pj_is (some (.int (sp_trace x K))) h n) := by
  have k0 := hK.1
  refine pj_in rfl (ls := [some (.ref b), some (.int (x))]) rfl (Nat.le_of_ble_eq_true rfl) ?_
  refine pj_ald0 (q := 1) (pj_d p_X11_trace 0 rfl) rfl ?_
  refine pj_gf (q := 4) (k := 3) (pj_d p_X11_trace 1 rfl) rfl kX11_33 (by assumption) (by rfl) (by rfl) ?_
  refine pj_ild1 (q := 5) (pj_d p_X11_trace 2 rfl) rfl ?_
  refine pj_cp (pj_rV (q := 8) (c_X0_left hK hle x) (pj_d p_X11_trace 3 rfl) rfl kX11_274 o_X0_left (by assumption) (by rfl) (by rfl) (by rfl) (by rfl) (Nat.le_of_ble_eq_true rfl) (by decide)) (by decide) (by decide) ?_
  refine pj_iret rfl (pj_d p_X11_trace 4 rfl) (by decide) (by decide) ?_
  exact ⟨rfl, rfl, rfl⟩
theorem c_X11_as (hX : gd_XR h b po lf st τ ac) (x w : Int32) : pj_Ct E B l Y_X11_as 3 0 0 [.ref b, .int x, .int w] h n (fun r h' n' => r = some (.int (sp_as x w τ st).1) ∧ n' = n ∧ h' = pj_up h b (.inr (10, gd_XO b po lf (sp_as x w τ st).2))) := by
  have hX0 := hX
  obtain ⟨hx, hF, hW, hp⟩ := hX
  have hx0 : h b = some (.inr (10, gd_XO b po lf st)) := hx
  have h7 := hW.1
  refine pj_in rfl (ls := [some (.ref b), some (.int (x)), some (.int (w))]) rfl (Nat.le_of_ble_eq_true rfl) ?_
  have bad : (gd_has τ x && gd_rng w 0 5) = false → pj_V E B l Y_X11_as 3 0 0 17 [some (.ref b), some (.int (x)), some (.int (w))] [] h n 0 0 (fun r h' n' => r = some (.int (sp_as x w τ st).1) ∧ n' = n ∧ h' = pj_up h b (.inr (10, gd_XO b po lf (sp_as x w τ st).2))) := by
    intro hd
    refine pj_ldc (q := 19) (pj_d p_X11_as 9 rfl) rfl kX11_47 ?_
    refine pj_iret rfl (pj_d p_X11_as 10 rfl) (by decide) (by decide) ?_
    rw [sp_as, hd]
    exact ⟨rfl, rfl, (pj_up_id hx0).symm⟩
  refine pj_ald0 (q := 1) (pj_d p_X11_as 0 rfl) rfl ?_
  refine pj_ild1 (q := 2) (pj_d p_X11_as 1 rfl) rfl ?_
  refine pj_cp (pj_rV (q := 5) (c_X11_isThing hX0 x) (pj_d p_X11_as 2 rfl) rfl kX11_123 o_X11_isThing (by assumption) (by rfl) (by rfl) (by rfl) (by rfl) (Nat.le_of_ble_eq_true rfl) (by decide)) (by decide) (by decide) ?_
  refine pj_if_eq (t := 17) (q := 8) (pj_d p_X11_as 3 rfl) rfl (by decide) (fun c1 => ?_) (fun c1 => ?_)
  · exact bad (by rw [(gd_b_z _).mp c1]; rfl)
  refine pj_ild2 (q := 9) (pj_d p_X11_as 4 rfl) rfl ?_
  refine pj_if_lt (t := 17) (q := 12) (pj_d p_X11_as 5 rfl) rfl (by decide) (fun c2 => ?_) (fun c2 => ?_)
  · exact bad (by rw [show gd_rng w 0 5 = false from gd_rng_lo (by decide) c2]; simp)
  refine pj_ild2 (q := 13) (pj_d p_X11_as 6 rfl) rfl ?_
  refine pj_iconst (q := 14) (v := nI 5) (pj_d p_X11_as 7 rfl) rfl (by decide) ?_
  refine pj_icmp_le (t := 20) (q := 17) (pj_d p_X11_as 8 rfl) rfl (by decide) (fun c3 => ?_) (fun c3 => ?_)
  rotate_left
  · rw [Int32.not_le] at c3
    exact bad (by rw [show gd_rng w 0 5 = false from gd_rng_gt (hi := 5) (by decide) c3]; simp)
  have e1 := (gd_b_n _).mp c1
  have e2 : gd_rng w 0 5 = true := gd_rng_in (hi := 5) (by decide) c2 (by rw [Int32.not_lt]; exact c3)
  obtain ⟨i, hi, rfl, hc⟩ := gd_has_of h7 e1
  obtain ⟨j, hj, rfl, hd⟩ := gd_rng_of (hi := 5) e2
  cases po with
  | none =>
    obtain ⟨p0, p1⟩ := hp
    exact absurd hi (by rw [p1]; exact Nat.not_lt_zero _)
  | some k =>
    obtain ⟨hk, p0, hT⟩ := hp
    have hx : h b = some (.inr (10, [.ref (b + 1), .ref (b + 13), .ref (b + 15), .ref (b + 19), .ref (b + 21), .ref k, .int lf, .int st])) := hx
    have t0 := hT.1
    have ki := (hW.2.2.2.2.1 i hi).1
    have hx0 : h b = some (.inr (10, gd_XO b (some k) lf st)) := hx0
    refine pj_ald0 (q := 21) (pj_d p_X11_as 11 rfl) rfl ?_
    refine pj_ald0 (q := 22) (pj_d p_X11_as 12 rfl) rfl ?_
    refine pj_gf (q := 25) (k := 5) (pj_d p_X11_as 13 rfl) rfl kX11_102 (by assumption) (by rfl) (by rfl) ?_
    refine pj_ild1 (q := 26) (pj_d p_X11_as 14 rfl) rfl ?_
    refine pj_cp (pj_rV (q := 29) (c_X9_thingAt hT h7 hi) (pj_d p_X11_as 15 rfl) rfl kX11_129 o_X9_thingAt (by assumption) (by rfl) (by rfl) (by rfl) (by rfl) (Nat.le_of_ble_eq_true rfl) (by decide)) (by decide) (by decide) ?_
    refine pj_ild2 (q := 30) (pj_d p_X11_as 16 rfl) rfl ?_
    refine pj_cp (pj_rS (q := 33) (c_X11_isOfKind ki (hT.2.2.2.1 i hi) hj) (pj_d p_X11_as 17 rfl) rfl kX11_260 o_X11_isOfKind (by rfl) (by rfl) (Nat.le_of_ble_eq_true rfl) (by decide)) (by decide) (by decide) ?_
    refine pj_if_eq (t := 40) (q := 36) (pj_d p_X11_as 18 rfl) rfl (by decide) (fun c4 => ?_) (fun c4 => ?_)
    · have e4 := (gd_b_z _).mp c4
      refine pj_iconst (q := 41) (v := nI 3) (pj_d p_X11_as 21 rfl) rfl (by decide) ?_
      refine pj_cv (pj_rV (q := 44) (c_X11_finds hx0 (show 3 < 10 by omega)) (pj_d p_X11_as 22 rfl) rfl kX11_48 o_X11_finds (by assumption) (by rfl) (by rfl) (by rfl) (by rfl) (Nat.le_of_ble_eq_true rfl) (by decide)) (by decide) (by decide) ?_
      rintro r1 h1 n1 ⟨rfl, rfl, rfl⟩
      refine pj_if_eq (t := 54) (q := 47) (pj_d p_X11_as 23 rfl) rfl (by decide) (fun c5 => ?_) (fun c5 => ?_)
      · exact absurd c5 (by decide)
      refine pj_ald0 (q := 48) (pj_d p_X11_as 24 rfl) rfl ?_
      refine pj_cp (pj_rV (q := 51) (c_X11_finding (po := some k) (lf := lf) (st := nI 3) pj_up_s) (pj_d p_X11_as 25 rfl) rfl kX11_51 o_X11_finding pj_up_s (by rfl) (by rfl) (by rfl) (by rfl) (Nat.le_of_ble_eq_true rfl) (by decide)) (by decide) (by decide) ?_
      refine pj_goto (t := 55) (pj_d p_X11_as 26 rfl) (by decide) ?_
      refine pj_iret rfl (pj_d p_X11_as 28 rfl) (by decide) (by decide) ?_
      rw [show sp_as (nI i) (nI j) τ st = (-1000013, nI 3) by rw [sp_as, e1, e2, hc, hd, e4]; rfl]
      exact ⟨rfl, rfl, rfl⟩
    · have e4 := (gd_b_n _).mp c4
      refine pj_iconst (q := 37) (v := nI 0) (pj_d p_X11_as 19 rfl) rfl (by decide) ?_
      refine pj_goto (t := 41) (pj_d p_X11_as 20 rfl) (by decide) ?_
      refine pj_cv (pj_rV (q := 44) (c_X11_finds hx0 (show 0 < 10 by omega)) (pj_d p_X11_as 22 rfl) rfl kX11_48 o_X11_finds (by assumption) (by rfl) (by rfl) (by rfl) (by rfl) (Nat.le_of_ble_eq_true rfl) (by decide)) (by decide) (by decide) ?_
      rintro r1 h1 n1 ⟨rfl, rfl, rfl⟩
      refine pj_if_eq (t := 54) (q := 47) (pj_d p_X11_as 23 rfl) rfl (by decide) (fun c5 => ?_) (fun c5 => ?_)
      rotate_left
      · exact absurd rfl c5
      refine pj_ild1 (q := 55) (pj_d p_X11_as 27 rfl) rfl ?_
      refine pj_iret rfl (pj_d p_X11_as 28 rfl) (by decide) (by decide) ?_
      rw [show sp_as (nI i) (nI j) τ st = (nI i, nI 0) by rw [sp_as, e1, e2, hc, hd, e4]; rfl]
      exact ⟨rfl, rfl, rfl⟩
theorem c_X11_ask (hX : gd_XR h b po lf st τ ac) (hK : gd_KX h (b + 19) K m0) (x w : Int32) : pj_Ct E B l Y_X11_ask 8 0 0 [.ref b, .int x, .int w] h n (fun r h' n' => r = some (.int (sp_ask x w τ K).1) ∧ n' = n ∧ ∃ m1, h' = gd_kx h (b + 19) (sp_ask x w τ K).2 m1) := by
  have hX0 := hX
  obtain ⟨hx, hF, hW, hp⟩ := hX
  have h7 := hW.1
  have k0 := hK.1
  refine pj_in rfl (ls := [some (.ref b), some (.int (x)), some (.int (w)), none]) rfl (Nat.le_of_ble_eq_true rfl) ?_
  have bad : (gd_has τ x && gd_rng w 0 1) = false → pj_V E B l Y_X11_ask 8 0 0 15 [some (.ref b), some (.int (x)), some (.int (w)), none] [] h n 0 0 (fun r h' n' => r = some (.int (sp_ask x w τ K).1) ∧ n' = n ∧ ∃ m1, h' = gd_kx h (b + 19) (sp_ask x w τ K).2 m1) := by
    intro hd
    refine pj_ldc (q := 17) (pj_d p_X11_ask 7 rfl) rfl kX11_47 ?_
    refine pj_iret rfl (pj_d p_X11_ask 8 rfl) (by decide) (by decide) ?_
    rw [sp_ask, hd]
    exact ⟨rfl, rfl, m0, (gd_kx_id hK).symm⟩
  refine pj_ald0 (q := 1) (pj_d p_X11_ask 0 rfl) rfl ?_
  refine pj_ild1 (q := 2) (pj_d p_X11_ask 1 rfl) rfl ?_
  refine pj_cp (pj_rV (q := 5) (c_X11_isThing hX0 x) (pj_d p_X11_ask 2 rfl) rfl kX11_123 o_X11_isThing (by first | assumption | exact gd_kx_0 | exact gd_kx_1 | exact (gd_kx_a (by omega) (by omega)).trans (by assumption)) (by rfl) (by rfl) (by rfl) (by rfl) (Nat.le_of_ble_eq_true rfl) (by decide)) (by decide) (by decide) ?_
  refine pj_if_eq (t := 15) (q := 8) (pj_d p_X11_ask 3 rfl) rfl (by decide) (fun c1 => ?_) (fun c1 => ?_)
  · exact bad (by rw [(gd_b_z _).mp c1]; rfl)
  refine pj_ild2 (q := 9) (pj_d p_X11_ask 4 rfl) rfl ?_
  refine pj_cp (pj_rS (q := 12) (c_X11_isChoice w) (pj_d p_X11_ask 5 rfl) rfl kX11_195 o_X11_isChoice (by rfl) (by rfl) (Nat.le_of_ble_eq_true rfl) (by decide)) (by decide) (by decide) ?_
  refine pj_if_ne (t := 18) (q := 15) (pj_d p_X11_ask 6 rfl) rfl (by decide) (fun c2 => ?_) (fun c2 => ?_)
  rotate_left
  · exact bad (by rw [(gd_b_z _).mp c2]; simp)
  have e1 := (gd_b_n _).mp c1
  have e2 := (gd_b_n _).mp c2
  obtain ⟨i, hi, rfl, hc⟩ := gd_has_of h7 e1
  obtain ⟨j, hj, rfl, hd⟩ := gd_rng_of (hi := 1) e2
  cases po with
  | none =>
    obtain ⟨p0, p1⟩ := hp
    exact absurd hi (by rw [p1]; exact Nat.not_lt_zero _)
  | some k =>
    obtain ⟨hk, p0, hT⟩ := hp
    have hx : h b = some (.inr (10, [.ref (b + 1), .ref (b + 13), .ref (b + 15), .ref (b + 19), .ref (b + 21), .ref k, .int lf, .int st])) := hx
    have t0 := hT.1
    obtain ⟨ki, mi, -⟩ := hW.2.2.2.2.1 i hi
    have ta := hT.2.2.2.1 i hi
    have hs := gd_miss_lt hW 0
    have n0 : k + 9 + i ≠ b + 19 := by omega
    have n1 : k + 9 + i ≠ b + 19 + 1 := by omega
    refine pj_ald0 (q := 19) (pj_d p_X11_ask 9 rfl) rfl ?_
    refine pj_gf (q := 22) (k := 5) (pj_d p_X11_ask 10 rfl) rfl kX11_102 (by first | assumption | exact gd_kx_0 | exact gd_kx_1 | exact (gd_kx_a (by omega) (by omega)).trans (by assumption)) (by rfl) (by rfl) ?_
    refine pj_ild1 (q := 23) (pj_d p_X11_ask 11 rfl) rfl ?_
    refine pj_cp (pj_rV (q := 26) (c_X9_thingAt hT h7 hi) (pj_d p_X11_ask 12 rfl) rfl kX11_129 o_X9_thingAt (by first | assumption | exact gd_kx_0 | exact gd_kx_1 | exact (gd_kx_a (by omega) (by omega)).trans (by assumption)) (by rfl) (by rfl) (by rfl) (by rfl) (Nat.le_of_ble_eq_true rfl) (by decide)) (by decide) (by decide) ?_
    refine pj_ast3 (q := 27) (pj_d p_X11_ask 13 rfl) rfl (by first | rfl | assumption) ?_
    refine pj_ald0 (q := 28) (pj_d p_X11_ask 14 rfl) rfl ?_
    refine pj_gf (q := 31) (k := 3) (pj_d p_X11_ask 15 rfl) rfl kX11_33 (by first | assumption | exact gd_kx_0 | exact gd_kx_1 | exact (gd_kx_a (by omega) (by omega)).trans (by assumption)) (by rfl) (by rfl) ?_
    refine pj_ald0 (q := 32) (pj_d p_X11_ask 16 rfl) rfl ?_
    refine pj_gf (q := 35) (k := 5) (pj_d p_X11_ask 17 rfl) rfl kX11_102 (by first | assumption | exact gd_kx_0 | exact gd_kx_1 | exact (gd_kx_a (by omega) (by omega)).trans (by assumption)) (by rfl) (by rfl) ?_
    refine pj_iconst (q := 36) (v := nI 0) (pj_d p_X11_ask 18 rfl) rfl (by decide) ?_
    refine pj_cp (pj_rV (q := 39) (c_X9_missingIn hT hW (d := 0) (by omega)) (pj_d p_X11_ask 19 rfl) rfl kX11_155 o_X9_missingIn (by first | assumption | exact gd_kx_0 | exact gd_kx_1 | exact (gd_kx_a (by omega) (by omega)).trans (by assumption)) (by rfl) (by rfl) (by rfl) (by rfl) (Nat.le_of_ble_eq_true rfl) (by decide)) (by decide) (by decide) ?_
    refine pj_cv (pj_rV (q := 42) (c_X0_start hK) (pj_d p_X11_ask 20 rfl) rfl kX11_264 o_X0_start (by first | assumption | exact gd_kx_0 | exact gd_kx_1 | exact (gd_kx_a (by omega) (by omega)).trans (by assumption)) (by rfl) (by rfl) (by rfl) (by rfl) (Nat.le_of_ble_eq_true rfl) (by decide)) (by decide) (by decide) ?_
    rintro r1 h1 n1' ⟨rfl, rfl, rfl⟩
    refine pj_ild2 (q := 43) (pj_d p_X11_ask 21 rfl) rfl ?_
    refine pj_if_ne (t := 57) (q := 46) (pj_d p_X11_ask 22 rfl) rfl (by decide) (fun c3 => ?_) (fun c3 => ?_)
    · have hj1 : j = 1 := by
        have : j ≠ 0 := fun q => c3 (by rw [q]; rfl)
        omega
      subst hj1
      refine pj_ald3 (q := 58) (pj_d p_X11_ask 28 rfl) rfl ?_
      refine pj_ald0 (q := 59) (pj_d p_X11_ask 29 rfl) rfl ?_
      refine pj_gf (q := 62) (k := 3) (pj_d p_X11_ask 30 rfl) rfl kX11_33 (by first | assumption | exact gd_kx_0 | exact gd_kx_1 | exact (gd_kx_a (by omega) (by omega)).trans (by assumption)) (by rfl) (by rfl) ?_
      refine pj_cv (vX11_271 (q := 65) rfl ((gd_kx_a n0 n1).trans ta) ki (c_mrk (dd := 7) (by omega) ki ta n0 n1 (Nat.zero_le _) mi hs) (pj_d p_X11_ask 31 rfl) rfl rfl rfl (Nat.le_of_ble_eq_true rfl) (by decide)) (by decide) (by decide) ?_
      rintro r1 h1 n1' ⟨rfl, rfl, rfl⟩
      refine pj_iret rfl (pj_d p_X11_ask 32 rfl) (by decide) (by decide) ?_
      rw [show sp_ask (nI i) (nI 1) τ K = gd_mrk (τ (11 + 3 * i)) i (gd_lk τ i (gd_miss τ 0)) (τ (12 + 3 * i)) (K.1, 0) by rw [sp_ask, e1, e2, hc]; rfl]
      exact ⟨rfl, rfl, _, rfl⟩
    · have hj0 : j = 0 := (nI_eq (by omega) (by omega)).mp (c3.trans nI_0.symm)
      subst hj0
      refine pj_ald3 (q := 47) (pj_d p_X11_ask 23 rfl) rfl ?_
      refine pj_ald0 (q := 48) (pj_d p_X11_ask 24 rfl) rfl ?_
      refine pj_gf (q := 51) (k := 3) (pj_d p_X11_ask 25 rfl) rfl kX11_33 (by first | assumption | exact gd_kx_0 | exact gd_kx_1 | exact (gd_kx_a (by omega) (by omega)).trans (by assumption)) (by rfl) (by rfl) ?_
      refine pj_cv (vX11_267 (q := 54) rfl ((gd_kx_a n0 n1).trans ta) ki (c_siz (dd := 7) (by omega) ki ta n0 n1 (Nat.zero_le _) mi hs) (pj_d p_X11_ask 26 rfl) rfl rfl rfl (Nat.le_of_ble_eq_true rfl) (by decide)) (by decide) (by decide) ?_
      rintro r1 h1 n1' ⟨rfl, rfl, rfl⟩
      refine pj_goto (t := 65) (pj_d p_X11_ask 27 rfl) (by decide) ?_
      refine pj_iret rfl (pj_d p_X11_ask 32 rfl) (by decide) (by decide) ?_
      rw [show sp_ask (nI i) (nI 0) τ K = gd_siz (τ (11 + 3 * i)) i (gd_lk τ i (gd_miss τ 0)) (τ (12 + 3 * i)) (K.1, 0) by rw [sp_ask, e1, e2, hc]; rfl]
      exact ⟨rfl, rfl, _, rfl⟩
theorem c_X7_length {a tl : Nat} {p1 p2 p3 : Int32} (h0 : h a = some (.inr (7, [.ref (a + 1), .int (nI tl), .int p1, .int p2, .int p3]))) : pj_Ct E B l Y_X7_length 1 0 0 [.ref a] h n (pj_is (some (.int (nI tl))) h n) := by
  refine pj_in rfl (ls := [some (.ref a)]) rfl (Nat.le_of_ble_eq_true rfl) ?_
  refine pj_ald0 (q := 1) (pj_d p_X7_length 0 rfl) rfl ?_
  refine pj_gf (q := 4) (k := 1) (pj_d p_X7_length 1 rfl) rfl kX7_13 (by assumption) (by rfl) (by rfl) ?_
  refine pj_iret rfl (pj_d p_X7_length 2 rfl) (by decide) (by decide) ?_
  exact ⟨rfl, rfl, rfl⟩
theorem c_X11_countOfTown {k : Nat} (hX : gd_XR h b (some k) lf st τ ac) {j : Nat} (hj : 1 ≤ j ∧ j ≤ 5) : pj_Ct E B l Y_X11_countOfTown 6 0 0 [.ref b, .int (nI j)] h n (pj_is (some (.int (if j = 1 then nI (τ 1) else if j = 2 then nI (τ 2) else if j = 3 then nI (τ 3) else if j = 4 then nI (gd_harm τ (gd_miss τ 0)) else nI ac))) h n) := by
  obtain ⟨hx, hF, hW, hp⟩ := hX
  obtain ⟨hk, p0, hT⟩ := hp
  have hx : h b = some (.inr (10, [.ref (b + 1), .ref (b + 13), .ref (b + 15), .ref (b + 19), .ref (b + 21), .ref k, .int lf, .int st])) := hx
  have t0 := hT.1
  refine pj_in rfl (ls := [some (.ref b), some (.int (nI j))]) rfl (Nat.le_of_ble_eq_true rfl) ?_
  refine pj_ild1 (q := 1) (pj_d p_X11_countOfTown 0 rfl) rfl ?_
  rcases (show j = 1 ∨ j = 2 ∨ j = 3 ∨ j = 4 ∨ j = 5 by omega) with rfl | rfl | rfl | rfl | rfl
  · refine pj_tabIn (t := 32) (dflt := 71) (lo := 1) (hi := 4) (offs := #[31, 39, 47, 55]) (off := 31) (pj_d p_X11_countOfTown 1 rfl) (by decide) (by decide) (by rfl) (by decide) ?_
    refine pj_ald0 (q := 33) (pj_d p_X11_countOfTown 2 rfl) rfl ?_
    refine pj_gf (q := 36) (k := 5) (pj_d p_X11_countOfTown 3 rfl) rfl kX11_102 (by assumption) (by rfl) (by rfl) ?_
    refine pj_cp (pj_rV (q := 39) (c_X9_thingCount hT) (pj_d p_X11_countOfTown 4 rfl) rfl kX11_106 o_X9_thingCount (by assumption) (by rfl) (by rfl) (by rfl) (by rfl) (Nat.le_of_ble_eq_true rfl) (by decide)) (by decide) (by decide) ?_
    refine pj_iret rfl (pj_d p_X11_countOfTown 5 rfl) (by decide) (by decide) ?_
    exact ⟨rfl, rfl, rfl⟩
  · refine pj_tabIn (t := 40) (dflt := 71) (lo := 1) (hi := 4) (offs := #[31, 39, 47, 55]) (off := 39) (pj_d p_X11_countOfTown 1 rfl) (by decide) (by decide) (by rfl) (by decide) ?_
    refine pj_ald0 (q := 41) (pj_d p_X11_countOfTown 6 rfl) rfl ?_
    refine pj_gf (q := 44) (k := 5) (pj_d p_X11_countOfTown 7 rfl) rfl kX11_102 (by assumption) (by rfl) (by rfl) ?_
    refine pj_cp (pj_rV (q := 47) (c_X9_pairCount hT) (pj_d p_X11_countOfTown 8 rfl) rfl kX11_285 o_X9_pairCount (by assumption) (by rfl) (by rfl) (by rfl) (by rfl) (Nat.le_of_ble_eq_true rfl) (by decide)) (by decide) (by decide) ?_
    refine pj_iret rfl (pj_d p_X11_countOfTown 9 rfl) (by decide) (by decide) ?_
    exact ⟨rfl, rfl, rfl⟩
  · refine pj_tabIn (t := 48) (dflt := 71) (lo := 1) (hi := 4) (offs := #[31, 39, 47, 55]) (off := 47) (pj_d p_X11_countOfTown 1 rfl) (by decide) (by decide) (by rfl) (by decide) ?_
    refine pj_ald0 (q := 49) (pj_d p_X11_countOfTown 10 rfl) rfl ?_
    refine pj_gf (q := 52) (k := 5) (pj_d p_X11_countOfTown 11 rfl) rfl kX11_102 (by assumption) (by rfl) (by rfl) ?_
    refine pj_cp (pj_rV (q := 55) (c_X9_today hT) (pj_d p_X11_countOfTown 12 rfl) rfl kX11_116 o_X9_today (by assumption) (by rfl) (by rfl) (by rfl) (by rfl) (Nat.le_of_ble_eq_true rfl) (by decide)) (by decide) (by decide) ?_
    refine pj_iret rfl (pj_d p_X11_countOfTown 13 rfl) (by decide) (by decide) ?_
    exact ⟨rfl, rfl, rfl⟩
  · refine pj_tabIn (t := 56) (dflt := 71) (lo := 1) (hi := 4) (offs := #[31, 39, 47, 55]) (off := 55) (pj_d p_X11_countOfTown 1 rfl) (by decide) (by decide) (by rfl) (by decide) ?_
    refine pj_ald0 (q := 57) (pj_d p_X11_countOfTown 14 rfl) rfl ?_
    refine pj_gf (q := 60) (k := 5) (pj_d p_X11_countOfTown 15 rfl) rfl kX11_102 (by assumption) (by rfl) (by rfl) ?_
    refine pj_ald0 (q := 61) (pj_d p_X11_countOfTown 16 rfl) rfl ?_
    refine pj_gf (q := 64) (k := 5) (pj_d p_X11_countOfTown 17 rfl) rfl kX11_102 (by assumption) (by rfl) (by rfl) ?_
    refine pj_iconst (q := 65) (v := nI 0) (pj_d p_X11_countOfTown 18 rfl) rfl (by decide) ?_
    refine pj_cp (pj_rV (q := 68) (c_X9_missingIn hT hW (d := 0) (by omega)) (pj_d p_X11_countOfTown 19 rfl) rfl kX11_155 o_X9_missingIn (by assumption) (by rfl) (by rfl) (by rfl) (by rfl) (Nat.le_of_ble_eq_true rfl) (by decide)) (by decide) (by decide) ?_
    refine pj_cp (pj_rV (q := 71) (c_X9_harmWithout hT hW (gd_miss_lt hW 0)) (pj_d p_X11_countOfTown 20 rfl) rfl kX11_189 o_X9_harmWithout (by assumption) (by rfl) (by rfl) (by rfl) (by rfl) (Nat.le_of_ble_eq_true rfl) (by decide)) (by decide) (by decide) ?_
    refine pj_iret rfl (pj_d p_X11_countOfTown 21 rfl) (by decide) (by decide) ?_
    exact ⟨rfl, rfl, rfl⟩
  · refine pj_tabOut (t := 72) (dflt := 71) (lo := 1) (hi := 4) (offs := #[31, 39, 47, 55]) (pj_d p_X11_countOfTown 1 rfl) (by decide) (by decide) ?_
    refine pj_ald0 (q := 73) (pj_d p_X11_countOfTown 22 rfl) rfl ?_
    refine pj_gf (q := 76) (k := 5) (pj_d p_X11_countOfTown 23 rfl) rfl kX11_102 (by assumption) (by rfl) (by rfl) ?_
    refine pj_cp (pj_rV (q := 79) (c_X9_actCount hT) (pj_d p_X11_countOfTown 24 rfl) rfl kX11_109 o_X9_actCount (by assumption) (by rfl) (by rfl) (by rfl) (by rfl) (Nat.le_of_ble_eq_true rfl) (by decide)) (by decide) (by decide) ?_
    refine pj_iret rfl (pj_d p_X11_countOfTown 25 rfl) (by decide) (by decide) ?_
    exact ⟨rfl, rfl, rfl⟩
theorem c_X11_count {t : gd_TT} {tl : Nat} {p1 p2 p3 : Int32} {ln : Nat → Int32} {mn : Nat → Nat} {it : Nat → Nat → Int32} (hX : gd_XR h b po lf st t.1 t.2.2) (hWT : gd_WT t) (h00 : t.1 0 = 0 → t.1 2 = 0 ∧ t.1 3 = 0) (hR : gd_RX h b ln mn it) (hTp : h (b + 13) = some (.inr (7, [.ref (b + 13 + 1), .int (nI tl), .int p1, .int p2, .int p3]))) (w : Int32) : pj_Ct E B l Y_X11_count 7 0 0 [.ref b, .int w] h n (pj_is (some (.int (sp_count w ln t tl))) h n) := by
  have hX0 := hX
  obtain ⟨hx, hF, hW, hp⟩ := hX
  have r0 := hR.1
  refine pj_in rfl (ls := [some (.ref b), some (.int (w))]) rfl (Nat.le_of_ble_eq_true rfl) ?_
  have bad : gd_rng w 0 6 = false → pj_V E B l Y_X11_count 7 0 0 36 [some (.ref b), some (.int (w))] [] h n 0 0 (pj_is (some (.int (sp_count w ln t tl))) h n) := by
    intro hd
    refine pj_ldc (q := 38) (pj_d p_X11_count 18 rfl) rfl kX11_47 ?_
    refine pj_iret rfl (pj_d p_X11_count 19 rfl) (by decide) (by decide) ?_
    exact ⟨by rw [sp_count, hd, if_neg (by decide)], rfl, rfl⟩
  refine pj_ild1 (q := 1) (pj_d p_X11_count 0 rfl) rfl ?_
  refine pj_if_ne (t := 12) (q := 4) (pj_d p_X11_count 1 rfl) rfl (by decide) (fun c1 => ?_) (fun c1 => ?_)
  rotate_left
  · have c1 : w = nI 0 := c1
    subst c1
    refine pj_ald0 (q := 5) (pj_d p_X11_count 2 rfl) rfl ?_
    refine pj_gf (q := 8) (k := 0) (pj_d p_X11_count 3 rfl) rfl kX11_10 (by assumption) (by rfl) (by rfl) ?_
    refine pj_cp (pj_rV (q := 11) (c_X5_present hR) (pj_d p_X11_count 4 rfl) rfl kX11_277 o_X5_present (by assumption) (by rfl) (by rfl) (by rfl) (by rfl) (Nat.le_of_ble_eq_true rfl) (by decide)) (by decide) (by decide) ?_
    refine pj_iret rfl (pj_d p_X11_count 5 rfl) (by decide) (by decide) ?_
    exact ⟨by rw [sp_count, show gd_rng (nI 0) 0 6 = true by rw [gd_rng_nI (by omega)]; rfl, if_pos rfl, nI_toInt (by omega), if_pos (by decide)], rfl, rfl⟩
  refine pj_ild1 (q := 13) (pj_d p_X11_count 6 rfl) rfl ?_
  refine pj_bipush (q := 15) (v := nI 6) (pj_d p_X11_count 7 rfl) rfl (by decide) ?_
  refine pj_icmp_ne (t := 26) (q := 18) (pj_d p_X11_count 8 rfl) rfl (by decide) (fun c2 => ?_) (fun c2 => ?_)
  rotate_left
  · have c2 : w = nI 6 := c2
    subst c2
    refine pj_ald0 (q := 19) (pj_d p_X11_count 9 rfl) rfl ?_
    refine pj_gf (q := 22) (k := 1) (pj_d p_X11_count 10 rfl) rfl kX11_19 (by assumption) (by rfl) (by rfl) ?_
    refine pj_cp (pj_rV (q := 25) (c_X7_length hTp) (pj_d p_X11_count 11 rfl) rfl kX11_83 o_X7_length (by assumption) (by rfl) (by rfl) (by rfl) (by rfl) (Nat.le_of_ble_eq_true rfl) (by decide)) (by decide) (by decide) ?_
    refine pj_iret rfl (pj_d p_X11_count 12 rfl) (by decide) (by decide) ?_
    exact ⟨by rw [sp_count, show gd_rng (nI 6) 0 6 = true by rw [gd_rng_nI (by omega)]; rfl, if_pos rfl, nI_toInt (by omega), if_neg (by decide), if_neg (by decide), if_neg (by decide), if_neg (by decide), if_neg (by decide), if_neg (by decide)], rfl, rfl⟩
  refine pj_ild1 (q := 27) (pj_d p_X11_count 13 rfl) rfl ?_
  refine pj_if_lt (t := 36) (q := 30) (pj_d p_X11_count 14 rfl) rfl (by decide) (fun c3 => ?_) (fun c3 => ?_)
  · exact bad (gd_rng_lo (by decide) c3)
  refine pj_ild1 (q := 31) (pj_d p_X11_count 15 rfl) rfl ?_
  refine pj_bipush (q := 33) (v := nI 6) (pj_d p_X11_count 16 rfl) rfl (by decide) ?_
  refine pj_icmp_le (t := 39) (q := 36) (pj_d p_X11_count 17 rfl) rfl (by decide) (fun c4 => ?_) (fun c4 => ?_)
  rotate_left
  · rw [Int32.not_le] at c4
    exact bad (gd_rng_gt (hi := 6) (by decide) c4)
  have e1 : gd_rng w 0 6 = true := gd_rng_in (hi := 6) (by decide) c3 (by rw [Int32.not_lt]; exact c4)
  obtain ⟨j, hj, rfl, hc⟩ := gd_rng_of (hi := 6) e1
  have j0 : j ≠ 0 := fun q => c1 (by rw [q]; rfl)
  have j6 : j ≠ 6 := fun q => c2 (by rw [q])
  cases po with
  | none =>
    obtain ⟨p0, p1'⟩ := hp
    have hx : h b = some (.inr (10, [.ref (b + 1), .ref (b + 13), .ref (b + 15), .ref (b + 19), .ref (b + 21), .null, .int lf, .int st])) := hx
    refine pj_ald0 (q := 40) (pj_d p_X11_count 20 rfl) rfl ?_
    refine pj_gf (q := 43) (k := 5) (pj_d p_X11_count 21 rfl) rfl kX11_102 (by assumption) (by rfl) (by rfl) ?_
    refine pj_ifnonnullN (q := 46) (pj_d p_X11_count 22 rfl) rfl ?_
    refine pj_iconst (q := 47) (v := nI 0) (pj_d p_X11_count 23 rfl) rfl (by decide) ?_
    refine pj_goto (t := 55) (pj_d p_X11_count 24 rfl) (by decide) ?_
    refine pj_iret rfl (pj_d p_X11_count 28 rfl) (by decide) (by decide) ?_
    obtain ⟨z2, z3⟩ := h00 p0
    have zac : t.2.2 = 0 := by rcases hWT.2.2.2.1 with q | q; omega; exact q
    refine ⟨?_, rfl, rfl⟩
    rw [sp_count, e1, if_pos rfl, nI_toInt (by omega)]
    rcases (show j = 1 ∨ j = 2 ∨ j = 3 ∨ j = 4 ∨ j = 5 by omega) with rfl | rfl | rfl | rfl | rfl
    · rw [if_neg (by decide), if_pos (by decide), p1']
    · rw [if_neg (by decide), if_neg (by decide), if_pos (by decide), z2]
    · rw [if_neg (by decide), if_neg (by decide), if_neg (by decide), if_pos (by decide), z3]
    · rw [if_neg (by decide), if_neg (by decide), if_neg (by decide), if_neg (by decide), if_pos (by decide), if_neg (by omega)]; rfl
    · rw [if_neg (by decide), if_neg (by decide), if_neg (by decide), if_neg (by decide), if_neg (by decide), if_pos (by decide), zac]
  | some k =>
    have hx : h b = some (.inr (10, [.ref (b + 1), .ref (b + 13), .ref (b + 15), .ref (b + 19), .ref (b + 21), .ref k, .int lf, .int st])) := hx
    refine pj_ald0 (q := 40) (pj_d p_X11_count 20 rfl) rfl ?_
    refine pj_gf (q := 43) (k := 5) (pj_d p_X11_count 21 rfl) rfl kX11_102 (by assumption) (by rfl) (by rfl) ?_
    refine pj_ifnonnull (t := 50) (pj_d p_X11_count 22 rfl) (by decide) ?_
    refine pj_ald0 (q := 51) (pj_d p_X11_count 25 rfl) rfl ?_
    refine pj_ild1 (q := 52) (pj_d p_X11_count 26 rfl) rfl ?_
    refine pj_cp (pj_rV (q := 55) (c_X11_countOfTown hX0 (show 1 ≤ j ∧ j ≤ 5 by omega)) (pj_d p_X11_count 27 rfl) rfl kX11_279 o_X11_countOfTown (by assumption) (by rfl) (by rfl) (by rfl) (by rfl) (Nat.le_of_ble_eq_true rfl) (by decide)) (by decide) (by decide) ?_
    refine pj_iret rfl (pj_d p_X11_count 28 rfl) (by decide) (by decide) ?_
    refine ⟨?_, rfl, rfl⟩
    obtain ⟨-, p0, -⟩ := hp
    rw [sp_count, e1, if_pos rfl, nI_toInt (by omega)]
    rcases (show j = 1 ∨ j = 2 ∨ j = 3 ∨ j = 4 ∨ j = 5 by omega) with rfl | rfl | rfl | rfl | rfl
    · rfl
    · rfl
    · rfl
    · rw [if_pos p0]; rfl
    · rfl
end
