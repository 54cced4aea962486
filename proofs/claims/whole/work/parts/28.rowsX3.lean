/-! ===== rows: the class's calls ===== -/
section
variable {E : pj_E} {B : Nat} {l : Launch} {h : pj_H} {n b : Nat} {ln : Nat → Int32} {mn : Nat → Nat} {it : Nat → Nat → Int32} {po : Option Nat} {lf st : Int32}
theorem c_X5_present (hR : gd_RX h b ln mn it) : pj_Ct E B l Y_X5_present 3 0 0 [.ref (b + 1)] h n (pj_is (some (.int (nI (gd_ct (fun r => !decide (ln r = -1)) 8)))) h n) := by
  have R0 := hR.1
  refine pj_in rfl (ls := [some (.ref (b + 1)), none, none]) rfl (Nat.le_of_ble_eq_true rfl) ?_
  refine pj_iconst (q := 1) (v := nI 0) (pj_d p_X5_present 0 rfl) rfl (by decide) ?_
  refine pj_ist1 (q := 2) (pj_d p_X5_present 1 rfl) rfl (by first | rfl | assumption) ?_
  refine pj_iconst (q := 3) (v := nI 0) (pj_d p_X5_present 2 rfl) rfl (by decide) ?_
  refine pj_ist2 (q := 4) (pj_d p_X5_present 3 rfl) rfl (by first | rfl | assumption) ?_
  generalize hp : (fun r => !decide (ln r = -1)) = p
  have loop : ∀ m i, 8 - i < m → i ≤ 8 → pj_V E B l Y_X5_present 3 0 0 4 [some (.ref (b + 1)), some (.int (nI (gd_ct p i))), some (.int (nI i))] [] h n 0 0 (pj_is (some (.int (nI (gd_ct p 8)))) h n) := by
    intro m
    induction m with
    | zero => intro i hi; omega
    | succ m ih =>
      intro i hi hle
      refine pj_ild2 (q := 5) (pj_d p_X5_present 4 rfl) rfl ?_
      refine pj_bipush (q := 7) (v := nI 8) (pj_d p_X5_present 5 rfl) rfl (by decide) ?_
      refine pj_icmp_ge (t := 27) (q := 10) (pj_d p_X5_present 6 rfl) rfl (by decide) (fun c1 => ?_) (fun c1 => ?_)
      · have he : i = 8 := by have := gd_ge c1 (by omega) (by omega); omega
        subst he
        refine pj_ild1 (q := 28) (pj_d p_X5_present 14 rfl) rfl ?_
        refine pj_iret rfl (pj_d p_X5_present 15 rfl) (by decide) (by decide) ?_
        exact ⟨rfl, rfl, rfl⟩
      have hlt : i < 8 := gd_lt c1 (by omega)
      have ht : gd_th ln (nI i) = p i := by rw [gd_th, gd_rng_nI (by omega), nI_clamp (by omega), ← hp, decide_eq_true (by omega)]; rfl
      refine pj_ald0 (q := 11) (pj_d p_X5_present 7 rfl) rfl ?_
      refine pj_ild2 (q := 12) (pj_d p_X5_present 8 rfl) rfl ?_
      refine pj_cp (pj_rV (q := 15) (c_X5_isThere hR (nI i)) (pj_d p_X5_present 9 rfl) rfl kX5_31 o_X5_isThere (by assumption) (by rfl) (by rfl) (by rfl) (by rfl) (Nat.le_of_ble_eq_true rfl) (by decide)) (by decide) (by decide) ?_
      rw [ht]
      have fin : ∀ z, z = gd_ct p (i + 1) → pj_V E B l Y_X5_present 3 0 0 21 [some (.ref (b + 1)), some (.int (nI z)), some (.int (nI i))] [] h n 0 0 (pj_is (some (.int (nI (gd_ct p 8)))) h n) := by
        intro z hz
        subst hz
        refine pj_iinc2 (q := 24) (v := 1) (pj_d p_X5_present 12 rfl) rfl (by first | rfl | assumption) (by decide) ?_
        refine pj_goto (t := 4) (pj_d p_X5_present 13 rfl) (by decide) ?_
        rw [nI_1]
        exact ih (i + 1) (by omega) (by omega)
      refine pj_if_eq (t := 21) (q := 18) (pj_d p_X5_present 10 rfl) rfl (by decide) (fun c2 => ?_) (fun c2 => ?_)
      · exact fin _ (by rw [gd_ct, (gd_b_z _).mp c2]; rfl)
      · refine pj_iinc1 (q := 21) (v := 1) (pj_d p_X5_present 11 rfl) rfl (by first | rfl | assumption) (by decide) ?_
        rw [nI_1]
        exact fin _ (by rw [gd_ct, (gd_b_n _).mp c2]; rfl)
  exact loop 9 0 (by omega) (by omega)
theorem c_X11_finds (hx : h b = some (.inr (10, gd_XO b po lf st))) {j : Nat} (hj : j < 10) : pj_Ct E B l Y_X11_finds 1 0 0 [.ref b, .int (nI j)] h n (fun r h' n' => r = some (.int (gd_b (!decide (j = 0)))) ∧ n' = n ∧ h' = pj_up h b (.inr (10, gd_XO b po lf (nI j)))) := by
  refine pj_in rfl (ls := [some (.ref b), some (.int (nI j))]) rfl (Nat.le_of_ble_eq_true rfl) ?_
  refine pj_ald0 (q := 1) (pj_d p_X11_finds 0 rfl) rfl ?_
  refine pj_ild1 (q := 2) (pj_d p_X11_finds 1 rfl) rfl ?_
  refine pj_pf (q := 5) (k := 7) (fs' := gd_XO b po lf (nI j)) (pj_d p_X11_finds 2 rfl) rfl kX11_282 hx rfl (Or.inl rfl) rfl rfl rfl (by show 7 < 8; decide) rfl ?_
  refine pj_ild1 (q := 6) (pj_d p_X11_finds 3 rfl) rfl ?_
  refine pj_if_eq (t := 13) (q := 9) (pj_d p_X11_finds 4 rfl) rfl (by decide) (fun c1 => ?_) (fun c1 => ?_)
  · have : j = 0 := (nI_eq (by omega) (by omega)).mp (c1.trans nI_0.symm)
    refine pj_iconst (q := 14) (v := nI 0) (pj_d p_X11_finds 7 rfl) rfl (by decide) ?_
    refine pj_zret rfl (by first | rfl | decide | (split <;> rfl)) (pj_d p_X11_finds 8 rfl) (by decide) (by decide) ?_
    exact ⟨by rw [decide_eq_true this]; rfl, rfl, rfl⟩
  · have : ¬ j = 0 := fun q => c1 (by rw [q]; rfl)
    refine pj_iconst (q := 10) (v := nI 1) (pj_d p_X11_finds 5 rfl) rfl (by decide) ?_
    refine pj_goto (t := 14) (pj_d p_X11_finds 6 rfl) (by decide) ?_
    refine pj_zret rfl (by first | rfl | decide | (split <;> rfl)) (pj_d p_X11_finds 8 rfl) (by decide) (by decide) ?_
    exact ⟨by rw [decide_eq_false this]; rfl, rfl, rfl⟩
theorem c_X11_finding (hx : h b = some (.inr (10, gd_XO b po lf st))) : pj_Ct E B l Y_X11_finding 1 0 0 [.ref b] h n (pj_is (some (.int (-1000010 - st))) h n) := by
  refine pj_in rfl (ls := [some (.ref b)]) rfl (Nat.le_of_ble_eq_true rfl) ?_
  refine pj_ldcw (q := 3) (pj_d p_X11_finding 0 rfl) rfl kX11_288 ?_
  refine pj_ald0 (q := 4) (pj_d p_X11_finding 1 rfl) rfl ?_
  refine pj_gf (q := 7) (k := 7) (pj_d p_X11_finding 2 rfl) rfl kX11_282 (by assumption) (by rfl) (by rfl) ?_
  refine pj_isub (q := 8) (pj_d p_X11_finding 3 rfl) rfl ?_
  refine pj_iret rfl (pj_d p_X11_finding 4 rfl) (by decide) (by decide) ?_
  exact ⟨rfl, rfl, rfl⟩
def gd_fp (ln : Nat → Int32) (mn : Nat → Nat) (r i c : Int32) : Nat := if gd_th ln r then (if gd_hp ln mn r i c then 0 else 2) else 1
theorem c_X11_findingOfPlaces (hx : h b = some (.inr (10, gd_XO b po lf st))) (hR : gd_RX h b ln mn it) (hB : gd_RB ln mn) (r i c : Int32) : pj_Ct E B l Y_X11_findingOfPlaces 4 0 0 [.ref b, .int r, .int i, .int c] h n (pj_is (some (.int (nI (gd_fp ln mn r i c)))) h n) := by
  have R0 := hR.1
  refine pj_in rfl (ls := [some (.ref b), some (.int (r)), some (.int (i)), some (.int (c))]) rfl (Nat.le_of_ble_eq_true rfl) ?_
  refine pj_ald0 (q := 1) (pj_d p_X11_findingOfPlaces 0 rfl) rfl ?_
  refine pj_gf (q := 4) (k := 0) (pj_d p_X11_findingOfPlaces 1 rfl) rfl kX11_10 (by assumption) (by rfl) (by rfl) ?_
  refine pj_ild1 (q := 5) (pj_d p_X11_findingOfPlaces 2 rfl) rfl ?_
  refine pj_cp (pj_rV (q := 8) (c_X5_isThere hR r) (pj_d p_X11_findingOfPlaces 3 rfl) rfl kX11_74 o_X5_isThere (by assumption) (by rfl) (by rfl) (by rfl) (by rfl) (Nat.le_of_ble_eq_true rfl) (by decide)) (by decide) (by decide) ?_
  refine pj_if_ne (t := 13) (q := 11) (pj_d p_X11_findingOfPlaces 4 rfl) rfl (by decide) (fun c1 => ?_) (fun c1 => ?_)
  · have e1 := (gd_b_n _).mp c1
    refine pj_ald0 (q := 14) (pj_d p_X11_findingOfPlaces 7 rfl) rfl ?_
    refine pj_gf (q := 17) (k := 0) (pj_d p_X11_findingOfPlaces 8 rfl) rfl kX11_10 (by assumption) (by rfl) (by rfl) ?_
    refine pj_ild1 (q := 18) (pj_d p_X11_findingOfPlaces 9 rfl) rfl ?_
    refine pj_ild2 (q := 19) (pj_d p_X11_findingOfPlaces 10 rfl) rfl ?_
    refine pj_ild3 (q := 20) (pj_d p_X11_findingOfPlaces 11 rfl) rfl ?_
    refine pj_cp (pj_rV (q := 23) (c_X5_hasPlaces hR hB r i c) (pj_d p_X11_findingOfPlaces 12 rfl) rfl kX11_289 o_X5_hasPlaces (by assumption) (by rfl) (by rfl) (by rfl) (by rfl) (Nat.le_of_ble_eq_true rfl) (by decide)) (by decide) (by decide) ?_
    refine pj_if_eq (t := 30) (q := 26) (pj_d p_X11_findingOfPlaces 13 rfl) rfl (by decide) (fun c2 => ?_) (fun c2 => ?_)
    · refine pj_iconst (q := 31) (v := nI 2) (pj_d p_X11_findingOfPlaces 16 rfl) rfl (by decide) ?_
      refine pj_iret rfl (pj_d p_X11_findingOfPlaces 17 rfl) (by decide) (by decide) ?_
      exact ⟨by simp [gd_fp, e1, (gd_b_z _).mp c2], rfl, rfl⟩
    · refine pj_iconst (q := 27) (v := nI 0) (pj_d p_X11_findingOfPlaces 14 rfl) rfl (by decide) ?_
      refine pj_goto (t := 31) (pj_d p_X11_findingOfPlaces 15 rfl) (by decide) ?_
      refine pj_iret rfl (pj_d p_X11_findingOfPlaces 17 rfl) (by decide) (by decide) ?_
      exact ⟨by simp [gd_fp, e1, (gd_b_n _).mp c2], rfl, rfl⟩
  · refine pj_iconst (q := 12) (v := nI 1) (pj_d p_X11_findingOfPlaces 5 rfl) rfl (by decide) ?_
    refine pj_iret rfl (pj_d p_X11_findingOfPlaces 6 rfl) (by decide) (by decide) ?_
    exact ⟨by simp [gd_fp, (gd_b_z _).mp c1], rfl, rfl⟩
def gd_fm (ln : Nat → Int32) (mn : Nat → Nat) (a i r j c : Int32) : Nat := if gd_th ln a && gd_th ln r then (if ln a.toNatClampNeg = ln r.toNatClampNeg then (if gd_hp ln mn a i c && gd_hp ln mn r j c then 0 else 2) else 5) else 1
theorem c_X11_findingOfMove (hx : h b = some (.inr (10, gd_XO b po lf st))) (hR : gd_RX h b ln mn it) (hB : gd_RB ln mn) (a i r j c : Int32) : pj_Ct E B l Y_X11_findingOfMove 4 0 0 [.ref b, .int a, .int i, .int r, .int j, .int c] h n (pj_is (some (.int (nI (gd_fm ln mn a i r j c)))) h n) := by
  have R0 := hR.1
  refine pj_in rfl (ls := [some (.ref b), some (.int (a)), some (.int (i)), some (.int (r)), some (.int (j)), some (.int (c))]) rfl (Nat.le_of_ble_eq_true rfl) ?_
  have null : (gd_th ln a && gd_th ln r) = false → pj_V E B l Y_X11_findingOfMove 4 0 0 22 [some (.ref b), some (.int (a)), some (.int (i)), some (.int (r)), some (.int (j)), some (.int (c))] [] h n 0 0 (pj_is (some (.int (nI (gd_fm ln mn a i r j c)))) h n) := by
    intro hn
    refine pj_iconst (q := 23) (v := nI 1) (pj_d p_X11_findingOfMove 10 rfl) rfl (by decide) ?_
    refine pj_iret rfl (pj_d p_X11_findingOfMove 11 rfl) (by decide) (by decide) ?_
    exact ⟨by rw [gd_fm, hn]; rfl, rfl, rfl⟩
  refine pj_ald0 (q := 1) (pj_d p_X11_findingOfMove 0 rfl) rfl ?_
  refine pj_gf (q := 4) (k := 0) (pj_d p_X11_findingOfMove 1 rfl) rfl kX11_10 (by assumption) (by rfl) (by rfl) ?_
  refine pj_ild1 (q := 5) (pj_d p_X11_findingOfMove 2 rfl) rfl ?_
  refine pj_cp (pj_rV (q := 8) (c_X5_isThere hR a) (pj_d p_X11_findingOfMove 3 rfl) rfl kX11_74 o_X5_isThere (by assumption) (by rfl) (by rfl) (by rfl) (by rfl) (Nat.le_of_ble_eq_true rfl) (by decide)) (by decide) (by decide) ?_
  refine pj_if_eq (t := 22) (q := 11) (pj_d p_X11_findingOfMove 4 rfl) rfl (by decide) (fun c1 => ?_) (fun c1 => ?_)
  · exact null (by rw [(gd_b_z _).mp c1]; rfl)
  have e1 := (gd_b_n _).mp c1
  refine pj_ald0 (q := 12) (pj_d p_X11_findingOfMove 5 rfl) rfl ?_
  refine pj_gf (q := 15) (k := 0) (pj_d p_X11_findingOfMove 6 rfl) rfl kX11_10 (by assumption) (by rfl) (by rfl) ?_
  refine pj_ild3 (q := 16) (pj_d p_X11_findingOfMove 7 rfl) rfl ?_
  refine pj_cp (pj_rV (q := 19) (c_X5_isThere hR r) (pj_d p_X11_findingOfMove 8 rfl) rfl kX11_74 o_X5_isThere (by assumption) (by rfl) (by rfl) (by rfl) (by rfl) (Nat.le_of_ble_eq_true rfl) (by decide)) (by decide) (by decide) ?_
  refine pj_if_ne (t := 24) (q := 22) (pj_d p_X11_findingOfMove 9 rfl) rfl (by decide) (fun c2 => ?_) (fun c2 => ?_)
  rotate_left
  · exact null (by rw [(gd_b_z _).mp c2]; simp)
  have e2 := (gd_b_n _).mp c2
  refine pj_ald0 (q := 25) (pj_d p_X11_findingOfMove 12 rfl) rfl ?_
  refine pj_gf (q := 28) (k := 0) (pj_d p_X11_findingOfMove 13 rfl) rfl kX11_10 (by assumption) (by rfl) (by rfl) ?_
  refine pj_ild1 (q := 29) (pj_d p_X11_findingOfMove 14 rfl) rfl ?_
  refine pj_ild3 (q := 30) (pj_d p_X11_findingOfMove 15 rfl) rfl ?_
  refine pj_cp (pj_rV (q := 33) (c_X5_haveOneLane hR e1 e2) (pj_d p_X11_findingOfMove 16 rfl) rfl kX11_292 o_X5_haveOneLane (by assumption) (by rfl) (by rfl) (by rfl) (by rfl) (Nat.le_of_ble_eq_true rfl) (by decide)) (by decide) (by decide) ?_
  refine pj_if_ne (t := 38) (q := 36) (pj_d p_X11_findingOfMove 17 rfl) rfl (by decide) (fun c3 => ?_) (fun c3 => ?_)
  rotate_left
  · refine pj_iconst (q := 37) (v := nI 5) (pj_d p_X11_findingOfMove 18 rfl) rfl (by decide) ?_
    refine pj_iret rfl (pj_d p_X11_findingOfMove 19 rfl) (by decide) (by decide) ?_
    exact ⟨by rw [gd_fm, e1, e2, if_neg (gd_dec_f c3)]; rfl, rfl, rfl⟩
  have e3 := gd_dec_t c3
  have place : (gd_hp ln mn a i c && gd_hp ln mn r j c) = false → pj_V E B l Y_X11_findingOfMove 4 0 0 71 [some (.ref b), some (.int (a)), some (.int (i)), some (.int (r)), some (.int (j)), some (.int (c))] [] h n 0 0 (pj_is (some (.int (nI (gd_fm ln mn a i r j c)))) h n) := by
    intro hn
    refine pj_iconst (q := 72) (v := nI 2) (pj_d p_X11_findingOfMove 36 rfl) rfl (by decide) ?_
    refine pj_iret rfl (pj_d p_X11_findingOfMove 37 rfl) (by decide) (by decide) ?_
    exact ⟨by rw [gd_fm, e1, e2, if_pos e3, hn]; rfl, rfl, rfl⟩
  refine pj_ald0 (q := 39) (pj_d p_X11_findingOfMove 20 rfl) rfl ?_
  refine pj_gf (q := 42) (k := 0) (pj_d p_X11_findingOfMove 21 rfl) rfl kX11_10 (by assumption) (by rfl) (by rfl) ?_
  refine pj_ild1 (q := 43) (pj_d p_X11_findingOfMove 22 rfl) rfl ?_
  refine pj_ild2 (q := 44) (pj_d p_X11_findingOfMove 23 rfl) rfl ?_
  refine pj_ild5 (q := 46) (pj_d p_X11_findingOfMove 24 rfl) rfl ?_
  refine pj_cp (pj_rV (q := 49) (c_X5_hasPlaces hR hB a i c) (pj_d p_X11_findingOfMove 25 rfl) rfl kX11_289 o_X5_hasPlaces (by assumption) (by rfl) (by rfl) (by rfl) (by rfl) (Nat.le_of_ble_eq_true rfl) (by decide)) (by decide) (by decide) ?_
  refine pj_if_eq (t := 71) (q := 52) (pj_d p_X11_findingOfMove 26 rfl) rfl (by decide) (fun c4 => ?_) (fun c4 => ?_)
  · exact place (by rw [(gd_b_z _).mp c4]; rfl)
  refine pj_ald0 (q := 53) (pj_d p_X11_findingOfMove 27 rfl) rfl ?_
  refine pj_gf (q := 56) (k := 0) (pj_d p_X11_findingOfMove 28 rfl) rfl kX11_10 (by assumption) (by rfl) (by rfl) ?_
  refine pj_ild3 (q := 57) (pj_d p_X11_findingOfMove 29 rfl) rfl ?_
  refine pj_ild4 (q := 59) (pj_d p_X11_findingOfMove 30 rfl) rfl ?_
  refine pj_ild5 (q := 61) (pj_d p_X11_findingOfMove 31 rfl) rfl ?_
  refine pj_cp (pj_rV (q := 64) (c_X5_hasPlaces hR hB r j c) (pj_d p_X11_findingOfMove 32 rfl) rfl kX11_289 o_X5_hasPlaces (by assumption) (by rfl) (by rfl) (by rfl) (by rfl) (Nat.le_of_ble_eq_true rfl) (by decide)) (by decide) (by decide) ?_
  refine pj_if_eq (t := 71) (q := 67) (pj_d p_X11_findingOfMove 33 rfl) rfl (by decide) (fun c5 => ?_) (fun c5 => ?_)
  · exact place (by rw [(gd_b_z _).mp c5]; simp)
  · refine pj_iconst (q := 68) (v := nI 0) (pj_d p_X11_findingOfMove 34 rfl) rfl (by decide) ?_
    refine pj_goto (t := 72) (pj_d p_X11_findingOfMove 35 rfl) (by decide) ?_
    refine pj_iret rfl (pj_d p_X11_findingOfMove 37 rfl) (by decide) (by decide) ?_
    exact ⟨by rw [gd_fm, e1, e2, if_pos e3, (gd_b_n _).mp c4, (gd_b_n _).mp c5]; rfl, rfl, rfl⟩
theorem gd_PX_bad {v : Int32} {s : gd_S} (hx : h b = some (.inr (10, gd_XO b po lf s.1))) (hR : gd_RX h b s.2.1 s.2.2.1 s.2.2.2) {x : Int32 × gd_S} (e : x = (v, s)) : gd_PX x.1 x.2 h b po lf n (some (.int v)) h n := by
  subst e
  exact ⟨rfl, rfl, hx, hR, fun _ _ => rfl⟩
theorem gd_PX_fin {v k : Int32} {s : gd_S} (hR : gd_RX h b s.2.1 s.2.2.1 s.2.2.2) {x : Int32 × gd_S} (e : x = (v, (k, s.2))) : gd_PX x.1 x.2 h b po lf n (some (.int v)) (pj_up h b (.inr (10, gd_XO b po lf k))) n := by
  subst e
  exact ⟨rfl, rfl, pj_up_s, hR.out (fun q h1 h2 => pj_up_n (by omega)), fun q hq => pj_up_n (by omega)⟩
theorem c_X11_row {s : gd_S} (hx : h b = some (.inr (10, gd_XO b po lf s.1))) (hR : gd_RX h b s.2.1 s.2.2.1 s.2.2.2) (r x c : Int32) : pj_Ct E B l Y_X11_row 3 0 0 [.ref b, .int r, .int x, .int c] h n (gd_PX (sp_row r x c s).1 (sp_row r x c s).2 h b po lf n) := by
  refine pj_in rfl (ls := [some (.ref b), some (.int (r)), some (.int (x)), some (.int (c))]) rfl (Nat.le_of_ble_eq_true rfl) ?_
  have bad : (gd_rng r 0 7 && gd_rng x 0 2 && decide (c.toInt ≤ 40)) = false → pj_V E B l Y_X11_row 3 0 0 22 [some (.ref b), some (.int (r)), some (.int (x)), some (.int (c))] [] h n 0 0 (gd_PX (sp_row r x c s).1 (sp_row r x c s).2 h b po lf n) := by
    intro hn
    refine pj_ldc (q := 24) (pj_d p_X11_row 11 rfl) rfl kX11_47 ?_
    refine pj_iret rfl (pj_d p_X11_row 12 rfl) (by decide) (by decide) ?_
    exact gd_PX_bad hx hR (by rw [sp_row, hn]; rfl)
  refine pj_ild1 (q := 1) (pj_d p_X11_row 0 rfl) rfl ?_
  refine pj_cp (pj_rS (q := 4) (c_X5_isNumber r) (pj_d p_X11_row 1 rfl) rfl kX11_43 o_X5_isNumber (by rfl) (by rfl) (Nat.le_of_ble_eq_true rfl) (by decide)) (by decide) (by decide) ?_
  refine pj_if_eq (t := 22) (q := 7) (pj_d p_X11_row 2 rfl) rfl (by decide) (fun c1 => ?_) (fun c1 => ?_)
  · exact bad (by rw [(gd_b_z _).mp c1]; rfl)
  have e1 := (gd_b_n _).mp c1
  refine pj_ild2 (q := 8) (pj_d p_X11_row 3 rfl) rfl ?_
  refine pj_if_lt (t := 22) (q := 11) (pj_d p_X11_row 4 rfl) rfl (by decide) (fun c2 => ?_) (fun c2 => ?_)
  · exact bad (by rw [gd_rng_lo (x := x) (by decide) c2]; simp)
  refine pj_ild2 (q := 12) (pj_d p_X11_row 5 rfl) rfl ?_
  refine pj_iconst (q := 13) (v := nI 3) (pj_d p_X11_row 6 rfl) rfl (by decide) ?_
  refine pj_icmp_ge (t := 22) (q := 16) (pj_d p_X11_row 7 rfl) rfl (by decide) (fun c3 => ?_) (fun c3 => ?_)
  · exact bad (by rw [show gd_rng x 0 2 = false from gd_rng_ge (hi := 2) (by decide) c3]; simp)
  have e2 : gd_rng x 0 2 = true := gd_rng_in' (hi := 2) (by decide) c2 c3
  refine pj_ild3 (q := 17) (pj_d p_X11_row 8 rfl) rfl ?_
  refine pj_bipush (q := 19) (v := nI 40) (pj_d p_X11_row 9 rfl) rfl (by decide) ?_
  have e40 : (nI 40).toInt = 40 := by decide
  refine pj_icmp_le (t := 25) (q := 22) (pj_d p_X11_row 10 rfl) rfl (by decide) (fun c4 => ?_) (fun c4 => ?_)
  rotate_left
  · rw [Int32.le_iff_toInt_le, e40] at c4
    exact bad (by rw [decide_eq_false c4]; simp)
  rw [Int32.le_iff_toInt_le, e40] at c4
  have ok : (gd_rng r 0 7 && gd_rng x 0 2 && decide (c.toInt ≤ 40)) = true := by rw [e1, e2, decide_eq_true c4]; rfl
  obtain ⟨r', hr', rfl, hrc⟩ := gd_rng_of (hi := 7) e1
  have z0 : (0 : Int32).toInt = 0 := by decide
  refine pj_ald0 (q := 26) (pj_d p_X11_row 13 rfl) rfl ?_
  refine pj_ild3 (q := 27) (pj_d p_X11_row 14 rfl) rfl ?_
  refine pj_if_ge (t := 34) (q := 30) (pj_d p_X11_row 15 rfl) rfl (by decide) (fun c5 => ?_) (fun c5 => ?_)
  · rw [Int32.le_iff_toInt_le, z0] at c5
    have hsp : sp_row (nI r') x c s = (c, (nI 0, (fun q => if q = r' then x else s.2.1 q), (fun q => if q = r' then c.toNatClampNeg else s.2.2.1 q), (fun q i => if q = r' then nI 0 else s.2.2.2 q i))) := by
      rw [sp_row, ok, if_pos rfl, if_neg (by omega), hrc]
    obtain ⟨c', hc', rfl⟩ := nI_of (x := c) (by rw [Int32.lt_iff_toInt_lt, z0]; omega)
    rw [nI_toInt hc'] at c4
    rw [nI_clamp hc'] at hsp
    rw [hsp]
    refine pj_iconst (q := 35) (v := nI 0) (pj_d p_X11_row 18 rfl) rfl (by decide) ?_
    refine pj_cv (pj_rV (q := 38) (c_X11_finds hx (j := 0) (by omega)) (pj_d p_X11_row 19 rfl) rfl kX11_48 o_X11_finds (by assumption) (by rfl) (by rfl) (by rfl) (by rfl) (Nat.le_of_ble_eq_true rfl) (by decide)) (by decide) (by decide) ?_
    rintro r1 h1 n1 ⟨rfl, rfl, rfl⟩
    have hx1 : (pj_up h b (.inr (10, gd_XO b po lf (nI 0)))) b = some (.inr (10, gd_XO b po lf (nI 0))) := pj_up_s
    have hR1 : gd_RX (pj_up h b (.inr (10, gd_XO b po lf (nI 0)))) b s.2.1 s.2.2.1 s.2.2.2 := hR.out (fun q h1 h2 => pj_up_n (by omega))
    have R01 := hR1.1
    refine pj_if_eq (t := 46) (q := 41) (x := gd_b false) (pj_d p_X11_row 20 rfl) rfl (by decide) (fun _ => ?_) (fun z => absurd rfl z)
    refine pj_ald0 (q := 47) (pj_d p_X11_row 24 rfl) rfl ?_
    refine pj_gf (q := 50) (k := 0) (pj_d p_X11_row 25 rfl) rfl kX11_10 (by assumption) (by rfl) (by rfl) ?_
    refine pj_ild1 (q := 51) (pj_d p_X11_row 26 rfl) rfl ?_
    refine pj_ild2 (q := 52) (pj_d p_X11_row 27 rfl) rfl ?_
    refine pj_ild3 (q := 53) (pj_d p_X11_row 28 rfl) rfl ?_
    refine pj_cv (pj_rV (q := 56) (c_X5_make hR1 (r := r') (c := c') (by omega) (by omega) x) (pj_d p_X11_row 29 rfl) rfl kX11_55 o_X5_make (by assumption) (by rfl) (by rfl) (by rfl) (by rfl) (Nat.le_of_ble_eq_true rfl) (by decide)) (by decide) (by decide) ?_
    rintro r2 h2 n2 ⟨rfl, rfl, hR2, hq2⟩
    refine pj_ild3 (q := 57) (pj_d p_X11_row 30 rfl) rfl ?_
    refine pj_iret rfl (pj_d p_X11_row 31 rfl) (by decide) (by decide) ?_
    exact ⟨rfl, rfl, by rw [hq2 b (by omega)]; exact hx1, hR2, fun q hq => by rw [hq2 q (by omega), pj_up_n (by omega)]⟩
  · rw [Int32.le_iff_toInt_le, z0] at c5
    refine pj_iconst (q := 31) (v := nI 4) (pj_d p_X11_row 16 rfl) rfl (by decide) ?_
    refine pj_goto (t := 35) (pj_d p_X11_row 17 rfl) (by decide) ?_
    refine pj_cv (pj_rV (q := 38) (c_X11_finds hx (j := 4) (by omega)) (pj_d p_X11_row 19 rfl) rfl kX11_48 o_X11_finds (by assumption) (by rfl) (by rfl) (by rfl) (by rfl) (Nat.le_of_ble_eq_true rfl) (by decide)) (by decide) (by decide) ?_
    rintro r1 h1 n1 ⟨rfl, rfl, rfl⟩
    have hx1 : (pj_up h b (.inr (10, gd_XO b po lf (nI 4)))) b = some (.inr (10, gd_XO b po lf (nI 4))) := pj_up_s
    refine pj_if_eq (t := 46) (q := 41) (x := gd_b true) (pj_d p_X11_row 20 rfl) rfl (by decide) (fun z => absurd z (by decide)) (fun _ => ?_)
    refine pj_ald0 (q := 42) (pj_d p_X11_row 21 rfl) rfl ?_
    refine pj_cp (pj_rV (q := 45) (c_X11_finding hx1) (pj_d p_X11_row 22 rfl) rfl kX11_51 o_X11_finding (by assumption) (by rfl) (by rfl) (by rfl) (by rfl) (Nat.le_of_ble_eq_true rfl) (by decide)) (by decide) (by decide) ?_
    refine pj_iret rfl (pj_d p_X11_row 23 rfl) (by decide) (by decide) ?_
    exact gd_PX_fin hR (by rw [sp_row, ok, if_pos rfl, if_pos (by omega)]; rfl)
theorem c_X11_set {s : gd_S} (hx : h b = some (.inr (10, gd_XO b po lf s.1))) (hR : gd_RX h b s.2.1 s.2.2.1 s.2.2.2) (hB : gd_RB s.2.1 s.2.2.1) (r i x : Int32) : pj_Ct E B l Y_X11_set 5 0 0 [.ref b, .int r, .int i, .int x] h n (gd_PX (sp_set r i x s).1 (sp_set r i x s).2 h b po lf n) := by
  refine pj_in rfl (ls := [some (.ref b), some (.int (r)), some (.int (i)), some (.int (x))]) rfl (Nat.le_of_ble_eq_true rfl) ?_
  refine pj_ild1 (q := 1) (pj_d p_X11_set 0 rfl) rfl ?_
  refine pj_cp (pj_rS (q := 4) (c_X5_isNumber r) (pj_d p_X11_set 1 rfl) rfl kX11_43 o_X5_isNumber (by rfl) (by rfl) (Nat.le_of_ble_eq_true rfl) (by decide)) (by decide) (by decide) ?_
  refine pj_if_ne (t := 10) (q := 7) (pj_d p_X11_set 2 rfl) rfl (by decide) (fun c1 => ?_) (fun c1 => ?_)
  rotate_left
  · refine pj_ldc (q := 9) (pj_d p_X11_set 3 rfl) rfl kX11_47 ?_
    refine pj_iret rfl (pj_d p_X11_set 4 rfl) (by decide) (by decide) ?_
    exact gd_PX_bad hx hR (by rw [sp_set, (gd_b_z _).mp c1]; rfl)
  have e1 := (gd_b_n _).mp c1
  refine pj_ald0 (q := 11) (pj_d p_X11_set 5 rfl) rfl ?_
  refine pj_ald0 (q := 12) (pj_d p_X11_set 6 rfl) rfl ?_
  refine pj_ild1 (q := 13) (pj_d p_X11_set 7 rfl) rfl ?_
  refine pj_ild2 (q := 14) (pj_d p_X11_set 8 rfl) rfl ?_
  refine pj_iconst (q := 15) (v := nI 1) (pj_d p_X11_set 9 rfl) rfl (by decide) ?_
  refine pj_cp (pj_rV (q := 18) (c_X11_findingOfPlaces hx hR hB r i (nI 1)) (pj_d p_X11_set 10 rfl) rfl kX11_59 o_X11_findingOfPlaces (by assumption) (by rfl) (by rfl) (by rfl) (by rfl) (Nat.le_of_ble_eq_true rfl) (by decide)) (by decide) (by decide) ?_
  by_cases ht : gd_th s.2.1 r = true
  · by_cases hp : gd_hp s.2.1 s.2.2.1 r i (nI 1) = true
    · rw [show gd_fp s.2.1 s.2.2.1 r i (nI 1) = 0 by rw [gd_fp, if_pos ht, if_pos hp]]
      obtain ⟨r', i', m', hr, rfl, hrc, rfl, hic, -, -, hle, h40, -⟩ := gd_hp_of hB hp
      have hm1 : 1 ≤ 40 := by omega
      have hi : i' < 40 := by
        rw [gd_hp, Bool.and_eq_true, decide_eq_true_eq, hrc] at hp
        have e1 : (nI 1).toInt = 1 := by decide
        have hi0 : i' < 2 ^ 31 := by omega
        rw [nI_toInt hi0, e1] at hp
        omega
      refine pj_cv (pj_rV (q := 21) (c_X11_finds hx (j := 0) (by omega)) (pj_d p_X11_set 11 rfl) rfl kX11_48 o_X11_finds (by assumption) (by rfl) (by rfl) (by rfl) (by rfl) (Nat.le_of_ble_eq_true rfl) (by decide)) (by decide) (by decide) ?_
      rintro r1 h1 n1 ⟨rfl, rfl, rfl⟩
      have hx1 : (pj_up h b (.inr (10, gd_XO b po lf (nI 0)))) b = some (.inr (10, gd_XO b po lf (nI 0))) := pj_up_s
      have hR1 : gd_RX (pj_up h b (.inr (10, gd_XO b po lf (nI 0)))) b s.2.1 s.2.2.1 s.2.2.2 := hR.out (fun q h1 h2 => pj_up_n (by omega))
      have R01 := hR1.1
      refine pj_if_eq (t := 29) (q := 24) (x := gd_b false) (pj_d p_X11_set 12 rfl) rfl (by decide) (fun _ => ?_) (fun z => absurd rfl z)
      refine pj_ald0 (q := 30) (pj_d p_X11_set 16 rfl) rfl ?_
      refine pj_gf (q := 33) (k := 0) (pj_d p_X11_set 17 rfl) rfl kX11_10 (by assumption) (by rfl) (by rfl) ?_
      refine pj_ild1 (q := 34) (pj_d p_X11_set 18 rfl) rfl ?_
      refine pj_ild2 (q := 35) (pj_d p_X11_set 19 rfl) rfl ?_
      refine pj_ild3 (q := 36) (pj_d p_X11_set 20 rfl) rfl ?_
      refine pj_cv (pj_rV (q := 39) (c_X5_put hR1 hB hp hr hi x) (pj_d p_X11_set 21 rfl) rfl kX11_63 o_X5_put (by assumption) (by rfl) (by rfl) (by rfl) (by rfl) (Nat.le_of_ble_eq_true rfl) (by decide)) (by decide) (by decide) ?_
      rintro r2 h2 n2 ⟨rfl, rfl, hR2, hq2⟩
      refine pj_iret rfl (pj_d p_X11_set 22 rfl) (by decide) (by decide) ?_
      have hsp : sp_set (nI r') (nI i') x s = (gd_cut (s.2.1 r') x, (nI 0, s.2.1, s.2.2.1, (fun q z => if q = r' ∧ z = i' then gd_cut (s.2.1 r') x else s.2.2.2 q z))) := by rw [sp_set, if_pos e1, if_pos ht, if_pos hp, hrc, hic]
      rw [hsp]
      exact ⟨rfl, rfl, by rw [hq2 b (by omega)]; exact hx1, hR2, fun q hq => by rw [hq2 q (by omega), pj_up_n (by omega)]⟩
    · rw [show gd_fp s.2.1 s.2.2.1 r i (nI 1) = 2 by rw [gd_fp, if_pos ht, if_neg hp]]
      refine pj_cv (pj_rV (q := 21) (c_X11_finds hx (j := 2) (by omega)) (pj_d p_X11_set 11 rfl) rfl kX11_48 o_X11_finds (by assumption) (by rfl) (by rfl) (by rfl) (by rfl) (Nat.le_of_ble_eq_true rfl) (by decide)) (by decide) (by decide) ?_
      rintro r1 h1 n1 ⟨rfl, rfl, rfl⟩
      have hx1 : (pj_up h b (.inr (10, gd_XO b po lf (nI 2)))) b = some (.inr (10, gd_XO b po lf (nI 2))) := pj_up_s
      refine pj_if_eq (t := 29) (q := 24) (x := gd_b true) (pj_d p_X11_set 12 rfl) rfl (by decide) (fun z => absurd z (by decide)) (fun _ => ?_)
      refine pj_ald0 (q := 25) (pj_d p_X11_set 13 rfl) rfl ?_
      refine pj_cp (pj_rV (q := 28) (c_X11_finding hx1) (pj_d p_X11_set 14 rfl) rfl kX11_51 o_X11_finding (by assumption) (by rfl) (by rfl) (by rfl) (by rfl) (Nat.le_of_ble_eq_true rfl) (by decide)) (by decide) (by decide) ?_
      refine pj_iret rfl (pj_d p_X11_set 15 rfl) (by decide) (by decide) ?_
      exact gd_PX_fin hR (by rw [sp_set, if_pos e1, if_pos ht, if_neg hp]; rfl)
  · rw [show gd_fp s.2.1 s.2.2.1 r i (nI 1) = 1 by rw [gd_fp, if_neg ht]]
    refine pj_cv (pj_rV (q := 21) (c_X11_finds hx (j := 1) (by omega)) (pj_d p_X11_set 11 rfl) rfl kX11_48 o_X11_finds (by assumption) (by rfl) (by rfl) (by rfl) (by rfl) (Nat.le_of_ble_eq_true rfl) (by decide)) (by decide) (by decide) ?_
    rintro r1 h1 n1 ⟨rfl, rfl, rfl⟩
    have hx1 : (pj_up h b (.inr (10, gd_XO b po lf (nI 1)))) b = some (.inr (10, gd_XO b po lf (nI 1))) := pj_up_s
    refine pj_if_eq (t := 29) (q := 24) (x := gd_b true) (pj_d p_X11_set 12 rfl) rfl (by decide) (fun z => absurd z (by decide)) (fun _ => ?_)
    refine pj_ald0 (q := 25) (pj_d p_X11_set 13 rfl) rfl ?_
    refine pj_cp (pj_rV (q := 28) (c_X11_finding hx1) (pj_d p_X11_set 14 rfl) rfl kX11_51 o_X11_finding (by assumption) (by rfl) (by rfl) (by rfl) (by rfl) (Nat.le_of_ble_eq_true rfl) (by decide)) (by decide) (by decide) ?_
    refine pj_iret rfl (pj_d p_X11_set 15 rfl) (by decide) (by decide) ?_
    exact gd_PX_fin hR (by rw [sp_set, if_pos e1, if_neg ht]; rfl)
theorem c_X11_drop {s : gd_S} (hx : h b = some (.inr (10, gd_XO b po lf s.1))) (hR : gd_RX h b s.2.1 s.2.2.1 s.2.2.2) (r : Int32) : pj_Ct E B l Y_X11_drop 4 0 0 [.ref b, .int r] h n (gd_PX (sp_drop r s).1 (sp_drop r s).2 h b po lf n) := by
  have R0 := hR.1
  refine pj_in rfl (ls := [some (.ref b), some (.int (r))]) rfl (Nat.le_of_ble_eq_true rfl) ?_
  refine pj_ild1 (q := 1) (pj_d p_X11_drop 0 rfl) rfl ?_
  refine pj_cp (pj_rS (q := 4) (c_X5_isNumber r) (pj_d p_X11_drop 1 rfl) rfl kX11_43 o_X5_isNumber (by rfl) (by rfl) (Nat.le_of_ble_eq_true rfl) (by decide)) (by decide) (by decide) ?_
  refine pj_if_ne (t := 10) (q := 7) (pj_d p_X11_drop 2 rfl) rfl (by decide) (fun c1 => ?_) (fun c1 => ?_)
  rotate_left
  · refine pj_ldc (q := 9) (pj_d p_X11_drop 3 rfl) rfl kX11_47 ?_
    refine pj_iret rfl (pj_d p_X11_drop 4 rfl) (by decide) (by decide) ?_
    exact gd_PX_bad hx hR (by rw [sp_drop, (gd_b_z _).mp c1]; rfl)
  have e1 := (gd_b_n _).mp c1
  refine pj_ald0 (q := 11) (pj_d p_X11_drop 5 rfl) rfl ?_
  refine pj_ald0 (q := 12) (pj_d p_X11_drop 6 rfl) rfl ?_
  refine pj_gf (q := 15) (k := 0) (pj_d p_X11_drop 7 rfl) rfl kX11_10 (by assumption) (by rfl) (by rfl) ?_
  refine pj_ild1 (q := 16) (pj_d p_X11_drop 8 rfl) rfl ?_
  refine pj_cp (pj_rV (q := 19) (c_X5_isThere hR r) (pj_d p_X11_drop 9 rfl) rfl kX11_74 o_X5_isThere (by assumption) (by rfl) (by rfl) (by rfl) (by rfl) (Nat.le_of_ble_eq_true rfl) (by decide)) (by decide) (by decide) ?_
  refine pj_if_eq (t := 26) (q := 22) (pj_d p_X11_drop 10 rfl) rfl (by decide) (fun c2 => ?_) (fun c2 => ?_)
  · have e2 := (gd_b_z _).mp c2
    refine pj_iconst (q := 27) (v := nI 1) (pj_d p_X11_drop 13 rfl) rfl (by decide) ?_
    refine pj_cv (pj_rV (q := 30) (c_X11_finds hx (j := 1) (by omega)) (pj_d p_X11_drop 14 rfl) rfl kX11_48 o_X11_finds (by assumption) (by rfl) (by rfl) (by rfl) (by rfl) (Nat.le_of_ble_eq_true rfl) (by decide)) (by decide) (by decide) ?_
    rintro r1 h1 n1 ⟨rfl, rfl, rfl⟩
    have hx1 : (pj_up h b (.inr (10, gd_XO b po lf (nI 1)))) b = some (.inr (10, gd_XO b po lf (nI 1))) := pj_up_s
    refine pj_if_eq (t := 38) (q := 33) (x := gd_b true) (pj_d p_X11_drop 15 rfl) rfl (by decide) (fun z => absurd z (by decide)) (fun _ => ?_)
    refine pj_ald0 (q := 34) (pj_d p_X11_drop 16 rfl) rfl ?_
    refine pj_cp (pj_rV (q := 37) (c_X11_finding hx1) (pj_d p_X11_drop 17 rfl) rfl kX11_51 o_X11_finding (by assumption) (by rfl) (by rfl) (by rfl) (by rfl) (Nat.le_of_ble_eq_true rfl) (by decide)) (by decide) (by decide) ?_
    refine pj_iret rfl (pj_d p_X11_drop 18 rfl) (by decide) (by decide) ?_
    exact gd_PX_fin hR (by rw [sp_drop, if_pos e1, e2]; rfl)
  · have e2 := (gd_b_n _).mp c2
    obtain ⟨r', hr, rfl, hrc, -⟩ := gd_th_of e2
    refine pj_iconst (q := 23) (v := nI 0) (pj_d p_X11_drop 11 rfl) rfl (by decide) ?_
    refine pj_goto (t := 27) (pj_d p_X11_drop 12 rfl) (by decide) ?_
    refine pj_cv (pj_rV (q := 30) (c_X11_finds hx (j := 0) (by omega)) (pj_d p_X11_drop 14 rfl) rfl kX11_48 o_X11_finds (by assumption) (by rfl) (by rfl) (by rfl) (by rfl) (Nat.le_of_ble_eq_true rfl) (by decide)) (by decide) (by decide) ?_
    rintro r1 h1 n1 ⟨rfl, rfl, rfl⟩
    have hx1 : (pj_up h b (.inr (10, gd_XO b po lf (nI 0)))) b = some (.inr (10, gd_XO b po lf (nI 0))) := pj_up_s
    have hR1 : gd_RX (pj_up h b (.inr (10, gd_XO b po lf (nI 0)))) b s.2.1 s.2.2.1 s.2.2.2 := hR.out (fun q h1 h2 => pj_up_n (by omega))
    have R01 := hR1.1
    refine pj_if_eq (t := 38) (q := 33) (x := gd_b false) (pj_d p_X11_drop 15 rfl) rfl (by decide) (fun _ => ?_) (fun z => absurd rfl z)
    refine pj_ald0 (q := 39) (pj_d p_X11_drop 19 rfl) rfl ?_
    refine pj_gf (q := 42) (k := 0) (pj_d p_X11_drop 20 rfl) rfl kX11_10 (by assumption) (by rfl) (by rfl) ?_
    refine pj_ild1 (q := 43) (pj_d p_X11_drop 21 rfl) rfl ?_
    refine pj_cv (pj_rV (q := 46) (c_X5_remove hR1 hr e2) (pj_d p_X11_drop 22 rfl) rfl kX11_77 o_X5_remove (by assumption) (by rfl) (by rfl) (by rfl) (by rfl) (Nat.le_of_ble_eq_true rfl) (by decide)) (by decide) (by decide) ?_
    rintro r2 h2 n2 ⟨rfl, rfl, hR2, hq2⟩
    refine pj_iret rfl (pj_d p_X11_drop 23 rfl) (by decide) (by decide) ?_
    have hsp : sp_drop (nI r') s = (nI (s.2.2.1 r'), (nI 0, (fun q => if q = r' then -1 else s.2.1 q), s.2.2)) := by rw [sp_drop, if_pos e1, if_pos e2, hrc]
    rw [hsp]
    exact ⟨rfl, rfl, by rw [hq2 b (by omega)]; exact hx1, hR2, fun q hq => by rw [hq2 q (by omega), pj_up_n (by omega)]⟩
theorem c_X11_copy {s : gd_S} (hx : h b = some (.inr (10, gd_XO b po lf s.1))) (hR : gd_RX h b s.2.1 s.2.2.1 s.2.2.2) (hB : gd_RB s.2.1 s.2.2.1) (a i r j c : Int32) : pj_Ct E B l Y_X11_copy 5 0 0 [.ref b, .int a, .int i, .int r, .int j, .int c] h n (gd_PX (sp_copy a i r j c s).1 (sp_copy a i r j c s).2 h b po lf n) := by
  refine pj_in rfl (ls := [some (.ref b), some (.int (a)), some (.int (i)), some (.int (r)), some (.int (j)), some (.int (c))]) rfl (Nat.le_of_ble_eq_true rfl) ?_
  have bad : (gd_rng a 0 7 && gd_rng r 0 7) = false → pj_V E B l Y_X11_copy 5 0 0 14 [some (.ref b), some (.int (a)), some (.int (i)), some (.int (r)), some (.int (j)), some (.int (c))] [] h n 0 0 (gd_PX (sp_copy a i r j c s).1 (sp_copy a i r j c s).2 h b po lf n) := by
    intro hn
    refine pj_ldc (q := 16) (pj_d p_X11_copy 6 rfl) rfl kX11_47 ?_
    refine pj_iret rfl (pj_d p_X11_copy 7 rfl) (by decide) (by decide) ?_
    exact gd_PX_bad hx hR (by rw [sp_copy, hn]; rfl)
  refine pj_ild1 (q := 1) (pj_d p_X11_copy 0 rfl) rfl ?_
  refine pj_cp (pj_rS (q := 4) (c_X5_isNumber a) (pj_d p_X11_copy 1 rfl) rfl kX11_43 o_X5_isNumber (by rfl) (by rfl) (Nat.le_of_ble_eq_true rfl) (by decide)) (by decide) (by decide) ?_
  refine pj_if_eq (t := 14) (q := 7) (pj_d p_X11_copy 2 rfl) rfl (by decide) (fun c1 => ?_) (fun c1 => ?_)
  · exact bad (by rw [(gd_b_z _).mp c1]; rfl)
  refine pj_ild3 (q := 8) (pj_d p_X11_copy 3 rfl) rfl ?_
  refine pj_cp (pj_rS (q := 11) (c_X5_isNumber r) (pj_d p_X11_copy 4 rfl) rfl kX11_43 o_X5_isNumber (by rfl) (by rfl) (Nat.le_of_ble_eq_true rfl) (by decide)) (by decide) (by decide) ?_
  refine pj_if_ne (t := 17) (q := 14) (pj_d p_X11_copy 5 rfl) rfl (by decide) (fun c2 => ?_) (fun c2 => ?_)
  rotate_left
  · exact bad (by rw [(gd_b_z _).mp c2]; simp)
  have ok : (gd_rng a 0 7 && gd_rng r 0 7) = true := by rw [(gd_b_n _).mp c1, (gd_b_n _).mp c2]; rfl
  have fnd : ∀ k, 0 < k → k < 10 → sp_copy a i r j c s = (-1000010 - nI k, (nI k, s.2)) → pj_V E B l Y_X11_copy 5 0 0 29 [some (.ref b), some (.int (a)), some (.int (i)), some (.int (r)), some (.int (j)), some (.int (c))] [.int (nI k), .ref b] h n 0 0 (gd_PX (sp_copy a i r j c s).1 (sp_copy a i r j c s).2 h b po lf n) := by
    intro k hk0 hk hsp
    refine pj_cv (pj_rV (q := 32) (c_X11_finds hx (j := k) hk) (pj_d p_X11_copy 16 rfl) rfl kX11_48 o_X11_finds (by assumption) (by rfl) (by rfl) (by rfl) (by rfl) (Nat.le_of_ble_eq_true rfl) (by decide)) (by decide) (by decide) ?_
    rintro r1 h1 n1 ⟨rfl, rfl, rfl⟩
    have hx1 : (pj_up h b (.inr (10, gd_XO b po lf (nI k)))) b = some (.inr (10, gd_XO b po lf (nI k))) := pj_up_s
    rw [show (!decide (k = 0)) = true by simp; omega]
    refine pj_if_eq (t := 40) (q := 35) (x := gd_b true) (pj_d p_X11_copy 17 rfl) rfl (by decide) (fun z => absurd z (by decide)) (fun _ => ?_)
    refine pj_ald0 (q := 36) (pj_d p_X11_copy 18 rfl) rfl ?_
    refine pj_cp (pj_rV (q := 39) (c_X11_finding hx1) (pj_d p_X11_copy 19 rfl) rfl kX11_51 o_X11_finding (by assumption) (by rfl) (by rfl) (by rfl) (by rfl) (Nat.le_of_ble_eq_true rfl) (by decide)) (by decide) (by decide) ?_
    refine pj_iret rfl (pj_d p_X11_copy 20 rfl) (by decide) (by decide) ?_
    exact gd_PX_fin hR hsp
  refine pj_ald0 (q := 18) (pj_d p_X11_copy 8 rfl) rfl ?_
  refine pj_ald0 (q := 19) (pj_d p_X11_copy 9 rfl) rfl ?_
  refine pj_ild1 (q := 20) (pj_d p_X11_copy 10 rfl) rfl ?_
  refine pj_ild2 (q := 21) (pj_d p_X11_copy 11 rfl) rfl ?_
  refine pj_ild3 (q := 22) (pj_d p_X11_copy 12 rfl) rfl ?_
  refine pj_ild4 (q := 24) (pj_d p_X11_copy 13 rfl) rfl ?_
  refine pj_ild5 (q := 26) (pj_d p_X11_copy 14 rfl) rfl ?_
  refine pj_cp (pj_rV (q := 29) (c_X11_findingOfMove hx hR hB a i r j c) (pj_d p_X11_copy 15 rfl) rfl kX11_66 o_X11_findingOfMove (by assumption) (by rfl) (by rfl) (by rfl) (by rfl) (Nat.le_of_ble_eq_true rfl) (by decide)) (by decide) (by decide) ?_
  by_cases ht : (gd_th s.2.1 a && gd_th s.2.1 r) = true
  rotate_left
  · rw [show gd_fm s.2.1 s.2.2.1 a i r j c = 1 by rw [gd_fm, if_neg ht]]
    exact fnd 1 (by omega) (by omega) (by rw [sp_copy, if_pos ok, if_neg ht]; rfl)
  by_cases hl : s.2.1 a.toNatClampNeg = s.2.1 r.toNatClampNeg
  rotate_left
  · rw [show gd_fm s.2.1 s.2.2.1 a i r j c = 5 by rw [gd_fm, if_pos ht, if_neg hl]]
    exact fnd 5 (by omega) (by omega) (by rw [sp_copy, if_pos ok, if_pos ht, if_neg hl]; rfl)
  by_cases hp : (gd_hp s.2.1 s.2.2.1 a i c && gd_hp s.2.1 s.2.2.1 r j c) = true
  rotate_left
  · rw [show gd_fm s.2.1 s.2.2.1 a i r j c = 2 by rw [gd_fm, if_pos ht, if_pos hl, if_neg hp]]
    exact fnd 2 (by omega) (by omega) (by rw [sp_copy, if_pos ok, if_pos ht, if_pos hl, if_neg hp]; rfl)
  rw [show gd_fm s.2.1 s.2.2.1 a i r j c = 0 by rw [gd_fm, if_pos ht, if_pos hl, if_pos hp]]
  have hp2 := hp
  rw [Bool.and_eq_true] at hp2
  obtain ⟨p1, p2⟩ := hp2
  obtain ⟨a', i', c', ha, rfl, hac, rfl, hic, rfl, hcc, hle1, h401, -⟩ := gd_hp_of hB p1
  obtain ⟨r', j', c2', hr, rfl, hrc, rfl, hjc, hce, hcc2, hle2, h402, -⟩ := gd_hp_of hB p2
  have hcc3 : c2' = c' := by omega
  subst hcc3
  refine pj_cv (pj_rV (q := 32) (c_X11_finds hx (j := 0) (by omega)) (pj_d p_X11_copy 16 rfl) rfl kX11_48 o_X11_finds (by assumption) (by rfl) (by rfl) (by rfl) (by rfl) (Nat.le_of_ble_eq_true rfl) (by decide)) (by decide) (by decide) ?_
  rintro r1 h1 n1 ⟨rfl, rfl, rfl⟩
  have hx1 : (pj_up h b (.inr (10, gd_XO b po lf (nI 0)))) b = some (.inr (10, gd_XO b po lf (nI 0))) := pj_up_s
  have hR1 : gd_RX (pj_up h b (.inr (10, gd_XO b po lf (nI 0)))) b s.2.1 s.2.2.1 s.2.2.2 := hR.out (fun q h1 h2 => pj_up_n (by omega))
  have R01 := hR1.1
  refine pj_if_eq (t := 40) (q := 35) (x := gd_b false) (pj_d p_X11_copy 17 rfl) rfl (by decide) (fun _ => ?_) (fun z => absurd rfl z)
  refine pj_ald0 (q := 41) (pj_d p_X11_copy 21 rfl) rfl ?_
  refine pj_gf (q := 44) (k := 0) (pj_d p_X11_copy 22 rfl) rfl kX11_10 (by assumption) (by rfl) (by rfl) ?_
  refine pj_ild1 (q := 45) (pj_d p_X11_copy 23 rfl) rfl ?_
  refine pj_ild2 (q := 46) (pj_d p_X11_copy 24 rfl) rfl ?_
  refine pj_ild3 (q := 47) (pj_d p_X11_copy 25 rfl) rfl ?_
  refine pj_ild4 (q := 49) (pj_d p_X11_copy 26 rfl) rfl ?_
  refine pj_ild5 (q := 51) (pj_d p_X11_copy 27 rfl) rfl ?_
  refine pj_cv (pj_rV (q := 54) (c_X5_move hR1 hB ha hr p1 p2 (by omega) (by omega)) (pj_d p_X11_copy 28 rfl) rfl kX11_70 o_X5_move (by assumption) (by rfl) (by rfl) (by rfl) (by rfl) (Nat.le_of_ble_eq_true rfl) (by decide)) (by decide) (by decide) ?_
  rintro r2 h2 n2 ⟨rfl, rfl, hR2, hq2⟩
  refine pj_ild5 (q := 56) (pj_d p_X11_copy 29 rfl) rfl ?_
  refine pj_iret rfl (pj_d p_X11_copy 30 rfl) (by decide) (by decide) ?_
  have hsp : sp_copy (nI a') (nI i') (nI r') (nI j') (nI c2') s = (nI c2', (nI 0, s.2.1, s.2.2.1, (fun q z => if q = r' ∧ j' ≤ z ∧ z < j' + c2' then s.2.2.2 a' (i' + (z - j')) else s.2.2.2 q z))) := by rw [sp_copy, if_pos ok, if_pos ht, if_pos hl, if_pos hp, hac, hic, hrc, hjc, hcc]
  rw [hsp]
  exact ⟨rfl, rfl, by rw [hq2 b (by omega)]; exact hx1, hR2, fun q hq => by rw [hq2 q (by omega), pj_up_n (by omega)]⟩
end
