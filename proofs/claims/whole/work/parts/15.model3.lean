/-! ===== the model: public calls that only read ===== -/
def gd_MR (h : pj_H) (g : Nat) (v : Nat → Int32) (τ : Nat → Nat) : Prop := h g = some (.inr (11, gd_Mo g v)) ∧ h (g + 4) = some (.inl (0, 56, .inl (fun j => nI (τ j)))) ∧ v 0 = nI 0 ∧ gd_W τ ∧ τ 0 ≤ 1
theorem gd_dec_f {p : Prop} [Decidable p] (h : gd_b (decide p) = 0) : ¬ p := of_decide_eq_false ((gd_b_z _).mp h)
theorem gd_dec_t {p : Prop} [Decidable p] (h : ¬ gd_b (decide p) = 0) : p := of_decide_eq_true ((gd_b_n _).mp h)
section
variable {E : pj_E} {B : Nat} {l : Launch} {h : pj_H} {n g : Nat} {τ : Nat → Nat} {v : Nat → Int32}
theorem c_X12_missing (hR : gd_MR h g v τ) (w : Int32) : pj_Ct E B l Y_X12_missing 2 0 0 [.ref g, .int w] h n (pj_is (some (.int (sp_missing τ w))) h n) := by
  obtain ⟨hM, hT, hv, hW, h1⟩ := hR
  refine pj_in rfl (ls := [some (.ref g), some (.int (w))]) rfl (Nat.le_of_ble_eq_true rfl) ?_
  refine gd_thr (pj_d p_X12_missing 0 rfl) (pj_d p_X12_missing 1 rfl) (pj_d p_X12_missing 2 rfl) rfl hM hv ?_
  have fin : ∀ x, x = sp_missing τ w → pj_V E B l Y_X12_missing 2 0 0 42 [some (.ref g), some (.int (w))] [.int x] h n 0 0 (pj_is (some (.int (sp_missing τ w))) h n) := by
    intro x hx
    subst hx
    refine pj_iret rfl (pj_d p_X12_missing 22 rfl) (by decide) (by decide) ?_
    exact ⟨rfl, rfl, rfl⟩
  refine pj_ald0 (q := 6) (pj_d p_X12_missing 3 rfl) rfl ?_
  refine pj_cp (pj_rV (q := 9) (c_X12_isThere hM hT h1) (pj_d p_X12_missing 4 rfl) rfl kX12_176 o_X12_isThere (by assumption) (by rfl) (by rfl) (by rfl) (by rfl) (Nat.le_of_ble_eq_true rfl) (by decide)) (by decide) (by decide) ?_
  refine pj_if_ne (t := 17) (q := 12) (pj_d p_X12_missing 5 rfl) rfl (by decide) (fun c1 => ?_) (fun c1 => ?_)
  · have ht := gd_dec_t c1
    refine pj_ild1 (q := 18) (pj_d p_X12_missing 8 rfl) rfl ?_
    refine pj_i2l (q := 19) (pj_d p_X12_missing 9 rfl) rfl ?_
    refine pj_lconst (q := 20) (v := lN 0) (pj_d p_X12_missing 10 rfl) rfl (by decide) ?_
    refine pj_ldc2 (q := 23) (pj_d p_X12_missing 11 rfl) rfl kX12_187 ?_
    refine pj_cp (pj_rS (q := 26) (c_X12_in w (lN 0) 6 0 6 (by decide) (by decide)) (pj_d p_X12_missing 12 rfl) rfl kX12_57 o_X12_in (by rfl) (by rfl) (Nat.le_of_ble_eq_true rfl) (by decide)) (by decide) (by decide) ?_
    refine pj_if_eq (t := 40) (q := 29) (pj_d p_X12_missing 13 rfl) rfl (by decide) (fun c2 => ?_) (fun c2 => ?_)
    · have e := (gd_b_z _).mp c2
      refine pj_ldc (q := 42) (pj_d p_X12_missing 21 rfl) rfl kX12_67 ?_
      exact fin _ (by simp [sp_missing, ht, e])
    · have e := (gd_b_n _).mp c2
      obtain ⟨j, hj, rfl, hc⟩ := gd_rng_of (hi := 6) e
      refine pj_ald0 (q := 30) (pj_d p_X12_missing 14 rfl) rfl ?_
      refine pj_gf (q := 33) (k := 5) (pj_d p_X12_missing 15 rfl) rfl kX12_19 (by assumption) (by rfl) (by rfl) ?_
      refine pj_iconst (q := 34) (v := nI 4) (pj_d p_X12_missing 16 rfl) rfl (by decide) ?_
      refine pj_ild1 (q := 35) (pj_d p_X12_missing 17 rfl) rfl ?_
      refine pj_iadd (q := 36) (pj_d p_X12_missing 18 rfl) rfl ?_
      rw [nI_add]
      refine pj_ialdN (q := 37) (pj_d p_X12_missing 19 rfl) rfl (by assumption) (by rfl) (by first | assumption | omega) (Nat.le_of_ble_eq_true rfl) ?_
      refine pj_goto (t := 42) (pj_d p_X12_missing 20 rfl) (by decide) ?_
      exact fin _ (by simp [sp_missing, ht, e, hc])
  · have ht := gd_dec_f c1
    refine pj_ldc (q := 14) (pj_d p_X12_missing 6 rfl) rfl kX12_179 ?_
    refine pj_goto (t := 42) (pj_d p_X12_missing 7 rfl) (by decide) ?_
    exact fin _ (by simp [sp_missing, ht])
theorem c_X12_look (hR : gd_MR h g v τ) (t st : Int32) : pj_Ct E B l Y_X12_look 3 0 0 [.ref g, .int t, .int st] h n (pj_is (some (.int (sp_look τ t st))) h n) := by
  obtain ⟨hM, hT, hv, hW, h1⟩ := hR
  refine pj_in rfl (ls := [some (.ref g), some (.int (t)), some (.int (st))]) rfl (Nat.le_of_ble_eq_true rfl) ?_
  refine gd_thr (pj_d p_X12_look 0 rfl) (pj_d p_X12_look 1 rfl) (pj_d p_X12_look 2 rfl) rfl hM hv ?_
  have bad : (gd_has τ t && gd_rng st 0 31) = false → pj_V E B l Y_X12_look 3 0 0 34 [some (.ref g), some (.int (t)), some (.int (st))] [] h n 0 0 (pj_is (some (.int (sp_look τ t st))) h n) := by
    intro hx
    refine pj_ldc (q := 36) (pj_d p_X12_look 18 rfl) rfl kX12_67 ?_
    refine pj_iret rfl (pj_d p_X12_look 19 rfl) (by decide) (by decide) ?_
    exact ⟨by rw [sp_look, hx]; rfl, rfl, rfl⟩
  refine pj_ald0 (q := 6) (pj_d p_X12_look 3 rfl) rfl ?_
  refine pj_ild1 (q := 7) (pj_d p_X12_look 4 rfl) rfl ?_
  refine pj_cp (pj_rV (q := 10) (c_X12_isThing hM hT hW.1 t) (pj_d p_X12_look 5 rfl) rfl kX12_153 o_X12_isThing (by assumption) (by rfl) (by rfl) (by rfl) (by rfl) (Nat.le_of_ble_eq_true rfl) (by decide)) (by decide) (by decide) ?_
  refine pj_if_eq (t := 34) (q := 13) (pj_d p_X12_look 6 rfl) rfl (by decide) (fun c1 => ?_) (fun c1 => ?_)
  · exact bad (by rw [(gd_b_z _).mp c1]; rfl)
  refine pj_ild2 (q := 14) (pj_d p_X12_look 7 rfl) rfl ?_
  refine pj_i2l (q := 15) (pj_d p_X12_look 8 rfl) rfl ?_
  refine pj_lconst (q := 16) (v := lN 0) (pj_d p_X12_look 9 rfl) rfl (by decide) ?_
  refine pj_ldc2 (q := 19) (pj_d p_X12_look 10 rfl) rfl kX12_185 ?_
  refine pj_cp (pj_rS (q := 22) (c_X12_in st (lN 0) 31 0 31 (by decide) (by decide)) (pj_d p_X12_look 11 rfl) rfl kX12_57 o_X12_in (by rfl) (by rfl) (Nat.le_of_ble_eq_true rfl) (by decide)) (by decide) (by decide) ?_
  refine pj_if_eq (t := 34) (q := 25) (pj_d p_X12_look 12 rfl) rfl (by decide) (fun c2 => ?_) (fun c2 => ?_)
  · exact bad (by rw [(gd_b_z _).mp c2]; simp)
  · have e1 := (gd_b_n _).mp c1
    have e2 := (gd_b_n _).mp c2
    obtain ⟨i, hi, rfl, hc⟩ := gd_has_of hW.1 e1
    obtain ⟨j, hj, rfl, hd⟩ := gd_rng_of (hi := 31) e2
    refine pj_ald0 (q := 26) (pj_d p_X12_look 13 rfl) rfl ?_
    refine pj_ild1 (q := 27) (pj_d p_X12_look 14 rfl) rfl ?_
    refine pj_ild2 (q := 28) (pj_d p_X12_look 15 rfl) rfl ?_
    refine pj_cp (pj_rV (q := 31) (c_X12_lookOf hM hT hW (st := j) hi (by omega)) (pj_d p_X12_look 16 rfl) rfl kX12_167 o_X12_lookOf (by assumption) (by rfl) (by rfl) (by rfl) (by rfl) (Nat.le_of_ble_eq_true rfl) (by decide)) (by decide) (by decide) ?_
    refine pj_goto (t := 36) (pj_d p_X12_look 17 rfl) (by decide) ?_
    refine pj_iret rfl (pj_d p_X12_look 19 rfl) (by decide) (by decide) ?_
    exact ⟨by rw [sp_look, e1, e2, hc, hd]; rfl, rfl, rfl⟩
theorem c_X12_alike (hR : gd_MR h g v τ) (a b d : Int32) : pj_Ct E B l Y_X12_alike 4 0 0 [.ref g, .int a, .int b, .int d] h n (pj_is (some (.int (sp_alike τ a b d))) h n) := by
  obtain ⟨hM, hT, hv, hW, h1⟩ := hR
  refine pj_in rfl (ls := [some (.ref g), some (.int (a)), some (.int (b)), some (.int (d))]) rfl (Nat.le_of_ble_eq_true rfl) ?_
  refine gd_thr (pj_d p_X12_alike 0 rfl) (pj_d p_X12_alike 1 rfl) (pj_d p_X12_alike 2 rfl) rfl hM hv ?_
  have bad : (sp_two τ a b && gd_rng d 0 100) = false → pj_V E B l Y_X12_alike 4 0 0 21 [some (.ref g), some (.int (a)), some (.int (b)), some (.int (d))] [] h n 0 0 (pj_is (some (.int (sp_alike τ a b d))) h n) := by
    intro hx
    refine pj_ldc (q := 23) (pj_d p_X12_alike 11 rfl) rfl kX12_67 ?_
    refine pj_goto (t := 41) (pj_d p_X12_alike 12 rfl) (by decide) ?_
    refine pj_iret rfl (pj_d p_X12_alike 22 rfl) (by decide) (by decide) ?_
    exact ⟨by rw [sp_alike, hx]; rfl, rfl, rfl⟩
  refine pj_ald0 (q := 6) (pj_d p_X12_alike 3 rfl) rfl ?_
  refine pj_ild1 (q := 7) (pj_d p_X12_alike 4 rfl) rfl ?_
  refine pj_ild2 (q := 8) (pj_d p_X12_alike 5 rfl) rfl ?_
  refine pj_cp (pj_rV (q := 11) (c_X12_areTwo hM hT hW.1 a b) (pj_d p_X12_alike 6 rfl) rfl kX12_191 o_X12_areTwo (by assumption) (by rfl) (by rfl) (by rfl) (by rfl) (Nat.le_of_ble_eq_true rfl) (by decide)) (by decide) (by decide) ?_
  refine pj_if_eq (t := 21) (q := 14) (pj_d p_X12_alike 7 rfl) rfl (by decide) (fun c1 => ?_) (fun c1 => ?_)
  · exact bad (by rw [sp_two, (gd_b_z _).mp c1]; rfl)
  refine pj_ild3 (q := 15) (pj_d p_X12_alike 8 rfl) rfl ?_
  refine pj_cp (pj_rS (q := 18) (c_X12_isFar d) (pj_d p_X12_alike 9 rfl) rfl kX12_195 o_X12_isFar (by rfl) (by rfl) (Nat.le_of_ble_eq_true rfl) (by decide)) (by decide) (by decide) ?_
  refine pj_if_ne (t := 26) (q := 21) (pj_d p_X12_alike 10 rfl) rfl (by decide) (fun c2 => ?_) (fun c2 => ?_)
  · have e1 := (gd_b_n _).mp c1
    have e2 := (gd_b_n _).mp c2
    have e3 : sp_two τ a b = true := e1
    rw [Bool.and_eq_true, Bool.and_eq_true] at e1
    obtain ⟨i, hi, rfl, hc⟩ := gd_has_of hW.1 e1.1.1
    obtain ⟨j, hj, rfl, hd⟩ := gd_has_of hW.1 e1.1.2
    obtain ⟨k, hk, rfl, hf⟩ := gd_rng_of (hi := 100) e2
    have hx : sp_alike τ (nI i) (nI j) (nI k) = gd_b (decide (gd_lk τ i (gd_miss τ k) = gd_lk τ j (gd_miss τ k))) := by rw [sp_alike, e3, e2, hc, hd, hf]; rfl
    rw [hx]
    refine pj_ald0 (q := 27) (pj_d p_X12_alike 13 rfl) rfl ?_
    refine pj_ild1 (q := 28) (pj_d p_X12_alike 14 rfl) rfl ?_
    refine pj_ild2 (q := 29) (pj_d p_X12_alike 15 rfl) rfl ?_
    refine pj_ild3 (q := 30) (pj_d p_X12_alike 16 rfl) rfl ?_
    refine pj_cp (pj_rV (q := 33) (c_X12_areAlike hM hT hW (d := k) hi hj (by omega)) (pj_d p_X12_alike 17 rfl) rfl kX12_198 o_X12_areAlike (by assumption) (by rfl) (by rfl) (by rfl) (by rfl) (Nat.le_of_ble_eq_true rfl) (by decide)) (by decide) (by decide) ?_
    refine pj_if_eq (t := 40) (q := 36) (pj_d p_X12_alike 18 rfl) rfl (by decide) (fun c3 => ?_) (fun c3 => ?_)
    · rw [(gd_b_z _).mp c3]
      refine pj_iconst (q := 41) (v := nI 0) (pj_d p_X12_alike 21 rfl) rfl (by decide) ?_
      refine pj_iret rfl (pj_d p_X12_alike 22 rfl) (by decide) (by decide) ?_
      exact ⟨rfl, rfl, rfl⟩
    · rw [(gd_b_n _).mp c3]
      refine pj_iconst (q := 37) (v := nI 1) (pj_d p_X12_alike 19 rfl) rfl (by decide) ?_
      refine pj_goto (t := 41) (pj_d p_X12_alike 20 rfl) (by decide) ?_
      refine pj_iret rfl (pj_d p_X12_alike 22 rfl) (by decide) (by decide) ?_
      exact ⟨rfl, rfl, rfl⟩
  · exact bad (by rw [(gd_b_z _).mp c2]; simp)
theorem c_X12_like (hR : gd_MR h g v τ) (t d : Int32) : pj_Ct E B l Y_X12_like 4 0 0 [.ref g, .int t, .int d] h n (pj_is (some (.int (sp_like τ t d))) h n) := by
  obtain ⟨hM, hT, hv, hW, h1⟩ := hR
  refine pj_in rfl (ls := [some (.ref g), some (.int (t)), some (.int (d))]) rfl (Nat.le_of_ble_eq_true rfl) ?_
  refine gd_thr (pj_d p_X12_like 0 rfl) (pj_d p_X12_like 1 rfl) (pj_d p_X12_like 2 rfl) rfl hM hv ?_
  have bad : (gd_has τ t && gd_rng d 0 100) = false → pj_V E B l Y_X12_like 4 0 0 33 [some (.ref g), some (.int (t)), some (.int (d))] [] h n 0 0 (pj_is (some (.int (sp_like τ t d))) h n) := by
    intro hx
    refine pj_ldc (q := 35) (pj_d p_X12_like 17 rfl) rfl kX12_67 ?_
    refine pj_iret rfl (pj_d p_X12_like 18 rfl) (by decide) (by decide) ?_
    exact ⟨by rw [sp_like, hx]; rfl, rfl, rfl⟩
  refine pj_ald0 (q := 6) (pj_d p_X12_like 3 rfl) rfl ?_
  refine pj_ild1 (q := 7) (pj_d p_X12_like 4 rfl) rfl ?_
  refine pj_cp (pj_rV (q := 10) (c_X12_isThing hM hT hW.1 t) (pj_d p_X12_like 5 rfl) rfl kX12_153 o_X12_isThing (by assumption) (by rfl) (by rfl) (by rfl) (by rfl) (Nat.le_of_ble_eq_true rfl) (by decide)) (by decide) (by decide) ?_
  refine pj_if_eq (t := 33) (q := 13) (pj_d p_X12_like 6 rfl) rfl (by decide) (fun c1 => ?_) (fun c1 => ?_)
  · exact bad (by rw [(gd_b_z _).mp c1]; rfl)
  refine pj_ild2 (q := 14) (pj_d p_X12_like 7 rfl) rfl ?_
  refine pj_cp (pj_rS (q := 17) (c_X12_isFar d) (pj_d p_X12_like 8 rfl) rfl kX12_195 o_X12_isFar (by rfl) (by rfl) (Nat.le_of_ble_eq_true rfl) (by decide)) (by decide) (by decide) ?_
  refine pj_if_eq (t := 33) (q := 20) (pj_d p_X12_like 9 rfl) rfl (by decide) (fun c2 => ?_) (fun c2 => ?_)
  · exact bad (by rw [(gd_b_z _).mp c2]; simp)
  · have e1 := (gd_b_n _).mp c1
    have e2 := (gd_b_n _).mp c2
    obtain ⟨i, hi, rfl, hc⟩ := gd_has_of hW.1 e1
    obtain ⟨j, hj, rfl, hd⟩ := gd_rng_of (hi := 100) e2
    refine pj_ald0 (q := 21) (pj_d p_X12_like 10 rfl) rfl ?_
    refine pj_ild1 (q := 22) (pj_d p_X12_like 11 rfl) rfl ?_
    refine pj_ald0 (q := 23) (pj_d p_X12_like 12 rfl) rfl ?_
    refine pj_ild2 (q := 24) (pj_d p_X12_like 13 rfl) rfl ?_
    refine pj_cp (pj_rV (q := 27) (c_X12_missingOn hM hT hW (d := j) (by omega)) (pj_d p_X12_like 14 rfl) rfl kX12_170 o_X12_missingOn (by assumption) (by rfl) (by rfl) (by rfl) (by rfl) (Nat.le_of_ble_eq_true rfl) (by decide)) (by decide) (by decide) ?_
    refine pj_cp (pj_rV (q := 30) (c_X12_likeBy hM hT hW hi (gd_miss_lt hW j)) (pj_d p_X12_like 15 rfl) rfl kX12_202 o_X12_likeBy (by assumption) (by rfl) (by rfl) (by rfl) (by rfl) (Nat.le_of_ble_eq_true rfl) (by decide)) (by decide) (by decide) ?_
    refine pj_goto (t := 35) (pj_d p_X12_like 16 rfl) (by decide) ?_
    refine pj_iret rfl (pj_d p_X12_like 18 rfl) (by decide) (by decide) ?_
    exact ⟨by rw [sp_like, e1, e2, hc, hd]; rfl, rfl, rfl⟩
theorem c_X12_looks (hR : gd_MR h g v τ) (d : Int32) : pj_Ct E B l Y_X12_looks 4 0 0 [.ref g, .int d] h n (pj_is (some (.int (sp_looks τ d))) h n) := by
  obtain ⟨hM, hT, hv, hW, h1⟩ := hR
  have h7 := hW.1
  refine pj_in rfl (ls := [some (.ref g), some (.int (d)), none, none]) rfl (Nat.le_of_ble_eq_true rfl) ?_
  refine gd_thr (pj_d p_X12_looks 0 rfl) (pj_d p_X12_looks 1 rfl) (pj_d p_X12_looks 2 rfl) rfl hM hv ?_
  refine pj_ald0 (q := 6) (pj_d p_X12_looks 3 rfl) rfl ?_
  refine pj_cp (pj_rV (q := 9) (c_X12_isThere hM hT h1) (pj_d p_X12_looks 4 rfl) rfl kX12_176 o_X12_isThere (by assumption) (by rfl) (by rfl) (by rfl) (by rfl) (Nat.le_of_ble_eq_true rfl) (by decide)) (by decide) (by decide) ?_
  refine pj_if_ne (t := 15) (q := 12) (pj_d p_X12_looks 5 rfl) rfl (by decide) (fun c1 => ?_) (fun c1 => ?_)
  · have ht := gd_dec_t c1
    refine pj_ild1 (q := 16) (pj_d p_X12_looks 8 rfl) rfl ?_
    refine pj_cp (pj_rS (q := 19) (c_X12_isFar d) (pj_d p_X12_looks 9 rfl) rfl kX12_195 o_X12_isFar (by rfl) (by rfl) (Nat.le_of_ble_eq_true rfl) (by decide)) (by decide) (by decide) ?_
    refine pj_if_ne (t := 25) (q := 22) (pj_d p_X12_looks 10 rfl) rfl (by decide) (fun c2 => ?_) (fun c2 => ?_)
    · have e := (gd_b_n _).mp c2
      obtain ⟨j, hj, rfl, hc⟩ := gd_rng_of (hi := 100) e
      have hsp : sp_looks τ (nI j) = nI (gd_looks τ (gd_miss τ j)) := by simp [sp_looks, ht, e, hc]
      generalize hf : (fun i => if gd_like τ i (gd_miss τ j) % 2 ^ i = 0 then 1 else 0) = f
      have hg : gd_looks τ (gd_miss τ j) = gd_sm f (τ 1) := by rw [← hf]; rfl
      refine pj_iconst (q := 26) (v := nI 0) (pj_d p_X12_looks 13 rfl) rfl (by decide) ?_
      refine pj_ist2 (q := 27) (pj_d p_X12_looks 14 rfl) rfl (by first | rfl | assumption) ?_
      refine pj_iconst (q := 28) (v := nI 0) (pj_d p_X12_looks 15 rfl) rfl (by decide) ?_
      refine pj_ist3 (q := 29) (pj_d p_X12_looks 16 rfl) rfl (by first | rfl | assumption) ?_
      have loop : ∀ m i, τ 1 - i < m → i ≤ τ 1 → pj_V E B l Y_X12_looks 4 0 0 29 [some (.ref g), some (.int (nI j)), some (.int (nI (gd_sm f i))), some (.int (nI i))] [] h n 0 0 (pj_is (some (.int (sp_looks τ (nI j)))) h n) := by
        intro m
        induction m with
        | zero => intro i hi; omega
        | succ m ih =>
          intro i hi hle
          refine pj_ild3 (q := 30) (pj_d p_X12_looks 17 rfl) rfl ?_
          refine pj_ald0 (q := 31) (pj_d p_X12_looks 18 rfl) rfl ?_
          refine pj_gf (q := 34) (k := 5) (pj_d p_X12_looks 19 rfl) rfl kX12_19 (by assumption) (by rfl) (by rfl) ?_
          refine pj_iconst (q := 35) (v := nI 1) (pj_d p_X12_looks 20 rfl) rfl (by decide) ?_
          refine pj_ialdN (q := 36) (pj_d p_X12_looks 21 rfl) rfl (by assumption) (by rfl) (by first | assumption | omega) (Nat.le_of_ble_eq_true rfl) ?_
          refine pj_icmp_ge (t := 72) (q := 39) (pj_d p_X12_looks 22 rfl) rfl (by decide) (fun c3 => ?_) (fun c3 => ?_)
          · have he : i = τ 1 := by have := gd_ge c3 (by omega) (by omega); omega
            subst he
            refine pj_ild2 (q := 73) (pj_d p_X12_looks 44 rfl) rfl ?_
            refine pj_iret rfl (pj_d p_X12_looks 45 rfl) (by decide) (by decide) ?_
            exact ⟨by rw [hsp, hg], rfl, rfl⟩
          · have hlt : i < τ 1 := gd_lt c3 (by omega)
            refine pj_ild2 (q := 40) (pj_d p_X12_looks 23 rfl) rfl ?_
            refine pj_ald0 (q := 41) (pj_d p_X12_looks 24 rfl) rfl ?_
            refine pj_ild3 (q := 42) (pj_d p_X12_looks 25 rfl) rfl ?_
            refine pj_ald0 (q := 43) (pj_d p_X12_looks 26 rfl) rfl ?_
            refine pj_ild1 (q := 44) (pj_d p_X12_looks 27 rfl) rfl ?_
            refine pj_cp (pj_rV (q := 47) (c_X12_missingOn hM hT hW (d := j) (by omega)) (pj_d p_X12_looks 28 rfl) rfl kX12_170 o_X12_missingOn (by assumption) (by rfl) (by rfl) (by rfl) (by rfl) (Nat.le_of_ble_eq_true rfl) (by decide)) (by decide) (by decide) ?_
            refine pj_cp (pj_rV (q := 50) (c_X12_likeBy hM hT hW hlt (gd_miss_lt hW j)) (pj_d p_X12_looks 29 rfl) rfl kX12_202 o_X12_likeBy (by assumption) (by rfl) (by rfl) (by rfl) (by rfl) (Nat.le_of_ble_eq_true rfl) (by decide)) (by decide) (by decide) ?_
            refine pj_iconst (q := 51) (v := nI 1) (pj_d p_X12_looks 30 rfl) rfl (by decide) ?_
            refine pj_ild3 (q := 52) (pj_d p_X12_looks 31 rfl) rfl ?_
            refine pj_ishl (q := 53) (pj_d p_X12_looks 32 rfl) rfl ?_
            rw [gd_shl1 i (by omega)]
            refine pj_iconst (q := 54) (v := nI 1) (pj_d p_X12_looks 33 rfl) rfl (by decide) ?_
            refine pj_isub (q := 55) (pj_d p_X12_looks 34 rfl) rfl ?_
            refine pj_iand (q := 56) (pj_d p_X12_looks 35 rfl) rfl ?_
            have hb : gd_like τ i (gd_miss τ j) < 128 := by
              have h2 := gd_like_lt τ i (gd_miss τ j) (τ 1)
              have h3 : 2 ^ τ 1 ≤ 2 ^ 7 := Nat.pow_le_pow_right (by omega) h7
              exact Nat.lt_of_lt_of_le h2 h3
            rw [gd_andm i (by omega) _ hb]
            have hb2 := Nat.mod_le (gd_like τ i (gd_miss τ j)) (2 ^ i)
            have go : ∀ x, gd_sm f i + x = gd_sm f (i + 1) → pj_V E B l Y_X12_looks 4 0 0 64 [some (.ref g), some (.int (nI j)), some (.int (nI (gd_sm f i))), some (.int (nI i))] [.int (nI x), .int (nI (gd_sm f i))] h n 0 0 (pj_is (some (.int (sp_looks τ (nI j)))) h n) := by
              intro x hx
              refine pj_iadd (q := 65) (pj_d p_X12_looks 40 rfl) rfl ?_
              rw [nI_add, hx]
              refine pj_ist2 (q := 66) (pj_d p_X12_looks 41 rfl) rfl (by first | rfl | assumption) ?_
              refine pj_iinc3 (q := 69) (v := 1) (pj_d p_X12_looks 42 rfl) rfl (by first | rfl | assumption) (by decide) ?_
              refine pj_goto (t := 29) (pj_d p_X12_looks 43 rfl) (by decide) ?_
              rw [nI_1]
              exact ih (i + 1) (by omega) (by omega)
            refine pj_if_ne (t := 63) (q := 59) (pj_d p_X12_looks 36 rfl) rfl (by decide) (fun c4 => ?_) (fun c4 => ?_)
            · have hne : ¬ gd_like τ i (gd_miss τ j) % 2 ^ i = 0 := fun q => c4 (by rw [q]; rfl)
              refine pj_iconst (q := 64) (v := nI 0) (pj_d p_X12_looks 39 rfl) rfl (by decide) ?_
              exact go 0 (by rw [gd_sm, ← hf]; simp only [if_neg hne])
            · have heq := (nI_eq (by omega) (by omega)).mp (c4.trans nI_0.symm)
              refine pj_iconst (q := 60) (v := nI 1) (pj_d p_X12_looks 37 rfl) rfl (by decide) ?_
              refine pj_goto (t := 64) (pj_d p_X12_looks 38 rfl) (by decide) ?_
              exact go 1 (by rw [gd_sm, ← hf]; simp only [if_pos heq])
      exact loop (τ 1 + 1) 0 (by omega) (by omega)
    · have e := (gd_b_z _).mp c2
      refine pj_ldc (q := 24) (pj_d p_X12_looks 11 rfl) rfl kX12_67 ?_
      refine pj_iret rfl (pj_d p_X12_looks 12 rfl) (by decide) (by decide) ?_
      exact ⟨by simp [sp_looks, ht, e], rfl, rfl⟩
  · have ht := gd_dec_f c1
    refine pj_ldc (q := 14) (pj_d p_X12_looks 6 rfl) rfl kX12_179 ?_
    refine pj_iret rfl (pj_d p_X12_looks 7 rfl) (by decide) (by decide) ?_
    exact ⟨by simp [sp_looks, ht], rfl, rfl⟩
theorem c_X12_harm (hR : gd_MR h g v τ) (d : Int32) : pj_Ct E B l Y_X12_harm 4 0 0 [.ref g, .int d] h n (pj_is (some (.int (sp_harm τ d))) h n) := by
  obtain ⟨hM, hT, hv, hW, h1⟩ := hR
  refine pj_in rfl (ls := [some (.ref g), some (.int (d))]) rfl (Nat.le_of_ble_eq_true rfl) ?_
  refine gd_thr (pj_d p_X12_harm 0 rfl) (pj_d p_X12_harm 1 rfl) (pj_d p_X12_harm 2 rfl) rfl hM hv ?_
  have fin : ∀ x, x = sp_harm τ d → pj_V E B l Y_X12_harm 4 0 0 38 [some (.ref g), some (.int (d))] [.int x] h n 0 0 (pj_is (some (.int (sp_harm τ d))) h n) := by
    intro x hx
    subst hx
    refine pj_iret rfl (pj_d p_X12_harm 18 rfl) (by decide) (by decide) ?_
    exact ⟨rfl, rfl, rfl⟩
  refine pj_ald0 (q := 6) (pj_d p_X12_harm 3 rfl) rfl ?_
  refine pj_cp (pj_rV (q := 9) (c_X12_isThere hM hT h1) (pj_d p_X12_harm 4 rfl) rfl kX12_176 o_X12_isThere (by assumption) (by rfl) (by rfl) (by rfl) (by rfl) (Nat.le_of_ble_eq_true rfl) (by decide)) (by decide) (by decide) ?_
  refine pj_if_ne (t := 17) (q := 12) (pj_d p_X12_harm 5 rfl) rfl (by decide) (fun c1 => ?_) (fun c1 => ?_)
  · have ht := gd_dec_t c1
    refine pj_ild1 (q := 18) (pj_d p_X12_harm 8 rfl) rfl ?_
    refine pj_cp (pj_rS (q := 21) (c_X12_isFar d) (pj_d p_X12_harm 9 rfl) rfl kX12_195 o_X12_isFar (by rfl) (by rfl) (Nat.le_of_ble_eq_true rfl) (by decide)) (by decide) (by decide) ?_
    refine pj_if_eq (t := 36) (q := 24) (pj_d p_X12_harm 10 rfl) rfl (by decide) (fun c2 => ?_) (fun c2 => ?_)
    · have e := (gd_b_z _).mp c2
      refine pj_ldc (q := 38) (pj_d p_X12_harm 17 rfl) rfl kX12_67 ?_
      exact fin _ (by simp [sp_harm, ht, e])
    · have e := (gd_b_n _).mp c2
      obtain ⟨j, hj, rfl, hc⟩ := gd_rng_of (hi := 100) e
      refine pj_ald0 (q := 25) (pj_d p_X12_harm 11 rfl) rfl ?_
      refine pj_ald0 (q := 26) (pj_d p_X12_harm 12 rfl) rfl ?_
      refine pj_ild1 (q := 27) (pj_d p_X12_harm 13 rfl) rfl ?_
      refine pj_cp (pj_rV (q := 30) (c_X12_missingOn hM hT hW (d := j) (by omega)) (pj_d p_X12_harm 14 rfl) rfl kX12_170 o_X12_missingOn (by assumption) (by rfl) (by rfl) (by rfl) (by rfl) (Nat.le_of_ble_eq_true rfl) (by decide)) (by decide) (by decide) ?_
      refine pj_cp (pj_rV (q := 33) (c_X12_harmBy hM hT hW (gd_miss_lt hW j)) (pj_d p_X12_harm 15 rfl) rfl kX12_173 o_X12_harmBy (by assumption) (by rfl) (by rfl) (by rfl) (by rfl) (Nat.le_of_ble_eq_true rfl) (by decide)) (by decide) (by decide) ?_
      refine pj_goto (t := 38) (pj_d p_X12_harm 16 rfl) (by decide) ?_
      exact fin _ (by simp [sp_harm, ht, e, hc])
  · have ht := gd_dec_f c1
    refine pj_ldc (q := 14) (pj_d p_X12_harm 6 rfl) rfl kX12_179 ?_
    refine pj_goto (t := 38) (pj_d p_X12_harm 7 rfl) (by decide) ?_
    exact fin _ (by simp [sp_harm, ht])
theorem c_X12_harms (hR : gd_MR h g v τ) (d : Int32) : pj_Ct E B l Y_X12_harms 5 0 0 [.ref g, .int d] h n (pj_is (some (.int (sp_harms τ d))) h n) := by
  obtain ⟨hM, hT, hv, hW, h1⟩ := hR
  refine pj_in rfl (ls := [some (.ref g), some (.int (d))]) rfl (Nat.le_of_ble_eq_true rfl) ?_
  refine gd_thr (pj_d p_X12_harms 0 rfl) (pj_d p_X12_harms 1 rfl) (pj_d p_X12_harms 2 rfl) rfl hM hv ?_
  have fin : ∀ x, x = sp_harms τ d → pj_V E B l Y_X12_harms 5 0 0 39 [some (.ref g), some (.int (d))] [.int x] h n 0 0 (pj_is (some (.int (sp_harms τ d))) h n) := by
    intro x hx
    subst hx
    refine pj_iret rfl (pj_d p_X12_harms 19 rfl) (by decide) (by decide) ?_
    exact ⟨rfl, rfl, rfl⟩
  refine pj_ald0 (q := 6) (pj_d p_X12_harms 3 rfl) rfl ?_
  refine pj_cp (pj_rV (q := 9) (c_X12_isThere hM hT h1) (pj_d p_X12_harms 4 rfl) rfl kX12_176 o_X12_isThere (by assumption) (by rfl) (by rfl) (by rfl) (by rfl) (Nat.le_of_ble_eq_true rfl) (by decide)) (by decide) (by decide) ?_
  refine pj_if_ne (t := 17) (q := 12) (pj_d p_X12_harms 5 rfl) rfl (by decide) (fun c1 => ?_) (fun c1 => ?_)
  · have ht := gd_dec_t c1
    refine pj_ild1 (q := 18) (pj_d p_X12_harms 8 rfl) rfl ?_
    refine pj_i2l (q := 19) (pj_d p_X12_harms 9 rfl) rfl ?_
    refine pj_lconst (q := 20) (v := lN 1) (pj_d p_X12_harms 10 rfl) rfl (by decide) ?_
    refine pj_ldc2 (q := 23) (pj_d p_X12_harms 11 rfl) rfl kX12_156 ?_
    refine pj_cp (pj_rS (q := 26) (c_X12_in d (lN 1) 100 1 100 (by decide) (by decide)) (pj_d p_X12_harms 12 rfl) rfl kX12_57 o_X12_in (by rfl) (by rfl) (Nat.le_of_ble_eq_true rfl) (by decide)) (by decide) (by decide) ?_
    refine pj_if_eq (t := 37) (q := 29) (pj_d p_X12_harms 13 rfl) rfl (by decide) (fun c2 => ?_) (fun c2 => ?_)
    · have e := (gd_b_z _).mp c2
      refine pj_ldc (q := 39) (pj_d p_X12_harms 18 rfl) rfl kX12_67 ?_
      exact fin _ (by simp [sp_harms, ht, e])
    · have e := (gd_b_n _).mp c2
      obtain ⟨j, hj, hj2, rfl, hc⟩ := gd_rng_of1 (hi := 100) e
      refine pj_ald0 (q := 30) (pj_d p_X12_harms 14 rfl) rfl ?_
      refine pj_ild1 (q := 31) (pj_d p_X12_harms 15 rfl) rfl ?_
      refine pj_cp (pj_rV (q := 34) (c_X12_harmsOf hM hT hW (c := j) (by omega)) (pj_d p_X12_harms 16 rfl) rfl kX12_205 o_X12_harmsOf (by assumption) (by rfl) (by rfl) (by rfl) (by rfl) (Nat.le_of_ble_eq_true rfl) (by decide)) (by decide) (by decide) ?_
      refine pj_goto (t := 39) (pj_d p_X12_harms 17 rfl) (by decide) ?_
      exact fin _ (by simp [sp_harms, ht, e, hc])
  · have ht := gd_dec_f c1
    refine pj_ldc (q := 14) (pj_d p_X12_harms 6 rfl) rfl kX12_179 ?_
    refine pj_goto (t := 39) (pj_d p_X12_harms 7 rfl) (by decide) ?_
    exact fin _ (by simp [sp_harms, ht])
theorem c_X12_kind (hR : gd_MR h g v τ) (t : Int32) : pj_Ct E B l Y_X12_kind 3 0 0 [.ref g, .int t] h n (pj_is (some (.int (sp_kind τ t))) h n) := by
  obtain ⟨hM, hT, hv, hW, h1⟩ := hR
  have h7 := hW.1
  refine pj_in rfl (ls := [some (.ref g), some (.int (t))]) rfl (Nat.le_of_ble_eq_true rfl) ?_
  refine gd_thr (pj_d p_X12_kind 0 rfl) (pj_d p_X12_kind 1 rfl) (pj_d p_X12_kind 2 rfl) rfl hM hv ?_
  refine pj_ald0 (q := 6) (pj_d p_X12_kind 3 rfl) rfl ?_
  refine pj_ild1 (q := 7) (pj_d p_X12_kind 4 rfl) rfl ?_
  refine pj_cp (pj_rV (q := 10) (c_X12_isThing hM hT hW.1 t) (pj_d p_X12_kind 5 rfl) rfl kX12_153 o_X12_isThing (by assumption) (by rfl) (by rfl) (by rfl) (by rfl) (Nat.le_of_ble_eq_true rfl) (by decide)) (by decide) (by decide) ?_
  refine pj_if_eq (t := 22) (q := 13) (pj_d p_X12_kind 6 rfl) rfl (by decide) (fun c1 => ?_) (fun c1 => ?_)
  · refine pj_ldc (q := 24) (pj_d p_X12_kind 12 rfl) rfl kX12_67 ?_
    refine pj_iret rfl (pj_d p_X12_kind 13 rfl) (by decide) (by decide) ?_
    exact ⟨by rw [sp_kind, (gd_b_z _).mp c1]; rfl, rfl, rfl⟩
  · have e1 := (gd_b_n _).mp c1
    obtain ⟨i, hi, rfl, hc⟩ := gd_has_of hW.1 e1
    refine pj_ald0 (q := 14) (pj_d p_X12_kind 7 rfl) rfl ?_
    refine pj_ild1 (q := 15) (pj_d p_X12_kind 8 rfl) rfl ?_
    refine pj_iconst (q := 16) (v := nI 0) (pj_d p_X12_kind 9 rfl) rfl (by decide) ?_
    refine pj_cp (pj_rV (q := 19) (c_X12_of hM hT (t := i) (w := 0) (by omega) (by omega)) (pj_d p_X12_kind 10 rfl) rfl kX12_158 o_X12_of (by assumption) (by rfl) (by rfl) (by rfl) (by rfl) (Nat.le_of_ble_eq_true rfl) (by decide)) (by decide) (by decide) ?_
    refine pj_goto (t := 24) (pj_d p_X12_kind 11 rfl) (by decide) ?_
    refine pj_iret rfl (pj_d p_X12_kind 13 rfl) (by decide) (by decide) ?_
    exact ⟨by rw [sp_kind, e1, hc]; rfl, rfl, rfl⟩
end
