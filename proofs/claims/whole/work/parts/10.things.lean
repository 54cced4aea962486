/-! ===== things: how they look ===== -/
def gd_setOf (c : Nat) : Nat := if c < 5 then 2 ^ c else 0
def gd_left (mix set : Nat) : Nat := mix &&& (31 ^^^ set)
def gd_twin (x : Nat) : Nat := if x &&& (x - 1) = 0 then x else x &&& (x - 1)
def gd_look (kd mix sh set : Nat) : Nat := if kd = 1 then gd_left mix set else if kd = 2 then gd_twin (gd_left mix set) else if kd = 3 then gd_left mix set + 32 * (1 + sh) else if kd = 4 then mix else 0
theorem gd_leftI : ∀ m, m < 32 → ∀ s, s < 32 → nI m &&& (nI s ^^^ (-1)) = nI (gd_left m s) := by decide +kernel
theorem gd_left_lt : ∀ m, m < 32 → ∀ s, s < 32 → gd_left m s < 32 := by decide +kernel
theorem gd_twinI : ∀ x, x < 32 → nI x &&& (nI x - nI 1) = nI (x &&& (x - 1)) := by decide +kernel
theorem gd_twin_lt : ∀ x, x < 32 → gd_twin x < 32 := by decide +kernel
theorem gd_and_lt : ∀ x, x < 32 → x &&& (x - 1) < 32 := by decide +kernel
theorem gd_setI : ∀ c, c < 5 → nI 1 <<< (nI c &&& 31) = nI (2 ^ c) := by decide +kernel
theorem gd_setOf_lt : ∀ c, c ≤ 5 → gd_setOf c < 32 := by decide +kernel
theorem gd_look_lt {kd mix sh set : Nat} (hm : mix < 32) (hs : set < 32) (hh : sh < 4) : gd_look kd mix sh set < 160 := by
  unfold gd_look
  have h1 := gd_left_lt mix hm set hs
  have h2 := gd_twin_lt _ h1
  split
  · omega
  · split
    · omega
    · split
      · omega
      · split <;> omega
section
variable {E : pj_E} {B : Nat} {l : Launch} {h : pj_H} {n : Nat}
theorem c_X9_setOf (c : Nat) (hc : c ≤ 5) : pj_Ct E B l Y_X9_setOf 1 0 0 [.int (nI c)] h n (pj_is (some (.int (nI (gd_setOf c)))) h n) := by
  refine pj_in rfl (ls := [some (.int (nI c))]) rfl (Nat.le_of_ble_eq_true rfl) ?_
  refine pj_ild0 (q := 1) (pj_d p_X9_setOf 0 rfl) rfl ?_
  refine pj_if_lt (t := 15) (q := 4) (pj_d p_X9_setOf 1 rfl) rfl (by decide) (fun c1 => ?_) (fun c1 => ?_)
  · exact absurd c1 (nI_pos (by omega))
  refine pj_ild0 (q := 5) (pj_d p_X9_setOf 2 rfl) rfl ?_
  refine pj_iconst (q := 6) (v := nI 5) (pj_d p_X9_setOf 3 rfl) rfl (by decide) ?_
  refine pj_icmp_ge (t := 15) (q := 9) (pj_d p_X9_setOf 4 rfl) rfl (by decide) (fun c2 => ?_) (fun c2 => ?_)
  · have hc5 : ¬ c < 5 := by have := (nI_leI (by omega) (by omega)).mp c2; omega
    refine pj_iconst (q := 16) (v := nI 0) (pj_d p_X9_setOf 9 rfl) rfl (by decide) ?_
    refine pj_iret rfl (pj_d p_X9_setOf 10 rfl) (by decide) (by decide) ?_
    exact ⟨by simp only [gd_setOf, if_neg hc5], rfl, rfl⟩
  · have hc5 : c < 5 := by
      rcases Nat.lt_or_ge c 5 with q | q
      · exact q
      · exact absurd (nI_le q (by omega)) c2
    refine pj_iconst (q := 10) (v := nI 1) (pj_d p_X9_setOf 5 rfl) rfl (by decide) ?_
    refine pj_ild0 (q := 11) (pj_d p_X9_setOf 6 rfl) rfl ?_
    refine pj_ishl (q := 12) (pj_d p_X9_setOf 7 rfl) rfl ?_
    refine pj_goto (t := 16) (pj_d p_X9_setOf 8 rfl) (by decide) ?_
    refine pj_iret rfl (pj_d p_X9_setOf 10 rfl) (by decide) (by decide) ?_
    exact ⟨by rw [gd_setI c hc5, gd_setOf, if_pos hc5], rfl, rfl⟩
theorem c_X1_lookOf {a : Nat} (mx st : Nat) (hm : mx < 32) (hs : st < 32) : pj_Ct E B l Y_X1_lookOf 2 0 0 [.ref a, .int (nI mx), .int (nI st)] h n (pj_is (some (.int (nI (gd_left mx st)))) h n) := by
  refine pj_in rfl (ls := [some (.ref a), some (.int (nI mx)), some (.int (nI st))]) rfl (Nat.le_of_ble_eq_true rfl) ?_
  refine pj_ild1 (q := 1) (pj_d p_X1_lookOf 0 rfl) rfl ?_
  refine pj_ild2 (q := 2) (pj_d p_X1_lookOf 1 rfl) rfl ?_
  refine pj_iconst (q := 3) (v := (-1)) (pj_d p_X1_lookOf 2 rfl) rfl (by decide) ?_
  refine pj_ixor (q := 4) (pj_d p_X1_lookOf 3 rfl) rfl ?_
  refine pj_iand (q := 5) (pj_d p_X1_lookOf 4 rfl) rfl ?_
  rw [gd_leftI mx hm st hs]
  refine pj_iret rfl (pj_d p_X1_lookOf 5 rfl) (by decide) (by decide) ?_
  exact ⟨rfl, rfl, rfl⟩
theorem c_X10_lookOf {a : Nat} (mx st : Nat) (hm : mx < 32) (hs : st < 32) : pj_Ct E B l Y_X10_lookOf 2 0 0 [.ref a, .int (nI mx), .int (nI st)] h n (pj_is (some (.int (nI (gd_twin (gd_left mx st))))) h n) := by
  refine pj_in rfl (ls := [some (.ref a), some (.int (nI mx)), some (.int (nI st)), none, none]) rfl (Nat.le_of_ble_eq_true rfl) ?_
  refine pj_ild1 (q := 1) (pj_d p_X10_lookOf 0 rfl) rfl ?_
  refine pj_ild2 (q := 2) (pj_d p_X10_lookOf 1 rfl) rfl ?_
  refine pj_iconst (q := 3) (v := (-1)) (pj_d p_X10_lookOf 2 rfl) rfl (by decide) ?_
  refine pj_ixor (q := 4) (pj_d p_X10_lookOf 3 rfl) rfl ?_
  refine pj_iand (q := 5) (pj_d p_X10_lookOf 4 rfl) rfl ?_
  rw [gd_leftI mx hm st hs]
  have hx := gd_left_lt mx hm st hs
  generalize gd_left mx st = x at hx ⊢
  refine pj_ist3 (q := 6) (pj_d p_X10_lookOf 5 rfl) rfl (by first | rfl | assumption) ?_
  refine pj_ild3 (q := 7) (pj_d p_X10_lookOf 6 rfl) rfl ?_
  refine pj_ild3 (q := 8) (pj_d p_X10_lookOf 7 rfl) rfl ?_
  refine pj_iconst (q := 9) (v := nI 1) (pj_d p_X10_lookOf 8 rfl) rfl (by decide) ?_
  refine pj_isub (q := 10) (pj_d p_X10_lookOf 9 rfl) rfl ?_
  refine pj_iand (q := 11) (pj_d p_X10_lookOf 10 rfl) rfl ?_
  rw [gd_twinI x hx]
  refine pj_ist4 (q := 13) (pj_d p_X10_lookOf 11 rfl) rfl (by first | rfl | assumption) ?_
  refine pj_ild4 (q := 15) (pj_d p_X10_lookOf 12 rfl) rfl ?_
  have hy := gd_and_lt x hx
  refine pj_if_ne (t := 22) (q := 18) (pj_d p_X10_lookOf 13 rfl) rfl (by decide) (fun c1 => ?_) (fun c1 => ?_)
  · have hz : ¬ (x &&& (x - 1) = 0) := fun e => c1 (by rw [e]; rfl)
    refine pj_ild4 (q := 24) (pj_d p_X10_lookOf 16 rfl) rfl ?_
    refine pj_iret rfl (pj_d p_X10_lookOf 17 rfl) (by decide) (by decide) ?_
    exact ⟨by rw [gd_twin, if_neg hz], rfl, rfl⟩
  · have hz : x &&& (x - 1) = 0 := (nI_eq (by omega) (by omega)).mp (c1.trans nI_0.symm)
    refine pj_ild3 (q := 19) (pj_d p_X10_lookOf 14 rfl) rfl ?_
    refine pj_goto (t := 24) (pj_d p_X10_lookOf 15 rfl) (by decide) ?_
    refine pj_iret rfl (pj_d p_X10_lookOf 17 rfl) (by decide) (by decide) ?_
    exact ⟨by rw [gd_twin, if_pos hz], rfl, rfl⟩
theorem c_X4_lookOf {a : Nat} (mx : Nat) (st : Nat) : pj_Ct E B l Y_X4_lookOf 2 0 0 [.ref a, .int (nI mx), .int (nI st)] h n (pj_is (some (.int (nI mx))) h n) := by
  refine pj_in rfl (ls := [some (.ref a), some (.int (nI mx)), some (.int (nI st))]) rfl (Nat.le_of_ble_eq_true rfl) ?_
  refine pj_ild1 (q := 1) (pj_d p_X4_lookOf 0 rfl) rfl ?_
  refine pj_iret rfl (pj_d p_X4_lookOf 1 rfl) (by decide) (by decide) ?_
  exact ⟨rfl, rfl, rfl⟩
theorem c_X2_lookOf {a : Nat} (mx : Nat) (st : Nat) : pj_Ct E B l Y_X2_lookOf 2 0 0 [.ref a, .int (nI mx), .int (nI st)] h n (pj_is (some (.int (nI 0))) h n) := by
  refine pj_in rfl (ls := [some (.ref a), some (.int (nI mx)), some (.int (nI st))]) rfl (Nat.le_of_ble_eq_true rfl) ?_
  refine pj_iconst (q := 1) (v := nI 0) (pj_d p_X2_lookOf 0 rfl) rfl (by decide) ?_
  refine pj_iret rfl (pj_d p_X2_lookOf 1 rfl) (by decide) (by decide) ?_
  exact ⟨rfl, rfl, rfl⟩
theorem c_X8_shaped {a ci : Nat} {kd i sh mx : Nat} (ha : h a = some (.inr (gd_tc kd, [.int (nI i), .int (nI sh), .int (nI mx)]))) (hk : 1 ≤ kd ∧ kd ≤ 5) : pj_Ct E B l Y_X8_shaped 1 0 0 [.ref a] h n (pj_is (some (.int (nI sh))) h n) := by
  refine pj_in rfl (ls := [some (.ref a)]) rfl (Nat.le_of_ble_eq_true rfl) ?_
  rcases gd_kd hk.1 hk.2 with rfl | rfl | rfl | rfl | rfl
  · refine pj_ald0 (q := 1) (pj_d p_X8_shaped 0 rfl) rfl ?_
    refine pj_gf (q := 4) (k := 1) (pj_d p_X8_shaped 1 rfl) rfl kX8_16 (by assumption) (by rfl) (by rfl) ?_
    refine pj_iret rfl (pj_d p_X8_shaped 2 rfl) (by decide) (by decide) ?_
    exact ⟨rfl, rfl, rfl⟩
  · refine pj_ald0 (q := 1) (pj_d p_X8_shaped 0 rfl) rfl ?_
    refine pj_gf (q := 4) (k := 1) (pj_d p_X8_shaped 1 rfl) rfl kX8_16 (by assumption) (by rfl) (by rfl) ?_
    refine pj_iret rfl (pj_d p_X8_shaped 2 rfl) (by decide) (by decide) ?_
    exact ⟨rfl, rfl, rfl⟩
  · refine pj_ald0 (q := 1) (pj_d p_X8_shaped 0 rfl) rfl ?_
    refine pj_gf (q := 4) (k := 1) (pj_d p_X8_shaped 1 rfl) rfl kX8_16 (by assumption) (by rfl) (by rfl) ?_
    refine pj_iret rfl (pj_d p_X8_shaped 2 rfl) (by decide) (by decide) ?_
    exact ⟨rfl, rfl, rfl⟩
  · refine pj_ald0 (q := 1) (pj_d p_X8_shaped 0 rfl) rfl ?_
    refine pj_gf (q := 4) (k := 1) (pj_d p_X8_shaped 1 rfl) rfl kX8_16 (by assumption) (by rfl) (by rfl) ?_
    refine pj_iret rfl (pj_d p_X8_shaped 2 rfl) (by decide) (by decide) ?_
    exact ⟨rfl, rfl, rfl⟩
  · refine pj_ald0 (q := 1) (pj_d p_X8_shaped 0 rfl) rfl ?_
    refine pj_gf (q := 4) (k := 1) (pj_d p_X8_shaped 1 rfl) rfl kX8_16 (by assumption) (by rfl) (by rfl) ?_
    refine pj_iret rfl (pj_d p_X8_shaped 2 rfl) (by decide) (by decide) ?_
    exact ⟨rfl, rfl, rfl⟩
theorem c_X8_mixed {a : Nat} {kd i sh mx : Nat} (ha : h a = some (.inr (gd_tc kd, [.int (nI i), .int (nI sh), .int (nI mx)]))) (hk : 1 ≤ kd ∧ kd ≤ 5) : pj_Ct E B l Y_X8_mixed 1 0 0 [.ref a] h n (pj_is (some (.int (nI mx))) h n) := by
  refine pj_in rfl (ls := [some (.ref a)]) rfl (Nat.le_of_ble_eq_true rfl) ?_
  have hF : pj_fld (gd_tc kd) 2 = some ("GreyDays$Thing", "mix", "I", false) := by rcases gd_kd hk.1 hk.2 with rfl | rfl | rfl | rfl | rfl <;> rfl
  refine pj_ald0 (q := 1) (pj_d p_X8_mixed 0 rfl) rfl ?_
  refine pj_gf (q := 4) (k := 2) (pj_d p_X8_mixed 1 rfl) rfl kX8_13 ha hF rfl ?_
  refine pj_iret rfl (pj_d p_X8_mixed 2 rfl) (by decide) (by decide) ?_
  exact ⟨rfl, rfl, rfl⟩
theorem c_X6_lookOf {a i sh mx0 : Nat} (ha : h a = some (.inr (gd_tc 3, [.int (nI i), .int (nI sh), .int (nI mx0)]))) (mx st : Nat) (hm : mx < 32) (hs : st < 32) : pj_Ct E B l Y_X6_lookOf 2 0 0 [.ref a, .int (nI mx), .int (nI st)] h n (pj_is (some (.int (nI (gd_left mx st + 32 * (1 + sh))))) h n) := by
  refine pj_in rfl (ls := [some (.ref a), some (.int (nI mx)), some (.int (nI st))]) rfl (Nat.le_of_ble_eq_true rfl) ?_
  refine pj_ild1 (q := 1) (pj_d p_X6_lookOf 0 rfl) rfl ?_
  refine pj_ild2 (q := 2) (pj_d p_X6_lookOf 1 rfl) rfl ?_
  refine pj_iconst (q := 3) (v := (-1)) (pj_d p_X6_lookOf 2 rfl) rfl (by decide) ?_
  refine pj_ixor (q := 4) (pj_d p_X6_lookOf 3 rfl) rfl ?_
  refine pj_iand (q := 5) (pj_d p_X6_lookOf 4 rfl) rfl ?_
  rw [gd_leftI mx hm st hs]
  refine pj_bipush (q := 7) (v := nI 32) (pj_d p_X6_lookOf 5 rfl) rfl (by decide) ?_
  refine pj_iconst (q := 8) (v := nI 1) (pj_d p_X6_lookOf 6 rfl) rfl (by decide) ?_
  refine pj_ald0 (q := 9) (pj_d p_X6_lookOf 7 rfl) rfl ?_
  refine pj_cp (pj_rU (q := 12) (r := (RX6, TX6, 3)) (c_X8_shaped (ci := 0) ha (by omega)) (pj_d p_X6_lookOf 8 rfl) rfl uX6_9_X6 ha rfl rfl rfl (Nat.le_of_ble_eq_true rfl) (by decide)) (by decide) (by decide) ?_
  refine pj_iadd (q := 13) (pj_d p_X6_lookOf 9 rfl) rfl ?_
  refine pj_imul (q := 14) (pj_d p_X6_lookOf 10 rfl) rfl ?_
  refine pj_iadd (q := 15) (pj_d p_X6_lookOf 11 rfl) rfl ?_
  rw [nI_add, pk_mul, nI_add]
  refine pj_iret rfl (pj_d p_X6_lookOf 12 rfl) (by decide) (by decide) ?_
  exact ⟨rfl, rfl, rfl⟩
theorem c_lookOf {a kd i sh mx0 : Nat} (hk : 1 ≤ kd ∧ kd ≤ 5) (ha : h a = some (.inr (gd_tc kd, [.int (nI i), .int (nI sh), .int (nI mx0)]))) (mx st : Nat) (hm : mx < 32) (hs : st < 32) : pj_Ct E B l (gd_Y_lookOf kd) 2 0 0 [.ref a, .int (nI mx), .int (nI st)] h n (pj_is (some (.int (nI (gd_look kd mx sh st)))) h n) := by
  rcases gd_kd hk.1 hk.2 with rfl | rfl | rfl | rfl | rfl
  · exact c_X1_lookOf mx st hm hs
  · exact c_X10_lookOf mx st hm hs
  · exact c_X6_lookOf ha mx st hm hs
  · exact c_X4_lookOf mx st
  · exact c_X2_lookOf mx st
theorem c_X8_lookWithout {a kd i sh mx : Nat} (hk : 1 ≤ kd ∧ kd ≤ 5) (ha : h a = some (.inr (gd_tc kd, [.int (nI i), .int (nI sh), .int (nI mx)]))) (st : Nat) (hm : mx < 32) (hs : st < 32) : pj_Ct E B l Y_X8_lookWithout 3 0 0 [.ref a, .int (nI st)] h n (pj_is (some (.int (nI (gd_look kd mx sh st)))) h n) := by
  refine pj_in rfl (ls := [some (.ref a), some (.int (nI st))]) rfl (Nat.le_of_ble_eq_true rfl) ?_
  have hF : pj_fld (gd_tc kd) 2 = some ("GreyDays$Thing", "mix", "I", false) := by rcases gd_kd hk.1 hk.2 with rfl | rfl | rfl | rfl | rfl <;> rfl
  refine pj_ald0 (q := 1) (pj_d p_X8_lookWithout 0 rfl) rfl ?_
  refine pj_ald0 (q := 2) (pj_d p_X8_lookWithout 1 rfl) rfl ?_
  refine pj_gf (q := 5) (k := 2) (pj_d p_X8_lookWithout 2 rfl) rfl kX8_13 ha hF rfl ?_
  refine pj_ild1 (q := 6) (pj_d p_X8_lookWithout 3 rfl) rfl ?_
  refine pj_cp (vX8_21 (q := 9) rfl ha hk (c_lookOf hk ha mx st hm hs) (pj_d p_X8_lookWithout 4 rfl) rfl rfl rfl (Nat.le_of_ble_eq_true rfl) (by decide)) (by decide) (by decide) ?_
  refine pj_iret rfl (pj_d p_X8_lookWithout 5 rfl) (by decide) (by decide) ?_
  exact ⟨rfl, rfl, rfl⟩
end
