/-! ===== towns are made ===== -/
def gd_Tl (k c p d ac : Nat) : List Value := [.ref (k + 1), .ref (k + 2), .int (nI c), .ref (k + 3), .ref (k + 4), .ref (k + 5), .int (nI p), .int (nI d), .ref (k + 6), .ref (k + 7), .ref (k + 8), .int (nI ac)]
def gd_addT (τ : Nat → Nat) (kd mx sh : Nat) : Nat → Nat := gd_set (gd_set (gd_set (gd_set τ (11 + 3 * τ 1) kd) (12 + 3 * τ 1) mx) (13 + 3 * τ 1) sh) 1 (τ 1 + 1)
def gd_addP (τ : Nat → Nat) (a b hm : Nat) : Nat → Nat := gd_set (gd_set (gd_set (gd_set τ (32 + 3 * τ 2) a) (33 + 3 * τ 2) b) (34 + 3 * τ 2) hm) 2 (τ 2 + 1)
theorem gd_addT_n {τ : Nat → Nat} {kd mx sh j : Nat} (h1 : j ≠ 1) (h : j < 11 + 3 * τ 1 ∨ 13 + 3 * τ 1 < j) : gd_addT τ kd mx sh j = τ j := by
  rw [gd_addT, gd_set_n h1, gd_set_n (by omega), gd_set_n (by omega), gd_set_n (by omega)]
theorem gd_addT_k {τ : Nat → Nat} {kd mx sh : Nat} : gd_addT τ kd mx sh (11 + 3 * τ 1) = kd ∧ gd_addT τ kd mx sh (12 + 3 * τ 1) = mx ∧ gd_addT τ kd mx sh (13 + 3 * τ 1) = sh := by
  refine ⟨?_, ?_, ?_⟩
  · rw [gd_addT, gd_set_n (by omega), gd_set_n (by omega), gd_set_n (by omega), gd_set_s]
  · rw [gd_addT, gd_set_n (by omega), gd_set_n (by omega), gd_set_s]
  · rw [gd_addT, gd_set_n (by omega), gd_set_s]
theorem gd_addP_n {τ : Nat → Nat} {a b hm j : Nat} (h1 : j ≠ 2) (h : j < 32 + 3 * τ 2 ∨ 34 + 3 * τ 2 < j) : gd_addP τ a b hm j = τ j := by
  rw [gd_addP, gd_set_n h1, gd_set_n (by omega), gd_set_n (by omega), gd_set_n (by omega)]
theorem gd_addP_k {τ : Nat → Nat} {a b hm : Nat} : gd_addP τ a b hm (32 + 3 * τ 2) = a ∧ gd_addP τ a b hm (33 + 3 * τ 2) = b ∧ gd_addP τ a b hm (34 + 3 * τ 2) = hm := by
  refine ⟨?_, ?_, ?_⟩
  · rw [gd_addP, gd_set_n (by omega), gd_set_n (by omega), gd_set_n (by omega), gd_set_s]
  · rw [gd_addP, gd_set_n (by omega), gd_set_n (by omega), gd_set_s]
  · rw [gd_addP, gd_set_n (by omega), gd_set_s]
theorem gd_cast {kd : Nat} (hk : 1 ≤ kd ∧ kd ≤ 5) : ∃ r : vw_C, vwCl[gd_tc kd]? = some r ∧ Cond.castable r.1 "GreyDays$Thing" ∈ lw_tbl := by
  rcases gd_kd hk.1 hk.2 with rfl | rfl | rfl | rfl | rfl
  · exact ⟨_, rfl, ca_Dyed_Thing⟩
  · exact ⟨_, rfl, ca_Twin_Thing⟩
  · exact ⟨_, rfl, ca_Shining_Thing⟩
  · exact ⟨_, rfl, ca_Ink_Thing⟩
  · exact ⟨_, rfl, ca_Faded_Thing⟩
theorem gd_T_cong {h : pj_H} {k ac : Nat} {τ τ' : Nat → Nat} (hT : gd_T h k τ ac) (h7 : τ 1 ≤ 7) (h8 : τ 2 ≤ 8) (e : ∀ i, i < 56 → τ' i = τ i) : gd_T h k τ' ac := by
  obtain ⟨d0, ⟨f1, b1, c1⟩, -, d3, -⟩ := id hT
  refine hT.of h8 ?_ (e 1 (by omega)) (e 2 (by omega)) (fun j hj => e _ (by omega)) ⟨f1, b1, fun j hj => by rw [e _ (by omega)]; exact c1 j hj⟩ (fun i hi => ?_) (fun _ _ _ => rfl)
  · rw [d0, gd_To, e 1 (by omega), e 2 (by omega), e 3 (by omega)]
  · rw [e _ (by omega), e _ (by omega), e _ (by omega)]; exact d3 i hi
theorem gd_AX0 {h : pj_H} {k : Nat} {τ τ' : Nat → Nat} {A A' : Nat → Nat → Nat} (hA : gd_AX h k (τ, A, 0)) : gd_AX h k (τ', A', 0) := by
  obtain ⟨a, b, c, d, e, f, -⟩ := hA
  exact ⟨a, b, c, d, e, f, fun j hj => absurd hj (Nat.not_lt_zero j)⟩
theorem gd_AX.out {h h' : pj_H} {k : Nat} {t : gd_TT} (hA : gd_AX h k t) (hq : ∀ q, k + 6 ≤ q → q ≤ k + 8 → h' q = h q) : gd_AX h' k t := by
  obtain ⟨a, b, c, d, e, f, g⟩ := hA
  exact ⟨a, b, c, by rw [hq _ (by omega) (by omega)]; exact d, by rw [hq _ (by omega) (by omega)]; exact e, by rw [hq _ (by omega) (by omega)]; exact f, g⟩
theorem gd_T.out {h h' : pj_H} {k ac : Nat} {τ : Nat → Nat} (hT : gd_T h k τ ac) (hq : ∀ q, k ≤ q → q < k + 9 + τ 1 → h' q = h q) : gd_T h' k τ ac := by
  obtain ⟨d0, ⟨f1, b1, c1⟩, ⟨f2, b2, c2⟩, d3, ⟨f3, b3, c3⟩, ⟨f4, b4, c4⟩, ⟨f5, b5, c5⟩⟩ := hT
  exact ⟨by rw [hq _ (by omega) (by omega)]; exact d0, ⟨f1, by rw [hq _ (by omega) (by omega)]; exact b1, c1⟩, ⟨f2, by rw [hq _ (by omega) (by omega)]; exact b2, c2⟩, fun i hi => by rw [hq _ (by omega) (by omega)]; exact d3 i hi, ⟨f3, by rw [hq _ (by omega) (by omega)]; exact b3, c3⟩, ⟨f4, by rw [hq _ (by omega) (by omega)]; exact b4, c4⟩, ⟨f5, by rw [hq _ (by omega) (by omega)]; exact b5, c5⟩⟩
section
variable {E : pj_E} {B : Nat} {l : Launch} {h : pj_H} {n k ac : Nat} {τ : Nat → Nat}
theorem c_X8_init {a kd : Nat} (hk : 1 ≤ kd ∧ kd ≤ 5) (ha : h a = some (.inr (gd_tc kd, [.int 0, .int 0, .int 0]))) (x m s : Int32) : pj_Ct E B l Y_X8_init 1 0 0 [.ref a, .int x, .int m, .int s] h n (fun r h' n' => r = none ∧ n' = n ∧ h' = pj_up h a (.inr (gd_tc kd, [.int x, .int s, .int m]))) := by
  refine pj_in rfl (ls := [some (.ref a), some (.int (x)), some (.int (m)), some (.int (s))]) rfl (Nat.le_of_ble_eq_true rfl) ?_
  have hF0 : pj_fld (gd_tc kd) 0 = some ("GreyDays$Thing", "number", "I", true) := by rcases gd_kd hk.1 hk.2 with rfl | rfl | rfl | rfl | rfl <;> rfl
  have hF1 : pj_fld (gd_tc kd) 1 = some ("GreyDays$Thing", "shape", "I", true) := by rcases gd_kd hk.1 hk.2 with rfl | rfl | rfl | rfl | rfl <;> rfl
  have hF2 : pj_fld (gd_tc kd) 2 = some ("GreyDays$Thing", "mix", "I", false) := by rcases gd_kd hk.1 hk.2 with rfl | rfl | rfl | rfl | rfl <;> rfl
  refine pj_ald0 (q := 1) (pj_d p_X8_init 0 rfl) rfl ?_
  refine pj_objinit (q := 4) (pj_d p_X8_init 1 rfl) rfl kX8_1 oi_inst oi_code (by decide) (by decide) ?_
  refine pj_ald0 (q := 5) (pj_d p_X8_init 2 rfl) rfl ?_
  refine pj_ild1 (q := 6) (pj_d p_X8_init 3 rfl) rfl ?_
  refine pj_pf (q := 9) (k := 0) (fs' := [.int x, .int 0, .int 0]) (pj_d p_X8_init 4 rfl) rfl kX8_7 ha hF0 (Or.inr ⟨rfl, rfl⟩) rfl rfl rfl (by show 0 < 3; decide) rfl ?_
  refine pj_ald0 (q := 10) (pj_d p_X8_init 5 rfl) rfl ?_
  refine pj_ild2 (q := 11) (pj_d p_X8_init 6 rfl) rfl ?_
  refine pj_pf (q := 14) (k := 2) (fs' := [.int x, .int 0, .int m]) (pj_d p_X8_init 7 rfl) rfl kX8_13 pj_up_s hF2 (Or.inl rfl) rfl rfl rfl (by show 2 < 3; decide) rfl ?_
  refine pj_ald0 (q := 15) (pj_d p_X8_init 8 rfl) rfl ?_
  refine pj_ild3 (q := 16) (pj_d p_X8_init 9 rfl) rfl ?_
  refine pj_pf (q := 19) (k := 1) (fs' := [.int x, .int s, .int m]) (pj_d p_X8_init 10 rfl) rfl kX8_16 pj_up_s hF1 (Or.inr ⟨rfl, rfl⟩) rfl rfl rfl (by show 1 < 3; decide) rfl ?_
  refine pj_vret rfl (pj_d p_X8_init 11 rfl) (by decide) (by decide) ?_
  exact ⟨rfl, rfl, by rw [pj_up_up, pj_up_up]⟩
theorem c_X1_init {a kd : Nat} (hk : 1 ≤ kd ∧ kd ≤ 5) (ha : h a = some (.inr (gd_tc kd, [.int 0, .int 0, .int 0]))) (x m s : Int32) : pj_Ct E B l Y_X1_init 2 0 0 [.ref a, .int x, .int m, .int s] h n (fun r h' n' => r = none ∧ n' = n ∧ h' = pj_up h a (.inr (gd_tc kd, [.int x, .int s, .int m]))) := by
  refine pj_in rfl (ls := [some (.ref a), some (.int (x)), some (.int (m)), some (.int (s))]) rfl (Nat.le_of_ble_eq_true rfl) ?_
  refine pj_ald0 (q := 1) (pj_d p_X1_init 0 rfl) rfl ?_
  refine pj_ild1 (q := 2) (pj_d p_X1_init 1 rfl) rfl ?_
  refine pj_ild2 (q := 3) (pj_d p_X1_init 2 rfl) rfl ?_
  refine pj_ild3 (q := 4) (pj_d p_X1_init 3 rfl) rfl ?_
  refine pj_cv (pj_rI (q := 7) (c_X8_init hk ha x m s) (pj_d p_X1_init 4 rfl) rfl kX1_1 o_X8_init (by rfl) (by rfl) (Nat.le_of_ble_eq_true rfl) (by decide)) (by decide) (by decide) ?_
  rintro r1 h1 n1 ⟨rfl, rfl, rfl⟩
  refine pj_vret rfl (pj_d p_X1_init 5 rfl) (by decide) (by decide) ?_
  exact ⟨rfl, rfl, rfl⟩
theorem c_X4_init {a kd : Nat} (hk : 1 ≤ kd ∧ kd ≤ 5) (ha : h a = some (.inr (gd_tc kd, [.int 0, .int 0, .int 0]))) (x m s : Int32) : pj_Ct E B l Y_X4_init 2 0 0 [.ref a, .int x, .int m, .int s] h n (fun r h' n' => r = none ∧ n' = n ∧ h' = pj_up h a (.inr (gd_tc kd, [.int x, .int s, .int m]))) := by
  refine pj_in rfl (ls := [some (.ref a), some (.int (x)), some (.int (m)), some (.int (s))]) rfl (Nat.le_of_ble_eq_true rfl) ?_
  refine pj_ald0 (q := 1) (pj_d p_X4_init 0 rfl) rfl ?_
  refine pj_ild1 (q := 2) (pj_d p_X4_init 1 rfl) rfl ?_
  refine pj_ild2 (q := 3) (pj_d p_X4_init 2 rfl) rfl ?_
  refine pj_ild3 (q := 4) (pj_d p_X4_init 3 rfl) rfl ?_
  refine pj_cv (pj_rI (q := 7) (c_X8_init hk ha x m s) (pj_d p_X4_init 4 rfl) rfl kX4_1 o_X8_init (by rfl) (by rfl) (Nat.le_of_ble_eq_true rfl) (by decide)) (by decide) (by decide) ?_
  rintro r1 h1 n1 ⟨rfl, rfl, rfl⟩
  refine pj_vret rfl (pj_d p_X4_init 5 rfl) (by decide) (by decide) ?_
  exact ⟨rfl, rfl, rfl⟩
theorem c_X10_init {a kd : Nat} (hk : 1 ≤ kd ∧ kd ≤ 5) (ha : h a = some (.inr (gd_tc kd, [.int 0, .int 0, .int 0]))) (x m s : Int32) : pj_Ct E B l Y_X10_init 3 0 0 [.ref a, .int x, .int m, .int s] h n (fun r h' n' => r = none ∧ n' = n ∧ h' = pj_up h a (.inr (gd_tc kd, [.int x, .int s, .int m]))) := by
  refine pj_in rfl (ls := [some (.ref a), some (.int (x)), some (.int (m)), some (.int (s))]) rfl (Nat.le_of_ble_eq_true rfl) ?_
  refine pj_ald0 (q := 1) (pj_d p_X10_init 0 rfl) rfl ?_
  refine pj_ild1 (q := 2) (pj_d p_X10_init 1 rfl) rfl ?_
  refine pj_ild2 (q := 3) (pj_d p_X10_init 2 rfl) rfl ?_
  refine pj_ild3 (q := 4) (pj_d p_X10_init 3 rfl) rfl ?_
  refine pj_cv (pj_rI (q := 7) (c_X1_init hk ha x m s) (pj_d p_X10_init 4 rfl) rfl kX10_1 o_X1_init (by rfl) (by rfl) (Nat.le_of_ble_eq_true rfl) (by decide)) (by decide) (by decide) ?_
  rintro r1 h1 n1 ⟨rfl, rfl, rfl⟩
  refine pj_vret rfl (pj_d p_X10_init 5 rfl) (by decide) (by decide) ?_
  exact ⟨rfl, rfl, rfl⟩
theorem c_X6_init {a kd : Nat} (hk : 1 ≤ kd ∧ kd ≤ 5) (ha : h a = some (.inr (gd_tc kd, [.int 0, .int 0, .int 0]))) (x m s : Int32) : pj_Ct E B l Y_X6_init 3 0 0 [.ref a, .int x, .int m, .int s] h n (fun r h' n' => r = none ∧ n' = n ∧ h' = pj_up h a (.inr (gd_tc kd, [.int x, .int s, .int m]))) := by
  refine pj_in rfl (ls := [some (.ref a), some (.int (x)), some (.int (m)), some (.int (s))]) rfl (Nat.le_of_ble_eq_true rfl) ?_
  refine pj_ald0 (q := 1) (pj_d p_X6_init 0 rfl) rfl ?_
  refine pj_ild1 (q := 2) (pj_d p_X6_init 1 rfl) rfl ?_
  refine pj_ild2 (q := 3) (pj_d p_X6_init 2 rfl) rfl ?_
  refine pj_ild3 (q := 4) (pj_d p_X6_init 3 rfl) rfl ?_
  refine pj_cv (pj_rI (q := 7) (c_X1_init hk ha x m s) (pj_d p_X6_init 4 rfl) rfl kX6_1 o_X1_init (by rfl) (by rfl) (Nat.le_of_ble_eq_true rfl) (by decide)) (by decide) (by decide) ?_
  rintro r1 h1 n1 ⟨rfl, rfl, rfl⟩
  refine pj_vret rfl (pj_d p_X6_init 5 rfl) (by decide) (by decide) ?_
  exact ⟨rfl, rfl, rfl⟩
theorem c_X2_init {a kd : Nat} (hk : 1 ≤ kd ∧ kd ≤ 5) (ha : h a = some (.inr (gd_tc kd, [.int 0, .int 0, .int 0]))) (x m s : Int32) : pj_Ct E B l Y_X2_init 3 0 0 [.ref a, .int x, .int m, .int s] h n (fun r h' n' => r = none ∧ n' = n ∧ h' = pj_up h a (.inr (gd_tc kd, [.int x, .int s, .int m]))) := by
  refine pj_in rfl (ls := [some (.ref a), some (.int (x)), some (.int (m)), some (.int (s))]) rfl (Nat.le_of_ble_eq_true rfl) ?_
  refine pj_ald0 (q := 1) (pj_d p_X2_init 0 rfl) rfl ?_
  refine pj_ild1 (q := 2) (pj_d p_X2_init 1 rfl) rfl ?_
  refine pj_ild2 (q := 3) (pj_d p_X2_init 2 rfl) rfl ?_
  refine pj_ild3 (q := 4) (pj_d p_X2_init 3 rfl) rfl ?_
  refine pj_cv (pj_rI (q := 7) (c_X4_init hk ha x m s) (pj_d p_X2_init 4 rfl) rfl kX2_1 o_X4_init (by rfl) (by rfl) (Nat.le_of_ble_eq_true rfl) (by decide)) (by decide) (by decide) ?_
  rintro r1 h1 n1 ⟨rfl, rfl, rfl⟩
  refine pj_vret rfl (pj_d p_X2_init 5 rfl) (by decide) (by decide) ?_
  exact ⟨rfl, rfl, rfl⟩
theorem c_X9_addThing (hT : gd_T h k τ ac) (h7 : τ 1 < 7) (h8 : τ 2 ≤ 8) (hn : n = k + 9 + τ 1) (hB : B ≤ n) {kd mx sh : Nat} (hk : 1 ≤ kd ∧ kd ≤ 5) : pj_Ct E B l Y_X9_addThing 4 1 3 [.ref k, .int (nI kd), .int (nI mx), .int (nI sh)] h n (fun r h' n' => r = none ∧ n' = n + 1 ∧ gd_T h' k (gd_addT τ kd mx sh) ac ∧ ∀ q, q ≠ k → q ≠ k + 2 → q ≠ n → h' q = h q) := by
  refine pj_in rfl (ls := [some (.ref k), some (.int (nI kd)), some (.int (nI mx)), some (.int (nI sh)), none]) rfl (Nat.le_of_ble_eq_true rfl) ?_
  obtain ⟨t0, ⟨f1, b1, c1⟩, ⟨f2, b2, c2⟩, t3, ⟨f3, b3, c3⟩, ⟨f4, b4, c4⟩, ⟨f5, b5, c5⟩⟩ := hT
  have h0 : h k = some (.inr (8, gd_Tl k (τ 1) (τ 2) (τ 3) ac)) := t0
  obtain ⟨r, hr1, hr2⟩ := gd_cast hk
  have tail : pj_V E B l Y_X9_addThing 4 1 3 150 [some (.ref k), some (.int (nI kd)), some (.int (nI mx)), some (.int (nI sh)), some (.int (nI (τ 1)))] [] (pj_up (pj_up h n (.inr (gd_tc kd, [.int (nI (τ 1)), .int (nI sh), .int (nI mx)]))) (k + 2) (.inl (2, 7, .inr (.inr (.inr (.inr (va_up f2 (τ 1) (some n)))))))) (n + 1) 1 3 (fun r h' n' => r = none ∧ n' = n + 1 ∧ gd_T h' k (gd_addT τ kd mx sh) ac ∧ ∀ q, q ≠ k → q ≠ k + 2 → q ≠ n → h' q = h q) := by
    refine pj_ald0 (q := 151) (pj_d p_X9_addThing 64 rfl) rfl ?_
    refine pj_dup (q := 152) (pj_d p_X9_addThing 65 rfl) rfl rfl ?_
    refine pj_gf (q := 155) (k := 2) (pj_d p_X9_addThing 66 rfl) rfl kX9_38 (by repeat first | assumption | exact pj_up_s | refine (pj_up_n (by omega)).trans ?_) (by rfl) (by rfl) ?_
    refine pj_iconst (q := 156) (v := nI 1) (pj_d p_X9_addThing 67 rfl) rfl (by decide) ?_
    refine pj_iadd (q := 157) (pj_d p_X9_addThing 68 rfl) rfl ?_
    rw [nI_add]
    refine pj_pf (q := 160) (k := 2) (fs' := gd_Tl k (τ 1 + 1) (τ 2) (τ 3) ac) (pj_d p_X9_addThing 69 rfl) rfl kX9_38 (by repeat first | assumption | exact pj_up_s | refine (pj_up_n (by omega)).trans ?_) (by rfl) (Or.inl rfl) (by rfl) (by rfl) (by rfl) (by show 2 < 12; decide) (by rfl) ?_
    refine pj_vret rfl (pj_d p_X9_addThing 70 rfl) (by decide) (by decide) ?_
    subst hn
    have K := gd_addT_k (τ := τ) (kd := kd) (mx := mx) (sh := sh)
    refine ⟨rfl, rfl, ⟨?_, ⟨f1, ?_, fun j hj => ?_⟩, ⟨_, (pj_up_n (by omega)).trans pj_up_s, fun i hi => ?_⟩, fun i hi => ?_, ⟨f3, ?_, fun j hj => ?_⟩, ⟨f4, ?_, fun j hj => ?_⟩, ⟨f5, ?_, fun j hj => ?_⟩⟩, fun q q1 q2 q3 => by rw [pj_up_n q1, pj_up_n q2, pj_up_n q3]⟩
    · rw [pj_up_s]
      show _ = some (Sum.inr (8, gd_Tl k (τ 1 + 1) (gd_addT τ kd mx sh 2) (gd_addT τ kd mx sh 3) ac))
      rw [gd_addT_n (by omega) (by omega), gd_addT_n (by omega) (by omega)]
    · rw [pj_up_n (by omega), pj_up_n (by omega), pj_up_n (by omega)]; exact b1
    · rw [gd_addT_n (by omega) (by omega)]; exact c1 j hj
    · have hi : i < τ 1 + 1 := hi
      show (if i = τ 1 then some (k + 9 + τ 1) else f2 i) = _
      by_cases e : i = τ 1
      · rw [if_pos e, e]
      · rw [if_neg e]; exact c2 i (by omega)
    · have hi : i < τ 1 + 1 := hi
      by_cases e : i = τ 1
      · subst e
        rw [pj_up_n (by omega), pj_up_n (by omega), pj_up_s, K.1, K.2.1, K.2.2]
      · rw [pj_up_n (by omega), pj_up_n (by omega), pj_up_n (by omega), gd_addT_n (by omega) (by omega), gd_addT_n (by omega) (by omega), gd_addT_n (by omega) (by omega)]
        exact t3 i (by omega)
    · rw [pj_up_n (by omega), pj_up_n (by omega), pj_up_n (by omega)]; exact b3
    · have e2 : gd_addT τ kd mx sh 2 = τ 2 := gd_addT_n (by omega) (by omega)
      rw [e2] at hj
      rw [gd_addT_n (by omega) (by omega)]; exact c3 j hj
    · rw [pj_up_n (by omega), pj_up_n (by omega), pj_up_n (by omega)]; exact b4
    · have e2 : gd_addT τ kd mx sh 2 = τ 2 := gd_addT_n (by omega) (by omega)
      rw [e2] at hj
      rw [gd_addT_n (by omega) (by omega)]; exact c4 j hj
    · rw [pj_up_n (by omega), pj_up_n (by omega), pj_up_n (by omega)]; exact b5
    · have e2 : gd_addT τ kd mx sh 2 = τ 2 := gd_addT_n (by omega) (by omega)
      rw [e2] at hj
      rw [gd_addT_n (by omega) (by omega)]; exact c5 j hj
  refine pj_ald0 (q := 1) (pj_d p_X9_addThing 0 rfl) rfl ?_
  refine pj_gf (q := 4) (k := 2) (pj_d p_X9_addThing 1 rfl) rfl kX9_38 (by repeat first | assumption | exact pj_up_s | refine (pj_up_n (by omega)).trans ?_) (by rfl) (by rfl) ?_
  refine pj_bipush (q := 6) (v := nI 7) (pj_d p_X9_addThing 2 rfl) rfl (by decide) ?_
  refine pj_icmp_lt (t := 10) (q := 9) (pj_d p_X9_addThing 3 rfl) rfl (by decide) (fun c0 => ?_) (fun c0 => ?_)
  rotate_left
  · exact absurd ((nI_ltI (by omega) (by omega)).mpr h7) c0
  refine pj_ald0 (q := 11) (pj_d p_X9_addThing 5 rfl) rfl ?_
  refine pj_gf (q := 14) (k := 2) (pj_d p_X9_addThing 6 rfl) rfl kX9_38 (by repeat first | assumption | exact pj_up_s | refine (pj_up_n (by omega)).trans ?_) (by rfl) (by rfl) ?_
  refine pj_ist4 (q := 16) (pj_d p_X9_addThing 7 rfl) rfl (by first | rfl | assumption) ?_
  refine pj_ild1 (q := 17) (pj_d p_X9_addThing 8 rfl) rfl ?_
  rcases gd_kd hk.1 hk.2 with rfl | rfl | rfl | rfl | rfl
  · refine pj_tabOut (t := 132) (dflt := 115) (lo := 2) (hi := 5) (offs := #[31, 52, 73, 94]) (pj_d p_X9_addThing 9 rfl) (by decide) (by decide) ?_
    refine pj_ald0 (q := 133) (pj_d p_X9_addThing 54 rfl) rfl ?_
    refine pj_gf (q := 136) (k := 1) (pj_d p_X9_addThing 55 rfl) rfl kX9_15 (by repeat first | assumption | exact pj_up_s | refine (pj_up_n (by omega)).trans ?_) (by rfl) (by rfl) ?_
    refine pj_ild4 (q := 138) (pj_d p_X9_addThing 56 rfl) rfl ?_
    refine pj_new (q := 141) (ci := 1) (fs := [.int 0, .int 0, .int 0]) (pj_d p_X9_addThing 57 rfl) rfl kX9_78 iX1 zX1 rfl tyX1 tyX1_ok (fun j hj => by match j, hj with | 0, _ => rfl | 1, _ => rfl | 2, _ => rfl | j + 3, hj => exact absurd hj (by omega)) (by omega) (by omega) (by omega) ?_
    refine pj_dup (q := 142) (pj_d p_X9_addThing 58 rfl) rfl rfl ?_
    refine pj_ild4 (q := 144) (pj_d p_X9_addThing 59 rfl) rfl ?_
    refine pj_ild2 (q := 145) (pj_d p_X9_addThing 60 rfl) rfl ?_
    refine pj_ild3 (q := 146) (pj_d p_X9_addThing 61 rfl) rfl ?_
    refine pj_cv (pj_rI (q := 149) (c_X1_init (kd := 1) (by omega) pj_up_s (nI (τ 1)) (nI mx) (nI sh)) (pj_d p_X9_addThing 62 rfl) rfl kX9_80 o_X1_init (by rfl) (by rfl) (Nat.le_of_ble_eq_true rfl) (by decide)) (by decide) (by decide) ?_
    rintro r1 h1 n1 ⟨rfl, rfl, rfl⟩
    rw [pj_up_up]
    refine pj_aast (t := 2) (q := 150) (C := "GreyDays$Thing") rfl (Or.inr hr2) hr1 (pj_d p_X9_addThing 63 rfl) rfl ((pj_up_n (by omega)).trans b2) pj_up_s rfl h7 (by decide) ?_
    exact tail
  · refine pj_tabIn (t := 48) (dflt := 115) (lo := 2) (hi := 5) (offs := #[31, 52, 73, 94]) (off := 31) (pj_d p_X9_addThing 9 rfl) (by decide) (by decide) (by rfl) (by decide) ?_
    refine pj_ald0 (q := 49) (pj_d p_X9_addThing 10 rfl) rfl ?_
    refine pj_gf (q := 52) (k := 1) (pj_d p_X9_addThing 11 rfl) rfl kX9_15 (by repeat first | assumption | exact pj_up_s | refine (pj_up_n (by omega)).trans ?_) (by rfl) (by rfl) ?_
    refine pj_ild4 (q := 54) (pj_d p_X9_addThing 12 rfl) rfl ?_
    refine pj_new (q := 57) (ci := 9) (fs := [.int 0, .int 0, .int 0]) (pj_d p_X9_addThing 13 rfl) rfl kX9_65 iX10 zX10 rfl tyX10 tyX10_ok (fun j hj => by match j, hj with | 0, _ => rfl | 1, _ => rfl | 2, _ => rfl | j + 3, hj => exact absurd hj (by omega)) (by omega) (by omega) (by omega) ?_
    refine pj_dup (q := 58) (pj_d p_X9_addThing 14 rfl) rfl rfl ?_
    refine pj_ild4 (q := 60) (pj_d p_X9_addThing 15 rfl) rfl ?_
    refine pj_ild2 (q := 61) (pj_d p_X9_addThing 16 rfl) rfl ?_
    refine pj_ild3 (q := 62) (pj_d p_X9_addThing 17 rfl) rfl ?_
    refine pj_cv (pj_rI (q := 65) (c_X10_init (kd := 2) (by omega) pj_up_s (nI (τ 1)) (nI mx) (nI sh)) (pj_d p_X9_addThing 18 rfl) rfl kX9_67 o_X10_init (by rfl) (by rfl) (Nat.le_of_ble_eq_true rfl) (by decide)) (by decide) (by decide) ?_
    rintro r1 h1 n1 ⟨rfl, rfl, rfl⟩
    rw [pj_up_up]
    refine pj_aast (t := 2) (q := 66) (C := "GreyDays$Thing") rfl (Or.inr hr2) hr1 (pj_d p_X9_addThing 19 rfl) rfl ((pj_up_n (by omega)).trans b2) pj_up_s rfl h7 (by decide) ?_
    refine pj_goto (t := 150) (pj_d p_X9_addThing 20 rfl) (by decide) ?_
    exact tail
  · refine pj_tabIn (t := 69) (dflt := 115) (lo := 2) (hi := 5) (offs := #[31, 52, 73, 94]) (off := 52) (pj_d p_X9_addThing 9 rfl) (by decide) (by decide) (by rfl) (by decide) ?_
    refine pj_ald0 (q := 70) (pj_d p_X9_addThing 21 rfl) rfl ?_
    refine pj_gf (q := 73) (k := 1) (pj_d p_X9_addThing 22 rfl) rfl kX9_15 (by repeat first | assumption | exact pj_up_s | refine (pj_up_n (by omega)).trans ?_) (by rfl) (by rfl) ?_
    refine pj_ild4 (q := 75) (pj_d p_X9_addThing 23 rfl) rfl ?_
    refine pj_new (q := 78) (ci := 6) (fs := [.int 0, .int 0, .int 0]) (pj_d p_X9_addThing 24 rfl) rfl kX9_69 iX6 zX6 rfl tyX6 tyX6_ok (fun j hj => by match j, hj with | 0, _ => rfl | 1, _ => rfl | 2, _ => rfl | j + 3, hj => exact absurd hj (by omega)) (by omega) (by omega) (by omega) ?_
    refine pj_dup (q := 79) (pj_d p_X9_addThing 25 rfl) rfl rfl ?_
    refine pj_ild4 (q := 81) (pj_d p_X9_addThing 26 rfl) rfl ?_
    refine pj_ild2 (q := 82) (pj_d p_X9_addThing 27 rfl) rfl ?_
    refine pj_ild3 (q := 83) (pj_d p_X9_addThing 28 rfl) rfl ?_
    refine pj_cv (pj_rI (q := 86) (c_X6_init (kd := 3) (by omega) pj_up_s (nI (τ 1)) (nI mx) (nI sh)) (pj_d p_X9_addThing 29 rfl) rfl kX9_71 o_X6_init (by rfl) (by rfl) (Nat.le_of_ble_eq_true rfl) (by decide)) (by decide) (by decide) ?_
    rintro r1 h1 n1 ⟨rfl, rfl, rfl⟩
    rw [pj_up_up]
    refine pj_aast (t := 2) (q := 87) (C := "GreyDays$Thing") rfl (Or.inr hr2) hr1 (pj_d p_X9_addThing 30 rfl) rfl ((pj_up_n (by omega)).trans b2) pj_up_s rfl h7 (by decide) ?_
    refine pj_goto (t := 150) (pj_d p_X9_addThing 31 rfl) (by decide) ?_
    exact tail
  · refine pj_tabIn (t := 90) (dflt := 115) (lo := 2) (hi := 5) (offs := #[31, 52, 73, 94]) (off := 73) (pj_d p_X9_addThing 9 rfl) (by decide) (by decide) (by rfl) (by decide) ?_
    refine pj_ald0 (q := 91) (pj_d p_X9_addThing 32 rfl) rfl ?_
    refine pj_gf (q := 94) (k := 1) (pj_d p_X9_addThing 33 rfl) rfl kX9_15 (by repeat first | assumption | exact pj_up_s | refine (pj_up_n (by omega)).trans ?_) (by rfl) (by rfl) ?_
    refine pj_ild4 (q := 96) (pj_d p_X9_addThing 34 rfl) rfl ?_
    refine pj_new (q := 99) (ci := 4) (fs := [.int 0, .int 0, .int 0]) (pj_d p_X9_addThing 35 rfl) rfl kX9_72 iX4 zX4 rfl tyX4 tyX4_ok (fun j hj => by match j, hj with | 0, _ => rfl | 1, _ => rfl | 2, _ => rfl | j + 3, hj => exact absurd hj (by omega)) (by omega) (by omega) (by omega) ?_
    refine pj_dup (q := 100) (pj_d p_X9_addThing 36 rfl) rfl rfl ?_
    refine pj_ild4 (q := 102) (pj_d p_X9_addThing 37 rfl) rfl ?_
    refine pj_ild2 (q := 103) (pj_d p_X9_addThing 38 rfl) rfl ?_
    refine pj_ild3 (q := 104) (pj_d p_X9_addThing 39 rfl) rfl ?_
    refine pj_cv (pj_rI (q := 107) (c_X4_init (kd := 4) (by omega) pj_up_s (nI (τ 1)) (nI mx) (nI sh)) (pj_d p_X9_addThing 40 rfl) rfl kX9_74 o_X4_init (by rfl) (by rfl) (Nat.le_of_ble_eq_true rfl) (by decide)) (by decide) (by decide) ?_
    rintro r1 h1 n1 ⟨rfl, rfl, rfl⟩
    rw [pj_up_up]
    refine pj_aast (t := 2) (q := 108) (C := "GreyDays$Thing") rfl (Or.inr hr2) hr1 (pj_d p_X9_addThing 41 rfl) rfl ((pj_up_n (by omega)).trans b2) pj_up_s rfl h7 (by decide) ?_
    refine pj_goto (t := 150) (pj_d p_X9_addThing 42 rfl) (by decide) ?_
    exact tail
  · refine pj_tabIn (t := 111) (dflt := 115) (lo := 2) (hi := 5) (offs := #[31, 52, 73, 94]) (off := 94) (pj_d p_X9_addThing 9 rfl) (by decide) (by decide) (by rfl) (by decide) ?_
    refine pj_ald0 (q := 112) (pj_d p_X9_addThing 43 rfl) rfl ?_
    refine pj_gf (q := 115) (k := 1) (pj_d p_X9_addThing 44 rfl) rfl kX9_15 (by repeat first | assumption | exact pj_up_s | refine (pj_up_n (by omega)).trans ?_) (by rfl) (by rfl) ?_
    refine pj_ild4 (q := 117) (pj_d p_X9_addThing 45 rfl) rfl ?_
    refine pj_new (q := 120) (ci := 2) (fs := [.int 0, .int 0, .int 0]) (pj_d p_X9_addThing 46 rfl) rfl kX9_75 iX2 zX2 rfl tyX2 tyX2_ok (fun j hj => by match j, hj with | 0, _ => rfl | 1, _ => rfl | 2, _ => rfl | j + 3, hj => exact absurd hj (by omega)) (by omega) (by omega) (by omega) ?_
    refine pj_dup (q := 121) (pj_d p_X9_addThing 47 rfl) rfl rfl ?_
    refine pj_ild4 (q := 123) (pj_d p_X9_addThing 48 rfl) rfl ?_
    refine pj_ild2 (q := 124) (pj_d p_X9_addThing 49 rfl) rfl ?_
    refine pj_ild3 (q := 125) (pj_d p_X9_addThing 50 rfl) rfl ?_
    refine pj_cv (pj_rI (q := 128) (c_X2_init (kd := 5) (by omega) pj_up_s (nI (τ 1)) (nI mx) (nI sh)) (pj_d p_X9_addThing 51 rfl) rfl kX9_77 o_X2_init (by rfl) (by rfl) (Nat.le_of_ble_eq_true rfl) (by decide)) (by decide) (by decide) ?_
    rintro r1 h1 n1 ⟨rfl, rfl, rfl⟩
    rw [pj_up_up]
    refine pj_aast (t := 2) (q := 129) (C := "GreyDays$Thing") rfl (Or.inr hr2) hr1 (pj_d p_X9_addThing 52 rfl) rfl ((pj_up_n (by omega)).trans b2) pj_up_s rfl h7 (by decide) ?_
    refine pj_goto (t := 150) (pj_d p_X9_addThing 53 rfl) (by decide) ?_
    exact tail
theorem c_X9_addPair (hT : gd_T h k τ ac) (h7 : τ 1 ≤ 7) (h8 : τ 2 < 8) (a b hm : Nat) : pj_Ct E B l Y_X9_addPair 1 0 0 [.ref k, .int (nI a), .int (nI b), .int (nI hm)] h n (fun r h' n' => r = none ∧ n' = n ∧ gd_T h' k (gd_addP τ a b hm) ac ∧ ∀ q, q ≠ k → q ≠ k + 3 → q ≠ k + 4 → q ≠ k + 5 → h' q = h q) := by
  refine pj_in rfl (ls := [some (.ref k), some (.int (nI a)), some (.int (nI b)), some (.int (nI hm))]) rfl (Nat.le_of_ble_eq_true rfl) ?_
  obtain ⟨t0, ⟨f1, b1, c1⟩, ⟨f2, b2, c2⟩, t3, ⟨f3, b3, c3⟩, ⟨f4, b4, c4⟩, ⟨f5, b5, c5⟩⟩ := hT
  have h0 : h k = some (.inr (8, gd_Tl k (τ 1) (τ 2) (τ 3) ac)) := t0
  refine pj_ald0 (q := 1) (pj_d p_X9_addPair 0 rfl) rfl ?_
  refine pj_gf (q := 4) (k := 6) (pj_d p_X9_addPair 1 rfl) rfl kX9_56 (by repeat first | assumption | exact pj_up_s | refine (pj_up_n (by omega)).trans ?_) (by rfl) (by rfl) ?_
  refine pj_bipush (q := 6) (v := nI 8) (pj_d p_X9_addPair 2 rfl) rfl (by decide) ?_
  refine pj_icmp_ge (t := 49) (q := 9) (pj_d p_X9_addPair 3 rfl) rfl (by decide) (fun c0 => ?_) (fun c0 => ?_)
  · exact absurd (gd_ge c0 (by omega) (by omega)) (by omega)
  refine pj_ald0 (q := 10) (pj_d p_X9_addPair 4 rfl) rfl ?_
  refine pj_gf (q := 13) (k := 3) (pj_d p_X9_addPair 5 rfl) rfl kX9_19 (by repeat first | assumption | exact pj_up_s | refine (pj_up_n (by omega)).trans ?_) (by rfl) (by rfl) ?_
  refine pj_ald0 (q := 14) (pj_d p_X9_addPair 6 rfl) rfl ?_
  refine pj_gf (q := 17) (k := 6) (pj_d p_X9_addPair 7 rfl) rfl kX9_56 (by repeat first | assumption | exact pj_up_s | refine (pj_up_n (by omega)).trans ?_) (by rfl) (by rfl) ?_
  refine pj_ild1 (q := 18) (pj_d p_X9_addPair 8 rfl) rfl ?_
  refine pj_iast (q := 19) (pj_d p_X9_addPair 9 rfl) rfl (by repeat first | assumption | exact pj_up_s | refine (pj_up_n (by omega)).trans ?_) (by rfl) (by first | assumption | omega) (Nat.le_of_ble_eq_true rfl) ?_
  refine pj_ald0 (q := 20) (pj_d p_X9_addPair 10 rfl) rfl ?_
  refine pj_gf (q := 23) (k := 4) (pj_d p_X9_addPair 11 rfl) rfl kX9_22 (by repeat first | assumption | exact pj_up_s | refine (pj_up_n (by omega)).trans ?_) (by rfl) (by rfl) ?_
  refine pj_ald0 (q := 24) (pj_d p_X9_addPair 12 rfl) rfl ?_
  refine pj_gf (q := 27) (k := 6) (pj_d p_X9_addPair 13 rfl) rfl kX9_56 (by repeat first | assumption | exact pj_up_s | refine (pj_up_n (by omega)).trans ?_) (by rfl) (by rfl) ?_
  refine pj_ild2 (q := 28) (pj_d p_X9_addPair 14 rfl) rfl ?_
  refine pj_iast (q := 29) (pj_d p_X9_addPair 15 rfl) rfl (by repeat first | assumption | exact pj_up_s | refine (pj_up_n (by omega)).trans ?_) (by rfl) (by first | assumption | omega) (Nat.le_of_ble_eq_true rfl) ?_
  refine pj_ald0 (q := 30) (pj_d p_X9_addPair 16 rfl) rfl ?_
  refine pj_gf (q := 33) (k := 5) (pj_d p_X9_addPair 17 rfl) rfl kX9_25 (by repeat first | assumption | exact pj_up_s | refine (pj_up_n (by omega)).trans ?_) (by rfl) (by rfl) ?_
  refine pj_ald0 (q := 34) (pj_d p_X9_addPair 18 rfl) rfl ?_
  refine pj_gf (q := 37) (k := 6) (pj_d p_X9_addPair 19 rfl) rfl kX9_56 (by repeat first | assumption | exact pj_up_s | refine (pj_up_n (by omega)).trans ?_) (by rfl) (by rfl) ?_
  refine pj_ild3 (q := 38) (pj_d p_X9_addPair 20 rfl) rfl ?_
  refine pj_iast (q := 39) (pj_d p_X9_addPair 21 rfl) rfl (by repeat first | assumption | exact pj_up_s | refine (pj_up_n (by omega)).trans ?_) (by rfl) (by first | assumption | omega) (Nat.le_of_ble_eq_true rfl) ?_
  refine pj_ald0 (q := 40) (pj_d p_X9_addPair 22 rfl) rfl ?_
  refine pj_dup (q := 41) (pj_d p_X9_addPair 23 rfl) rfl rfl ?_
  refine pj_gf (q := 44) (k := 6) (pj_d p_X9_addPair 24 rfl) rfl kX9_56 (by repeat first | assumption | exact pj_up_s | refine (pj_up_n (by omega)).trans ?_) (by rfl) (by rfl) ?_
  refine pj_iconst (q := 45) (v := nI 1) (pj_d p_X9_addPair 25 rfl) rfl (by decide) ?_
  refine pj_iadd (q := 46) (pj_d p_X9_addPair 26 rfl) rfl ?_
  rw [nI_add]
  refine pj_pf (q := 49) (k := 6) (fs' := gd_Tl k (τ 1) (τ 2 + 1) (τ 3) ac) (pj_d p_X9_addPair 27 rfl) rfl kX9_56 (by repeat first | assumption | exact pj_up_s | refine (pj_up_n (by omega)).trans ?_) (by rfl) (Or.inl rfl) (by rfl) (by rfl) (by rfl) (by show 6 < 12; decide) (by rfl) ?_
  refine pj_vret rfl (pj_d p_X9_addPair 28 rfl) (by decide) (by decide) ?_
  have K := gd_addP_k (τ := τ) (a := a) (b := b) (hm := hm)
  have e1 : gd_addP τ a b hm 1 = τ 1 := gd_addP_n (by omega) (by omega)
  refine ⟨rfl, rfl, ⟨?_, ⟨f1, ?_, fun j hj => ?_⟩, ⟨f2, ?_, fun i hi => c2 i (by omega)⟩, fun i hi => ?_, ⟨_, (pj_up_n (by omega)).trans ((pj_up_n (by omega)).trans ((pj_up_n (by omega)).trans pj_up_s)), fun j hj => ?_⟩, ⟨_, (pj_up_n (by omega)).trans ((pj_up_n (by omega)).trans pj_up_s), fun j hj => ?_⟩, ⟨_, (pj_up_n (by omega)).trans pj_up_s, fun j hj => ?_⟩⟩, fun q q1 q2 q3 q4 => by rw [pj_up_n q1, pj_up_n q4, pj_up_n q3, pj_up_n q2]⟩
  · rw [pj_up_s]
    show _ = some (Sum.inr (8, gd_Tl k (gd_addP τ a b hm 1) (τ 2 + 1) (gd_addP τ a b hm 3) ac))
    rw [e1, gd_addP_n (by omega) (by omega)]
  · rw [pj_up_n (by omega), pj_up_n (by omega), pj_up_n (by omega), pj_up_n (by omega)]; exact b1
  · rw [gd_addP_n (by omega) (by omega)]; exact c1 j hj
  · rw [pj_up_n (by omega), pj_up_n (by omega), pj_up_n (by omega), pj_up_n (by omega)]; exact b2
  · rw [pj_up_n (by omega), pj_up_n (by omega), pj_up_n (by omega), pj_up_n (by omega), gd_addP_n (by omega) (by omega), gd_addP_n (by omega) (by omega), gd_addP_n (by omega) (by omega)]
    exact t3 i (by omega)
  · have hj : j < τ 2 + 1 := hj
    rw [gd_upd]
    by_cases e : j = τ 2
    · rw [if_pos e, e, K.1]
    · rw [if_neg e, gd_addP_n (by omega) (by omega)]; exact c3 j (by omega)
  · have hj : j < τ 2 + 1 := hj
    rw [gd_upd]
    by_cases e : j = τ 2
    · rw [if_pos e, e, K.2.1]
    · rw [if_neg e, gd_addP_n (by omega) (by omega)]; exact c4 j (by omega)
  · have hj : j < τ 2 + 1 := hj
    rw [gd_upd]
    by_cases e : j = τ 2
    · rw [if_pos e, e, K.2.2]
    · rw [if_neg e, gd_addP_n (by omega) (by omega)]; exact c5 j (by omega)
theorem c_X9_init {a : Nat} (ha : h a = some (.inr (8, [.null, .null, .int 0, .null, .null, .null, .int 0, .int 0, .null, .null, .null, .int 0]))) (hn : n = a + 1) (hB : B ≤ a) : pj_Ct E B l Y_X9_init 1 8 110 [.ref a] h n (fun r h' n' => r = none ∧ n' = a + 9 ∧ gd_T h' a (fun _ => 0) 0 ∧ gd_AX h' a ((fun _ => 0), (fun _ _ => 0), 0) ∧ ∀ q, q < a → h' q = h q) := by
  subst hn
  refine pj_in rfl (ls := [some (.ref a)]) rfl (Nat.le_of_ble_eq_true rfl) ?_
  refine pj_ald0 (q := 1) (pj_d p_X9_init 0 rfl) rfl ?_
  refine pj_objinit (q := 4) (pj_d p_X9_init 1 rfl) rfl kX9_1 oi_inst oi_code (by decide) (by decide) ?_
  refine pj_ald0 (q := 5) (pj_d p_X9_init 2 rfl) rfl ?_
  refine pj_bipush (q := 7) (v := nI 7) (pj_d p_X9_init 3 rfl) rfl (by decide) ?_
  refine pj_newi (N := 7) (q := 9) ac_int (pj_d p_X9_init 4 rfl) rfl rfl (by omega) (by omega) (by omega) (by omega) ?_
  refine pj_pf (q := 12) (k := 0) (fs' := [.ref (a + 1), .null, .int 0, .null, .null, .null, .int 0, .int 0, .null, .null, .null, .int 0]) (pj_d p_X9_init 5 rfl) rfl kX9_9 (by repeat first | assumption | exact pj_up_s | refine (pj_up_n (by omega)).trans ?_) (by rfl) (Or.inr ⟨rfl, rfl⟩) (by rfl) (by rfl) (by rfl) (by show 0 < 12; decide) (by rfl) ?_
  refine pj_ald0 (q := 13) (pj_d p_X9_init 6 rfl) rfl ?_
  refine pj_bipush (q := 15) (v := nI 7) (pj_d p_X9_init 7 rfl) rfl (by decide) ?_
  refine pj_newr (t := 2) (N := 7) (q := 18) rfl kX9_13 ao_Thing (pj_d p_X9_init 8 rfl) rfl rfl (by omega) (by omega) (by omega) (by omega) ?_
  refine pj_pf (q := 21) (k := 1) (fs' := [.ref (a + 1), .ref (a + 2), .int 0, .null, .null, .null, .int 0, .int 0, .null, .null, .null, .int 0]) (pj_d p_X9_init 9 rfl) rfl kX9_15 (by repeat first | assumption | exact pj_up_s | refine (pj_up_n (by omega)).trans ?_) (by rfl) (Or.inr ⟨rfl, rfl⟩) (by rfl) (by rfl) (by rfl) (by show 1 < 12; decide) (by rfl) ?_
  refine pj_ald0 (q := 22) (pj_d p_X9_init 10 rfl) rfl ?_
  refine pj_bipush (q := 24) (v := nI 8) (pj_d p_X9_init 11 rfl) rfl (by decide) ?_
  refine pj_newi (N := 8) (q := 26) ac_int (pj_d p_X9_init 12 rfl) rfl rfl (by omega) (by omega) (by omega) (by omega) ?_
  refine pj_pf (q := 29) (k := 3) (fs' := [.ref (a + 1), .ref (a + 2), .int 0, .ref (a + 3), .null, .null, .int 0, .int 0, .null, .null, .null, .int 0]) (pj_d p_X9_init 13 rfl) rfl kX9_19 (by repeat first | assumption | exact pj_up_s | refine (pj_up_n (by omega)).trans ?_) (by rfl) (Or.inr ⟨rfl, rfl⟩) (by rfl) (by rfl) (by rfl) (by show 3 < 12; decide) (by rfl) ?_
  refine pj_ald0 (q := 30) (pj_d p_X9_init 14 rfl) rfl ?_
  refine pj_bipush (q := 32) (v := nI 8) (pj_d p_X9_init 15 rfl) rfl (by decide) ?_
  refine pj_newi (N := 8) (q := 34) ac_int (pj_d p_X9_init 16 rfl) rfl rfl (by omega) (by omega) (by omega) (by omega) ?_
  refine pj_pf (q := 37) (k := 4) (fs' := [.ref (a + 1), .ref (a + 2), .int 0, .ref (a + 3), .ref (a + 4), .null, .int 0, .int 0, .null, .null, .null, .int 0]) (pj_d p_X9_init 17 rfl) rfl kX9_22 (by repeat first | assumption | exact pj_up_s | refine (pj_up_n (by omega)).trans ?_) (by rfl) (Or.inr ⟨rfl, rfl⟩) (by rfl) (by rfl) (by rfl) (by show 4 < 12; decide) (by rfl) ?_
  refine pj_ald0 (q := 38) (pj_d p_X9_init 18 rfl) rfl ?_
  refine pj_bipush (q := 40) (v := nI 8) (pj_d p_X9_init 19 rfl) rfl (by decide) ?_
  refine pj_newi (N := 8) (q := 42) ac_int (pj_d p_X9_init 20 rfl) rfl rfl (by omega) (by omega) (by omega) (by omega) ?_
  refine pj_pf (q := 45) (k := 5) (fs' := [.ref (a + 1), .ref (a + 2), .int 0, .ref (a + 3), .ref (a + 4), .ref (a + 5), .int 0, .int 0, .null, .null, .null, .int 0]) (pj_d p_X9_init 21 rfl) rfl kX9_25 (by repeat first | assumption | exact pj_up_s | refine (pj_up_n (by omega)).trans ?_) (by rfl) (Or.inr ⟨rfl, rfl⟩) (by rfl) (by rfl) (by rfl) (by show 5 < 12; decide) (by rfl) ?_
  refine pj_ald0 (q := 46) (pj_d p_X9_init 22 rfl) rfl ?_
  refine pj_bipush (q := 48) (v := nI 24) (pj_d p_X9_init 23 rfl) rfl (by decide) ?_
  refine pj_newi (N := 24) (q := 50) ac_int (pj_d p_X9_init 24 rfl) rfl rfl (by omega) (by omega) (by omega) (by omega) ?_
  refine pj_pf (q := 53) (k := 8) (fs' := [.ref (a + 1), .ref (a + 2), .int 0, .ref (a + 3), .ref (a + 4), .ref (a + 5), .int 0, .int 0, .ref (a + 6), .null, .null, .int 0]) (pj_d p_X9_init 25 rfl) rfl kX9_28 (by repeat first | assumption | exact pj_up_s | refine (pj_up_n (by omega)).trans ?_) (by rfl) (Or.inr ⟨rfl, rfl⟩) (by rfl) (by rfl) (by rfl) (by show 8 < 12; decide) (by rfl) ?_
  refine pj_ald0 (q := 54) (pj_d p_X9_init 26 rfl) rfl ?_
  refine pj_bipush (q := 56) (v := nI 24) (pj_d p_X9_init 27 rfl) rfl (by decide) ?_
  refine pj_newi (N := 24) (q := 58) ac_int (pj_d p_X9_init 28 rfl) rfl rfl (by omega) (by omega) (by omega) (by omega) ?_
  refine pj_pf (q := 61) (k := 9) (fs' := [.ref (a + 1), .ref (a + 2), .int 0, .ref (a + 3), .ref (a + 4), .ref (a + 5), .int 0, .int 0, .ref (a + 6), .ref (a + 7), .null, .int 0]) (pj_d p_X9_init 29 rfl) rfl kX9_31 (by repeat first | assumption | exact pj_up_s | refine (pj_up_n (by omega)).trans ?_) (by rfl) (Or.inr ⟨rfl, rfl⟩) (by rfl) (by rfl) (by rfl) (by show 9 < 12; decide) (by rfl) ?_
  refine pj_ald0 (q := 62) (pj_d p_X9_init 30 rfl) rfl ?_
  refine pj_bipush (q := 64) (v := nI 24) (pj_d p_X9_init 31 rfl) rfl (by decide) ?_
  refine pj_newi (N := 24) (q := 66) ac_int (pj_d p_X9_init 32 rfl) rfl rfl (by omega) (by omega) (by omega) (by omega) ?_
  refine pj_pf (q := 69) (k := 10) (fs' := [.ref (a + 1), .ref (a + 2), .int 0, .ref (a + 3), .ref (a + 4), .ref (a + 5), .int 0, .int 0, .ref (a + 6), .ref (a + 7), .ref (a + 8), .int 0]) (pj_d p_X9_init 33 rfl) rfl kX9_34 (by repeat first | assumption | exact pj_up_s | refine (pj_up_n (by omega)).trans ?_) (by rfl) (Or.inr ⟨rfl, rfl⟩) (by rfl) (by rfl) (by rfl) (by show 10 < 12; decide) (by rfl) ?_
  refine pj_vret rfl (pj_d p_X9_init 34 rfl) (by decide) (by decide) ?_
  refine ⟨rfl, rfl, ⟨pj_up_s, ⟨fun _ => 0, by repeat first | exact pj_up_s | refine (pj_up_n (by omega)).trans ?_, fun _ _ => rfl⟩, ⟨fun _ => none, by repeat first | exact pj_up_s | refine (pj_up_n (by omega)).trans ?_, fun i hi => absurd hi (Nat.not_lt_zero i)⟩, fun i hi => absurd hi (Nat.not_lt_zero i), ⟨fun _ => 0, by repeat first | exact pj_up_s | refine (pj_up_n (by omega)).trans ?_, fun i hi => absurd hi (Nat.not_lt_zero i)⟩, ⟨fun _ => 0, by repeat first | exact pj_up_s | refine (pj_up_n (by omega)).trans ?_, fun i hi => absurd hi (Nat.not_lt_zero i)⟩, ⟨fun _ => 0, by repeat first | exact pj_up_s | refine (pj_up_n (by omega)).trans ?_, fun i hi => absurd hi (Nat.not_lt_zero i)⟩⟩, ⟨fun _ => 0, fun _ => 0, fun _ => 0, by repeat first | exact pj_up_s | refine (pj_up_n (by omega)).trans ?_, by repeat first | exact pj_up_s | refine (pj_up_n (by omega)).trans ?_, by repeat first | exact pj_up_s | refine (pj_up_n (by omega)).trans ?_, fun j hj => absurd hj (Nat.not_lt_zero j)⟩, fun q hq => by repeat first | rfl | refine (pj_up_n (by omega)).trans ?_⟩
end
