/-! ===== the constructors ===== -/
section
variable {E : pj_E} {B : Nat} {l : Launch} {h : pj_H} {n : Nat}
theorem c_X5_init {a : Nat} (ha : h a = some (.inr (5, [.null, .null, .null]))) (hn : n = a + 1) (hB : B ≤ a) : pj_Ct E B l Y_X5_init 2 11 344 [.ref a] h n (fun r h' n' => r = none ∧ n' = a + 12 ∧ h' a = some (.inr (5, [.ref (a + 1), .ref (a + 10), .ref (a + 11)])) ∧ (∃ f, h' (a + 1) = some (.inl (4, 8, .inr (.inr (.inr (.inr f))))) ∧ ∀ r, r < 8 → f r = some (a + 2 + r)) ∧ (∀ r, r < 8 → h' (a + 2 + r) = some (.inl (0, 40, .inl (fun _ => 0)))) ∧ (∃ f, h' (a + 10) = some (.inl (0, 8, .inl f)) ∧ ∀ r, r < 8 → f r = -1) ∧ h' (a + 11) = some (.inl (0, 8, .inl (fun _ => 0))) ∧ ∀ q, q < a → h' q = h q) := by
  subst hn
  refine pj_in rfl (ls := [some (.ref a)]) rfl (Nat.le_of_ble_eq_true rfl) ?_
  refine pj_ald0 (q := 1) (pj_d p_X5_init 0 rfl) rfl ?_
  refine pj_objinit (q := 4) (pj_d p_X5_init 1 rfl) rfl kX5_1 oi_inst oi_code (by decide) (by decide) ?_
  refine pj_ald0 (q := 5) (pj_d p_X5_init 2 rfl) rfl ?_
  refine pj_bipush (q := 7) (v := nI 8) (pj_d p_X5_init 3 rfl) rfl (by decide) ?_
  refine pj_bipush (q := 9) (v := nI 40) (pj_d p_X5_init 4 rfl) rfl (by decide) ?_
  refine pj_mna (q := 13) (N := 8) (K := 40) kX5_9 (pj_d p_X5_init 5 rfl) rfl (by omega) (by omega) (by omega) (by omega) (by omega) ?_
  have m0 : gd_mn h (a + 1) 8 40 a = some (.inr (5, [.null, .null, .null])) := by
    rw [gd_mn, if_neg (by omega), if_neg (by omega)]
    exact ha
  have m1 : gd_mn h (a + 1) 8 40 (a + 1) = some (.inl (4, 8, .inr (.inr (.inr (.inr (fun j => if j < 8 then some (a + 1 + 1 + j) else none)))))) := by
    rw [gd_mn, if_pos rfl]
  have m2 : ∀ r, r < 8 → gd_mn h (a + 1) 8 40 (a + 2 + r) = some (.inl (0, 40, .inl (fun _ => 0))) := fun r hr => by
    rw [gd_mn, if_neg (by omega), if_pos (by omega)]
  have m3 : ∀ q, q < a → gd_mn h (a + 1) 8 40 q = h q := fun q hq => by
    rw [gd_mn, if_neg (by omega), if_neg (by omega)]
  generalize gd_mn h (a + 1) 8 40 = hm at m0 m1 m2 m3 ⊢
  refine pj_pf (q := 16) (k := 0) (fs' := [.ref (a + 1), .null, .null]) (pj_d p_X5_init 6 rfl) rfl kX5_11 (by first | assumption | exact pj_up_s | exact (pj_up_n (by omega)).trans (by assumption) | exact (pj_up_n (by omega)).trans pj_up_s | exact (pj_up_n (by omega)).trans ((pj_up_n (by omega)).trans (by assumption))) (by rfl) (Or.inr ⟨rfl, rfl⟩) (by rfl) (by rfl) (by rfl) (by show 0 < 3; decide) (by rfl) ?_
  refine pj_ald0 (q := 17) (pj_d p_X5_init 7 rfl) rfl ?_
  refine pj_bipush (q := 19) (v := nI 8) (pj_d p_X5_init 8 rfl) rfl (by decide) ?_
  refine pj_newi (N := 8) (q := 21) ac_int (pj_d p_X5_init 9 rfl) rfl rfl (by omega) (by omega) (by omega) (by omega) ?_
  refine pj_pf (q := 24) (k := 1) (fs' := [.ref (a + 1), .ref (a + 10), .null]) (pj_d p_X5_init 10 rfl) rfl kX5_14 (by first | assumption | exact pj_up_s | exact (pj_up_n (by omega)).trans (by assumption) | exact (pj_up_n (by omega)).trans pj_up_s | exact (pj_up_n (by omega)).trans ((pj_up_n (by omega)).trans (by assumption))) (by rfl) (Or.inr ⟨rfl, rfl⟩) (by rfl) (by rfl) (by rfl) (by show 1 < 3; decide) (by rfl) ?_
  refine pj_ald0 (q := 25) (pj_d p_X5_init 11 rfl) rfl ?_
  refine pj_bipush (q := 27) (v := nI 8) (pj_d p_X5_init 12 rfl) rfl (by decide) ?_
  refine pj_newi (N := 8) (q := 29) ac_int (pj_d p_X5_init 13 rfl) rfl rfl (by omega) (by omega) (by omega) (by omega) ?_
  refine pj_pf (q := 32) (k := 2) (fs' := [.ref (a + 1), .ref (a + 10), .ref (a + 11)]) (pj_d p_X5_init 14 rfl) rfl kX5_18 (by first | assumption | exact pj_up_s | exact (pj_up_n (by omega)).trans (by assumption) | exact (pj_up_n (by omega)).trans pj_up_s | exact (pj_up_n (by omega)).trans ((pj_up_n (by omega)).trans (by assumption))) (by rfl) (Or.inr ⟨rfl, rfl⟩) (by rfl) (by rfl) (by rfl) (by show 2 < 3; decide) (by rfl) ?_
  refine pj_ald0 (q := 33) (pj_d p_X5_init 15 rfl) rfl ?_
  refine pj_gf (q := 36) (k := 1) (pj_d p_X5_init 16 rfl) rfl kX5_14 (by first | assumption | exact pj_up_s | exact (pj_up_n (by omega)).trans (by assumption) | exact (pj_up_n (by omega)).trans pj_up_s | exact (pj_up_n (by omega)).trans ((pj_up_n (by omega)).trans (by assumption))) (by rfl) (by rfl) ?_
  refine pj_iconst (q := 37) (v := (-1)) (pj_d p_X5_init 17 rfl) rfl (by decide) ?_
  refine pj_cv (pj_rS (q := 40) (c_J7_fill (a := a + 10) (N := 8) (f := fun _ => 0) (-1) (by repeat first | exact pj_up_s | refine (pj_up_n (by omega)).trans ?_) (by omega)) (pj_d p_X5_init 18 rfl) rfl kX5_21 o_J7_fill_53178 (by rfl) (by rfl) (Nat.le_of_ble_eq_true rfl) (by decide)) (by decide) (by decide) ?_
  rintro r1 h1 n1 ⟨rfl, rfl, f', rfl, hf⟩
  refine pj_vret rfl (pj_d p_X5_init 19 rfl) (by decide) (by decide) ?_
  refine ⟨rfl, rfl, by repeat first | exact pj_up_s | refine (pj_up_n (by omega)).trans ?_, ⟨_, (pj_up_n (by omega)).trans ((pj_up_n (by omega)).trans ((pj_up_n (by omega)).trans ((pj_up_n (by omega)).trans ((pj_up_n (by omega)).trans ((pj_up_n (by omega)).trans m1))))), fun r hr => by rw [if_pos hr]⟩, fun r hr => ?_, ⟨f', pj_up_s, hf⟩, by repeat first | exact pj_up_s | refine (pj_up_n (by omega)).trans ?_, fun q hq => ?_⟩
  · rw [pj_up_n (by omega), pj_up_n (by omega), pj_up_n (by omega), pj_up_n (by omega), pj_up_n (by omega), pj_up_n (by omega)]
    exact m2 r hr
  · rw [pj_up_n (by omega), pj_up_n (by omega), pj_up_n (by omega), pj_up_n (by omega), pj_up_n (by omega), pj_up_n (by omega)]
    exact m3 q hq
theorem c_X7_init {a : Nat} (ha : h a = some (.inr (7, [.null, .int 0, .int 0, .int 0, .int 0]))) (hn : n = a + 1) (hB : B ≤ a) : pj_Ct E B l Y_X7_init 1 1 120 [.ref a] h n (fun r h' n' => r = none ∧ n' = a + 2 ∧ h' a = some (.inr (7, gd_tpc a 0 (0, 0, 0))) ∧ h' (a + 1) = some (.inl (0, 120, .inl (fun _ => 0))) ∧ ∀ q, q < a → h' q = h q) := by
  subst hn
  refine pj_in rfl (ls := [some (.ref a)]) rfl (Nat.le_of_ble_eq_true rfl) ?_
  refine pj_ald0 (q := 1) (pj_d p_X7_init 0 rfl) rfl ?_
  refine pj_objinit (q := 4) (pj_d p_X7_init 1 rfl) rfl kX7_1 oi_inst oi_code (by decide) (by decide) ?_
  refine pj_ald0 (q := 5) (pj_d p_X7_init 2 rfl) rfl ?_
  refine pj_bipush (q := 7) (v := nI 120) (pj_d p_X7_init 3 rfl) rfl (by decide) ?_
  refine pj_newi (N := 120) (q := 9) ac_int (pj_d p_X7_init 4 rfl) rfl rfl (by omega) (by omega) (by omega) (by omega) ?_
  refine pj_pf (q := 12) (k := 0) (fs' := [.ref (a + 1), .int 0, .int 0, .int 0, .int 0]) (pj_d p_X7_init 5 rfl) rfl kX7_9 (by first | assumption | exact pj_up_s | exact (pj_up_n (by omega)).trans (by assumption) | exact (pj_up_n (by omega)).trans pj_up_s | exact (pj_up_n (by omega)).trans ((pj_up_n (by omega)).trans (by assumption))) (by rfl) (Or.inr ⟨rfl, rfl⟩) (by rfl) (by rfl) (by rfl) (by show 0 < 5; decide) (by rfl) ?_
  refine pj_vret rfl (pj_d p_X7_init 6 rfl) (by decide) (by decide) ?_
  refine ⟨rfl, rfl, ?_, (pj_up_n (by omega)).trans pj_up_s, fun q hq => by rw [pj_up_n (by omega), pj_up_n (by omega)]⟩
  rw [pj_up_s, gd_tpc]
  dsimp only
  rw [nI_0]
theorem c_X3_init {a : Nat} (ha : h a = some (.inr (3, [.null, .null, .null]))) (hn : n = a + 1) (hB : B ≤ a) : pj_Ct E B l Y_X3_init 1 3 909 [.ref a] h n (fun r h' n' => r = none ∧ n' = a + 4 ∧ gd_F h' a ∧ ∀ q, q < a → h' q = h q) := by
  subst hn
  refine pj_in rfl (ls := [some (.ref a)]) rfl (Nat.le_of_ble_eq_true rfl) ?_
  refine pj_ald0 (q := 1) (pj_d p_X3_init 0 rfl) rfl ?_
  refine pj_objinit (q := 4) (pj_d p_X3_init 1 rfl) rfl kX3_3 oi_inst oi_code (by decide) (by decide) ?_
  refine pj_ald0 (q := 5) (pj_d p_X3_init 2 rfl) rfl ?_
  refine pj_bipush (q := 7) (v := nI 7) (pj_d p_X3_init 3 rfl) rfl (by decide) ?_
  refine pj_newi (N := 7) (q := 9) ac_int (pj_d p_X3_init 4 rfl) rfl rfl (by omega) (by omega) (by omega) (by omega) ?_
  refine pj_pf (q := 12) (k := 0) (fs' := [.ref (a + 1), .null, .null]) (pj_d p_X3_init 5 rfl) rfl kX3_11 (by first | assumption | exact pj_up_s | exact (pj_up_n (by omega)).trans (by assumption) | exact (pj_up_n (by omega)).trans pj_up_s | exact (pj_up_n (by omega)).trans ((pj_up_n (by omega)).trans (by assumption))) (by rfl) (Or.inr ⟨rfl, rfl⟩) (by rfl) (by rfl) (by rfl) (by show 0 < 3; decide) (by rfl) ?_
  refine pj_ald0 (q := 13) (pj_d p_X3_init 6 rfl) rfl ?_
  refine pj_bipush (q := 15) (v := nI 6) (pj_d p_X3_init 7 rfl) rfl (by decide) ?_
  refine pj_newi (N := 6) (q := 17) ac_int (pj_d p_X3_init 8 rfl) rfl rfl (by omega) (by omega) (by omega) (by omega) ?_
  refine pj_pf (q := 20) (k := 1) (fs' := [.ref (a + 1), .ref (a + 2), .null]) (pj_d p_X3_init 9 rfl) rfl kX3_17 (by first | assumption | exact pj_up_s | exact (pj_up_n (by omega)).trans (by assumption) | exact (pj_up_n (by omega)).trans pj_up_s | exact (pj_up_n (by omega)).trans ((pj_up_n (by omega)).trans (by assumption))) (by rfl) (Or.inr ⟨rfl, rfl⟩) (by rfl) (by rfl) (by rfl) (by show 1 < 3; decide) (by rfl) ?_
  refine pj_ald0 (q := 21) (pj_d p_X3_init 10 rfl) rfl ?_
  refine pj_sipush (q := 24) (v := nI 896) (pj_d p_X3_init 11 rfl) rfl (by decide) ?_
  refine pj_newi (N := 896) (q := 26) ac_int (pj_d p_X3_init 12 rfl) rfl rfl (by omega) (by omega) (by omega) (by omega) ?_
  refine pj_pf (q := 29) (k := 2) (fs' := [.ref (a + 1), .ref (a + 2), .ref (a + 3)]) (pj_d p_X3_init 13 rfl) rfl kX3_20 (by first | assumption | exact pj_up_s | exact (pj_up_n (by omega)).trans (by assumption) | exact (pj_up_n (by omega)).trans pj_up_s | exact (pj_up_n (by omega)).trans ((pj_up_n (by omega)).trans (by assumption))) (by rfl) (Or.inr ⟨rfl, rfl⟩) (by rfl) (by rfl) (by rfl) (by show 2 < 3; decide) (by rfl) ?_
  refine pj_vret rfl (pj_d p_X3_init 14 rfl) (by decide) (by decide) ?_
  refine ⟨rfl, rfl, ⟨pj_up_s, ⟨fun _ => 0, by repeat first | exact pj_up_s | refine (pj_up_n (by omega)).trans ?_⟩, ⟨fun _ => 0, by repeat first | exact pj_up_s | refine (pj_up_n (by omega)).trans ?_⟩, ⟨fun _ => 0, by repeat first | exact pj_up_s | refine (pj_up_n (by omega)).trans ?_⟩⟩, fun q hq => ?_⟩
  rw [pj_up_n (by omega), pj_up_n (by omega), pj_up_n (by omega), pj_up_n (by omega), pj_up_n (by omega), pj_up_n (by omega)]
theorem c_X0_init {a : Nat} (ha : h a = some (.inr (0, [.null, .int 0, .int 0]))) (hn : n = a + 1) (hB : B ≤ a) : pj_Ct E B l Y_X0_init 1 1 16 [.ref a] h n (fun r h' n' => r = none ∧ n' = a + 2 ∧ gd_KX h' a ((fun _ => 0), 0) 0 ∧ ∀ q, q < a → h' q = h q) := by
  subst hn
  refine pj_in rfl (ls := [some (.ref a)]) rfl (Nat.le_of_ble_eq_true rfl) ?_
  refine pj_ald0 (q := 1) (pj_d p_X0_init 0 rfl) rfl ?_
  refine pj_objinit (q := 4) (pj_d p_X0_init 1 rfl) rfl kX0_3 oi_inst oi_code (by decide) (by decide) ?_
  refine pj_ald0 (q := 5) (pj_d p_X0_init 2 rfl) rfl ?_
  refine pj_bipush (q := 7) (v := nI 16) (pj_d p_X0_init 3 rfl) rfl (by decide) ?_
  refine pj_newi (N := 16) (q := 9) ac_int (pj_d p_X0_init 4 rfl) rfl rfl (by omega) (by omega) (by omega) (by omega) ?_
  refine pj_pf (q := 12) (k := 0) (fs' := [.ref (a + 1), .int 0, .int 0]) (pj_d p_X0_init 5 rfl) rfl kX0_11 (by first | assumption | exact pj_up_s | exact (pj_up_n (by omega)).trans (by assumption) | exact (pj_up_n (by omega)).trans pj_up_s | exact (pj_up_n (by omega)).trans ((pj_up_n (by omega)).trans (by assumption))) (by rfl) (Or.inr ⟨rfl, rfl⟩) (by rfl) (by rfl) (by rfl) (by show 0 < 3; decide) (by rfl) ?_
  refine pj_vret rfl (pj_d p_X0_init 6 rfl) (by decide) (by decide) ?_
  refine ⟨rfl, rfl, ⟨?_, (pj_up_n (by omega)).trans pj_up_s⟩, fun q hq => by rw [pj_up_n (by omega), pj_up_n (by omega)]⟩
  rw [pj_up_s]
  dsimp only
  rw [nI_0]
theorem c_X11_init {a : Nat} (ha : h a = some (.inr (10, [.null, .null, .null, .null, .null, .null, .int 0, .int 0]))) (hn : n = a + 1) (hB : B ≤ a) : pj_Ct E B l Y_X11_init 3 21 1405 [.ref a] h n (fun r h' n' => r = none ∧ n' = a + 22 ∧ h' a = some (.inr (10, gd_XO a none 0 0)) ∧ gd_RX h' a (fun _ => -1) (fun _ => 0) (fun _ _ => 0) ∧ h' (a + 13) = some (.inr (7, gd_tpc (a + 13) 0 (0, 0, 0))) ∧ h' (a + 14) = some (.inl (0, 120, .inl (fun _ => 0))) ∧ gd_F h' (a + 15) ∧ gd_KX h' (a + 19) ((fun _ => 0), 0) 0 ∧ h' (a + 21) = some (.inl (3, 2, .inr (.inr (.inr (.inr (fun _ => none)))))) ∧ ∀ q, q < a → h' q = h q) := by
  subst hn
  refine pj_in rfl (ls := [some (.ref a)]) rfl (Nat.le_of_ble_eq_true rfl) ?_
  refine pj_ald0 (q := 1) (pj_d p_X11_init 0 rfl) rfl ?_
  refine pj_objinit (q := 4) (pj_d p_X11_init 1 rfl) rfl kX11_1 oi_inst oi_code (by decide) (by decide) ?_
  refine pj_ald0 (q := 5) (pj_d p_X11_init 2 rfl) rfl ?_
  refine pj_new (q := 8) (ci := 5) (fs := [.null, .null, .null]) (pj_d p_X11_init 3 rfl) rfl kX11_7 iX5 zX5 rfl tyX5 tyX5_ok (fun j hj => by match j, hj with | 0, _ => rfl | 1, _ => rfl | 2, _ => rfl | j + 3, hj => exact absurd hj (by omega)) (by omega) (by omega) (by omega) ?_
  refine pj_dup (q := 9) (pj_d p_X11_init 4 rfl) rfl rfl ?_
  refine pj_cv (pj_rI (q := 12) (c_X5_init (a := a + 1) pj_up_s rfl (by omega)) (pj_d p_X11_init 5 rfl) rfl kX11_9 o_X5_init (by rfl) (by rfl) (Nat.le_of_ble_eq_true rfl) (by decide)) (by omega) (by omega) ?_
  rintro r1 h1 n1 ⟨rfl, rfl, x0, ⟨f1, x1, x1f⟩, x2, ⟨f3, x3, x3f⟩, x4, x5⟩
  have a1 : h1 a = some (.inr (10, [.null, .null, .null, .null, .null, .null, .int 0, .int 0])) := by rw [x5 a (by omega), pj_up_n (by omega)]; exact ha
  refine pj_pf (q := 15) (k := 0) (fs' := [.ref (a + 1), .null, .null, .null, .null, .null, .int 0, .int 0]) (pj_d p_X11_init 6 rfl) rfl kX11_10 (by first | assumption | exact pj_up_s | exact (pj_up_n (by omega)).trans (by assumption) | exact (pj_up_n (by omega)).trans pj_up_s | exact (pj_up_n (by omega)).trans ((pj_up_n (by omega)).trans (by assumption))) (by rfl) (Or.inr ⟨rfl, rfl⟩) (by rfl) (by rfl) (by rfl) (by show 0 < 8; decide) (by rfl) ?_
  refine pj_ald0 (q := 16) (pj_d p_X11_init 7 rfl) rfl ?_
  refine pj_new (q := 19) (ci := 7) (fs := [.null, .int 0, .int 0, .int 0, .int 0]) (pj_d p_X11_init 8 rfl) rfl kX11_16 iX7 zX7 rfl tyX7 tyX7_ok (fun j hj => by match j, hj with | 0, _ => rfl | 1, _ => rfl | 2, _ => rfl | 3, _ => rfl | 4, _ => rfl | j + 5, hj => exact absurd hj (by omega)) (by omega) (by omega) (by omega) ?_
  refine pj_dup (q := 20) (pj_d p_X11_init 9 rfl) rfl rfl ?_
  refine pj_cv (pj_rIN (q := 23) (c_X7_init (a := a + 13) pj_up_s rfl (by omega)) (pj_d p_X11_init 10 rfl) rfl kX11_18 o_X7_init (by rfl) (by rfl) (Nat.le_of_ble_eq_true rfl) (by decide)) (by omega) (by omega) ?_
  rintro r2 h2 n2 ⟨rfl, rfl, y0, y1, y2⟩
  have a2 : h2 a = some (.inr (10, [.ref (a + 1), .null, .null, .null, .null, .null, .int 0, .int 0])) := by rw [y2 a (by omega), pj_up_n (by omega), pj_up_s]
  have o2 : ∀ q, q < a + 13 → q ≠ a → h2 q = h1 q := fun q q1 q2 => by rw [y2 q q1, pj_up_n (by omega), pj_up_n q2]
  refine pj_pf (q := 26) (k := 1) (fs' := [.ref (a + 1), .ref (a + 13), .null, .null, .null, .null, .int 0, .int 0]) (pj_d p_X11_init 11 rfl) rfl kX11_19 (by first | assumption | exact pj_up_s | exact (pj_up_n (by omega)).trans (by assumption) | exact (pj_up_n (by omega)).trans pj_up_s | exact (pj_up_n (by omega)).trans ((pj_up_n (by omega)).trans (by assumption))) (by rfl) (Or.inr ⟨rfl, rfl⟩) (by rfl) (by rfl) (by rfl) (by show 1 < 8; decide) (by rfl) ?_
  refine pj_ald0 (q := 27) (pj_d p_X11_init 12 rfl) rfl ?_
  refine pj_new (q := 30) (ci := 3) (fs := [.null, .null, .null]) (pj_d p_X11_init 13 rfl) rfl kX11_23 iX3 zX3 rfl tyX3 tyX3_ok (fun j hj => by match j, hj with | 0, _ => rfl | 1, _ => rfl | 2, _ => rfl | j + 3, hj => exact absurd hj (by omega)) (by omega) (by omega) (by omega) ?_
  refine pj_dup (q := 31) (pj_d p_X11_init 14 rfl) rfl rfl ?_
  refine pj_cv (pj_rIN (q := 34) (c_X3_init (a := a + 15) pj_up_s rfl (by omega)) (pj_d p_X11_init 15 rfl) rfl kX11_25 o_X3_init (by rfl) (by rfl) (Nat.le_of_ble_eq_true rfl) (by decide)) (by omega) (by omega) ?_
  rintro r3 h3 n3 ⟨rfl, rfl, z0, z1⟩
  have a3 : h3 a = some (.inr (10, [.ref (a + 1), .ref (a + 13), .null, .null, .null, .null, .int 0, .int 0])) := by rw [z1 a (by omega), pj_up_n (by omega), pj_up_s]
  have o3 : ∀ q, q < a + 15 → q ≠ a → h3 q = h2 q := fun q q1 q2 => by rw [z1 q q1, pj_up_n (by omega), pj_up_n q2]
  refine pj_pf (q := 37) (k := 2) (fs' := [.ref (a + 1), .ref (a + 13), .ref (a + 15), .null, .null, .null, .int 0, .int 0]) (pj_d p_X11_init 16 rfl) rfl kX11_26 (by first | assumption | exact pj_up_s | exact (pj_up_n (by omega)).trans (by assumption) | exact (pj_up_n (by omega)).trans pj_up_s | exact (pj_up_n (by omega)).trans ((pj_up_n (by omega)).trans (by assumption))) (by rfl) (Or.inr ⟨rfl, rfl⟩) (by rfl) (by rfl) (by rfl) (by show 2 < 8; decide) (by rfl) ?_
  refine pj_ald0 (q := 38) (pj_d p_X11_init 17 rfl) rfl ?_
  refine pj_new (q := 41) (ci := 0) (fs := [.null, .int 0, .int 0]) (pj_d p_X11_init 18 rfl) rfl kX11_30 iX0 zX0 rfl tyX0 tyX0_ok (fun j hj => by match j, hj with | 0, _ => rfl | 1, _ => rfl | 2, _ => rfl | j + 3, hj => exact absurd hj (by omega)) (by omega) (by omega) (by omega) ?_
  refine pj_dup (q := 42) (pj_d p_X11_init 19 rfl) rfl rfl ?_
  refine pj_cv (pj_rIN (q := 45) (c_X0_init (a := a + 19) pj_up_s rfl (by omega)) (pj_d p_X11_init 20 rfl) rfl kX11_32 o_X0_init (by rfl) (by rfl) (Nat.le_of_ble_eq_true rfl) (by decide)) (by omega) (by omega) ?_
  rintro r4 h4 n4 ⟨rfl, rfl, w0, w1⟩
  have a4 : h4 a = some (.inr (10, [.ref (a + 1), .ref (a + 13), .ref (a + 15), .null, .null, .null, .int 0, .int 0])) := by rw [w1 a (by omega), pj_up_n (by omega), pj_up_s]
  have o4 : ∀ q, q < a + 19 → q ≠ a → h4 q = h3 q := fun q q1 q2 => by rw [w1 q q1, pj_up_n (by omega), pj_up_n q2]
  refine pj_pf (q := 48) (k := 3) (fs' := [.ref (a + 1), .ref (a + 13), .ref (a + 15), .ref (a + 19), .null, .null, .int 0, .int 0]) (pj_d p_X11_init 21 rfl) rfl kX11_33 (by first | assumption | exact pj_up_s | exact (pj_up_n (by omega)).trans (by assumption) | exact (pj_up_n (by omega)).trans pj_up_s | exact (pj_up_n (by omega)).trans ((pj_up_n (by omega)).trans (by assumption))) (by rfl) (Or.inr ⟨rfl, rfl⟩) (by rfl) (by rfl) (by rfl) (by show 3 < 8; decide) (by rfl) ?_
  refine pj_ald0 (q := 49) (pj_d p_X11_init 22 rfl) rfl ?_
  refine pj_iconst (q := 50) (v := nI 2) (pj_d p_X11_init 23 rfl) rfl (by decide) ?_
  refine pj_newr (t := 3) (N := 2) (q := 53) rfl kX11_37 ao_Town (pj_d p_X11_init 24 rfl) rfl rfl (by omega) (by omega) (by omega) (by omega) ?_
  refine pj_pf (q := 56) (k := 4) (fs' := [.ref (a + 1), .ref (a + 13), .ref (a + 15), .ref (a + 19), .ref (a + 21), .null, .int 0, .int 0]) (pj_d p_X11_init 25 rfl) rfl kX11_39 (by first | assumption | exact pj_up_s | exact (pj_up_n (by omega)).trans (by assumption) | exact (pj_up_n (by omega)).trans pj_up_s | exact (pj_up_n (by omega)).trans ((pj_up_n (by omega)).trans (by assumption))) (by rfl) (Or.inr ⟨rfl, rfl⟩) (by rfl) (by rfl) (by rfl) (by show 4 < 8; decide) (by rfl) ?_
  refine pj_vret rfl (pj_d p_X11_init 26 rfl) (by decide) (by decide) ?_
  have oo : ∀ q, q ≠ a → q < a + 21 → pj_up (pj_up (pj_up h4 a (.inr (10, [.ref (a + 1), .ref (a + 13), .ref (a + 15), .ref (a + 19), .null, .null, .int 0, .int 0]))) (a + 21) (.inl (3, 2, .inr (.inr (.inr (.inr (fun _ => none))))))) a (.inr (10, [.ref (a + 1), .ref (a + 13), .ref (a + 15), .ref (a + 19), .ref (a + 21), .null, .int 0, .int 0])) q = h4 q := fun q q1 q2 => by rw [pj_up_n q1, pj_up_n (by omega), pj_up_n q1]
  refine ⟨rfl, rfl, pj_up_s, ⟨?_, ⟨f1, ?_, fun r hr => by rw [x1f r hr]⟩, fun r hr => ⟨fun _ => 0, ?_, fun _ _ => rfl⟩, ⟨f3, ?_, x3f⟩, ⟨fun _ => 0, ?_, fun _ _ => rfl⟩⟩, ?_, ?_, ?_, ?_, (pj_up_n (by omega)).trans pj_up_s, fun q hq => ?_⟩
  · rw [oo _ (by omega) (by omega), o4 _ (by omega) (by omega), o3 _ (by omega) (by omega), o2 _ (by omega) (by omega)]; exact x0
  · rw [oo _ (by omega) (by omega), o4 _ (by omega) (by omega), o3 _ (by omega) (by omega), o2 _ (by omega) (by omega)]; exact x1
  · rw [oo _ (by omega) (by omega), o4 _ (by omega) (by omega), o3 _ (by omega) (by omega), o2 _ (by omega) (by omega)]; exact x2 r hr
  · rw [oo _ (by omega) (by omega), o4 _ (by omega) (by omega), o3 _ (by omega) (by omega), o2 _ (by omega) (by omega)]; exact x3
  · rw [oo _ (by omega) (by omega), o4 _ (by omega) (by omega), o3 _ (by omega) (by omega), o2 _ (by omega) (by omega)]; exact x4
  · rw [oo _ (by omega) (by omega), o4 _ (by omega) (by omega), o3 _ (by omega) (by omega)]; exact y0
  · rw [oo _ (by omega) (by omega), o4 _ (by omega) (by omega), o3 _ (by omega) (by omega)]; exact y1
  · obtain ⟨g1, ⟨f5, g2⟩, ⟨f6, g3⟩, ⟨f7, g4⟩⟩ := z0
    exact ⟨by rw [oo _ (by omega) (by omega), o4 _ (by omega) (by omega)]; exact g1, ⟨f5, by rw [oo _ (by omega) (by omega), o4 _ (by omega) (by omega)]; exact g2⟩, ⟨f6, by rw [oo _ (by omega) (by omega), o4 _ (by omega) (by omega)]; exact g3⟩, ⟨f7, by rw [oo _ (by omega) (by omega), o4 _ (by omega) (by omega)]; exact g4⟩⟩
  · exact ⟨by rw [oo _ (by omega) (by omega)]; exact w0.1, by rw [oo _ (by omega) (by omega)]; exact w0.2⟩
  · rw [oo _ (by omega) (by omega), o4 _ (by omega) (by omega), o3 _ (by omega) (by omega), o2 _ (by omega) (by omega), x5 q (by omega), pj_up_n (by omega)]
theorem c_X12_init {g : Nat} (ha : h g = some (.inr (11, [.int 0, .int 0, .null, .null, .null, .null, .null, .null, .int 0, .null, .int 0, .int 0, .int 0, .int 0, .int 0, .int 0, .int 0, .int 0, .null, .null, .null, .null, .null, .int 0]))) (hn : n = g + 1) (hB : B ≤ g) : pj_Ct E B l Y_X12_init 1 12 2944 [.ref g] h n (fun r h' n' => r = none ∧ n' = g + 13 ∧ h' g = some (.inr (11, gd_Mo g (fun _ => 0))) ∧ gd_RM h' g (fun _ => -1) (fun _ => 0) (fun _ _ => 0) ∧ h' (g + 4) = some (.inl (0, 56, .inl (fun _ => 0))) ∧ h' (g + 5) = some (.inl (0, 56, .inl (fun _ => 0))) ∧ h' (g + 6) = some (.inl (0, 1344, .inl (fun _ => 0))) ∧ h' (g + 7) = some (.inl (0, 120, .inl (fun _ => 0))) ∧ h' (g + 8) = some (.inl (0, 6, .inl (fun _ => 0))) ∧ h' (g + 9) = some (.inl (0, 896, .inl (fun _ => 0))) ∧ h' (g + 10) = some (.inl (1, 2, .inl (fun _ => 0))) ∧ h' (g + 11) = some (.inl (0, 112, .inl (fun _ => 0))) ∧ h' (g + 12) = some (.inl (0, 16, .inl (fun _ => 0))) ∧ ∀ q, q < g → h' q = h q) := by
  subst hn
  refine pj_in rfl (ls := [some (.ref g)]) rfl (Nat.le_of_ble_eq_true rfl) ?_
  refine pj_ald0 (q := 1) (pj_d p_X12_init 0 rfl) rfl ?_
  refine pj_objinit (q := 4) (pj_d p_X12_init 1 rfl) rfl kX12_1 oi_inst oi_code (by decide) (by decide) ?_
  refine pj_ald0 (q := 5) (pj_d p_X12_init 2 rfl) rfl ?_
  refine pj_bipush (q := 7) (v := nI 8) (pj_d p_X12_init 3 rfl) rfl (by decide) ?_
  refine pj_newi (N := 8) (q := 9) ac_int (pj_d p_X12_init 4 rfl) rfl rfl (by omega) (by omega) (by omega) (by omega) ?_
  have i0 : 0 < 8 := by omega
  refine pj_dup (q := 10) (pj_d p_X12_init 5 rfl) rfl rfl ?_
  refine pj_iconst (q := 11) (v := nI 0) (pj_d p_X12_init 6 rfl) rfl (by decide) ?_
  refine pj_iconst (q := 12) (v := (-1)) (pj_d p_X12_init 7 rfl) rfl (by decide) ?_
  refine pj_iast (q := 13) (pj_d p_X12_init 8 rfl) rfl (by first | assumption | exact pj_up_s | exact (pj_up_n (by omega)).trans (by assumption) | exact (pj_up_n (by omega)).trans pj_up_s | exact (pj_up_n (by omega)).trans ((pj_up_n (by omega)).trans (by assumption))) (by rfl) (by first | assumption | omega) (Nat.le_of_ble_eq_true rfl) ?_
  rw [pj_up_up]
  have i1 : 1 < 8 := by omega
  refine pj_dup (q := 14) (pj_d p_X12_init 9 rfl) rfl rfl ?_
  refine pj_iconst (q := 15) (v := nI 1) (pj_d p_X12_init 10 rfl) rfl (by decide) ?_
  refine pj_iconst (q := 16) (v := (-1)) (pj_d p_X12_init 11 rfl) rfl (by decide) ?_
  refine pj_iast (q := 17) (pj_d p_X12_init 12 rfl) rfl (by first | assumption | exact pj_up_s | exact (pj_up_n (by omega)).trans (by assumption) | exact (pj_up_n (by omega)).trans pj_up_s | exact (pj_up_n (by omega)).trans ((pj_up_n (by omega)).trans (by assumption))) (by rfl) (by first | assumption | omega) (Nat.le_of_ble_eq_true rfl) ?_
  rw [pj_up_up]
  have i2 : 2 < 8 := by omega
  refine pj_dup (q := 18) (pj_d p_X12_init 13 rfl) rfl rfl ?_
  refine pj_iconst (q := 19) (v := nI 2) (pj_d p_X12_init 14 rfl) rfl (by decide) ?_
  refine pj_iconst (q := 20) (v := (-1)) (pj_d p_X12_init 15 rfl) rfl (by decide) ?_
  refine pj_iast (q := 21) (pj_d p_X12_init 16 rfl) rfl (by first | assumption | exact pj_up_s | exact (pj_up_n (by omega)).trans (by assumption) | exact (pj_up_n (by omega)).trans pj_up_s | exact (pj_up_n (by omega)).trans ((pj_up_n (by omega)).trans (by assumption))) (by rfl) (by first | assumption | omega) (Nat.le_of_ble_eq_true rfl) ?_
  rw [pj_up_up]
  have i3 : 3 < 8 := by omega
  refine pj_dup (q := 22) (pj_d p_X12_init 17 rfl) rfl rfl ?_
  refine pj_iconst (q := 23) (v := nI 3) (pj_d p_X12_init 18 rfl) rfl (by decide) ?_
  refine pj_iconst (q := 24) (v := (-1)) (pj_d p_X12_init 19 rfl) rfl (by decide) ?_
  refine pj_iast (q := 25) (pj_d p_X12_init 20 rfl) rfl (by first | assumption | exact pj_up_s | exact (pj_up_n (by omega)).trans (by assumption) | exact (pj_up_n (by omega)).trans pj_up_s | exact (pj_up_n (by omega)).trans ((pj_up_n (by omega)).trans (by assumption))) (by rfl) (by first | assumption | omega) (Nat.le_of_ble_eq_true rfl) ?_
  rw [pj_up_up]
  have i4 : 4 < 8 := by omega
  refine pj_dup (q := 26) (pj_d p_X12_init 21 rfl) rfl rfl ?_
  refine pj_iconst (q := 27) (v := nI 4) (pj_d p_X12_init 22 rfl) rfl (by decide) ?_
  refine pj_iconst (q := 28) (v := (-1)) (pj_d p_X12_init 23 rfl) rfl (by decide) ?_
  refine pj_iast (q := 29) (pj_d p_X12_init 24 rfl) rfl (by first | assumption | exact pj_up_s | exact (pj_up_n (by omega)).trans (by assumption) | exact (pj_up_n (by omega)).trans pj_up_s | exact (pj_up_n (by omega)).trans ((pj_up_n (by omega)).trans (by assumption))) (by rfl) (by first | assumption | omega) (Nat.le_of_ble_eq_true rfl) ?_
  rw [pj_up_up]
  have i5 : 5 < 8 := by omega
  refine pj_dup (q := 30) (pj_d p_X12_init 25 rfl) rfl rfl ?_
  refine pj_iconst (q := 31) (v := nI 5) (pj_d p_X12_init 26 rfl) rfl (by decide) ?_
  refine pj_iconst (q := 32) (v := (-1)) (pj_d p_X12_init 27 rfl) rfl (by decide) ?_
  refine pj_iast (q := 33) (pj_d p_X12_init 28 rfl) rfl (by first | assumption | exact pj_up_s | exact (pj_up_n (by omega)).trans (by assumption) | exact (pj_up_n (by omega)).trans pj_up_s | exact (pj_up_n (by omega)).trans ((pj_up_n (by omega)).trans (by assumption))) (by rfl) (by first | assumption | omega) (Nat.le_of_ble_eq_true rfl) ?_
  rw [pj_up_up]
  have i6 : 6 < 8 := by omega
  refine pj_dup (q := 34) (pj_d p_X12_init 29 rfl) rfl rfl ?_
  refine pj_bipush (q := 36) (v := nI 6) (pj_d p_X12_init 30 rfl) rfl (by decide) ?_
  refine pj_iconst (q := 37) (v := (-1)) (pj_d p_X12_init 31 rfl) rfl (by decide) ?_
  refine pj_iast (q := 38) (pj_d p_X12_init 32 rfl) rfl (by first | assumption | exact pj_up_s | exact (pj_up_n (by omega)).trans (by assumption) | exact (pj_up_n (by omega)).trans pj_up_s | exact (pj_up_n (by omega)).trans ((pj_up_n (by omega)).trans (by assumption))) (by rfl) (by first | assumption | omega) (Nat.le_of_ble_eq_true rfl) ?_
  rw [pj_up_up]
  have i7 : 7 < 8 := by omega
  refine pj_dup (q := 39) (pj_d p_X12_init 33 rfl) rfl rfl ?_
  refine pj_bipush (q := 41) (v := nI 7) (pj_d p_X12_init 34 rfl) rfl (by decide) ?_
  refine pj_iconst (q := 42) (v := (-1)) (pj_d p_X12_init 35 rfl) rfl (by decide) ?_
  refine pj_iast (q := 43) (pj_d p_X12_init 36 rfl) rfl (by first | assumption | exact pj_up_s | exact (pj_up_n (by omega)).trans (by assumption) | exact (pj_up_n (by omega)).trans pj_up_s | exact (pj_up_n (by omega)).trans ((pj_up_n (by omega)).trans (by assumption))) (by rfl) (by first | assumption | omega) (Nat.le_of_ble_eq_true rfl) ?_
  rw [pj_up_up]
  obtain ⟨fl, hfl, hfz⟩ : ∃ fl, fl = upd (upd (upd (upd (upd (upd (upd (upd (fun _ => (0 : Int32)) 0 (-1)) 1 (-1)) 2 (-1)) 3 (-1)) 4 (-1)) 5 (-1)) 6 (-1)) 7 (-1) ∧ ∀ r, r < 8 → fl r = -1 := ⟨_, rfl, fun r hr => by
    rcases (show r = 0 ∨ r = 1 ∨ r = 2 ∨ r = 3 ∨ r = 4 ∨ r = 5 ∨ r = 6 ∨ r = 7 by omega) with rfl | rfl | rfl | rfl | rfl | rfl | rfl | rfl <;> rfl⟩
  rw [← hfl]
  clear hfl
  refine pj_pf (q := 46) (k := 2) (fs' := [.int 0, .int 0, .ref (g + 1), .null, .null, .null, .null, .null, .int 0, .null, .int 0, .int 0, .int 0, .int 0, .int 0, .int 0, .int 0, .int 0, .null, .null, .null, .null, .null, .int 0]) (pj_d p_X12_init 37 rfl) rfl kX12_7 (by first | assumption | exact pj_up_s | exact (pj_up_n (by omega)).trans (by assumption) | exact (pj_up_n (by omega)).trans pj_up_s | exact (pj_up_n (by omega)).trans ((pj_up_n (by omega)).trans (by assumption))) (by rfl) (Or.inr ⟨rfl, rfl⟩) (by rfl) (by rfl) (by rfl) (by show 2 < 24; decide) (by rfl) ?_
  refine pj_ald0 (q := 47) (pj_d p_X12_init 38 rfl) rfl ?_
  refine pj_bipush (q := 49) (v := nI 8) (pj_d p_X12_init 39 rfl) rfl (by decide) ?_
  refine pj_newi (N := 8) (q := 51) ac_int (pj_d p_X12_init 40 rfl) rfl rfl (by omega) (by omega) (by omega) (by omega) ?_
  refine pj_pf (q := 54) (k := 3) (fs' := [.int 0, .int 0, .ref (g + 1), .ref (g + 2), .null, .null, .null, .null, .int 0, .null, .int 0, .int 0, .int 0, .int 0, .int 0, .int 0, .int 0, .int 0, .null, .null, .null, .null, .null, .int 0]) (pj_d p_X12_init 41 rfl) rfl kX12_13 (by first | assumption | exact pj_up_s | exact (pj_up_n (by omega)).trans (by assumption) | exact (pj_up_n (by omega)).trans pj_up_s | exact (pj_up_n (by omega)).trans ((pj_up_n (by omega)).trans (by assumption))) (by rfl) (Or.inr ⟨rfl, rfl⟩) (by rfl) (by rfl) (by rfl) (by show 3 < 24; decide) (by rfl) ?_
  refine pj_ald0 (q := 55) (pj_d p_X12_init 42 rfl) rfl ?_
  refine pj_sipush (q := 58) (v := nI 320) (pj_d p_X12_init 43 rfl) rfl (by decide) ?_
  refine pj_newi (N := 320) (q := 60) ac_int (pj_d p_X12_init 44 rfl) rfl rfl (by omega) (by omega) (by omega) (by omega) ?_
  refine pj_pf (q := 63) (k := 4) (fs' := [.int 0, .int 0, .ref (g + 1), .ref (g + 2), .ref (g + 3), .null, .null, .null, .int 0, .null, .int 0, .int 0, .int 0, .int 0, .int 0, .int 0, .int 0, .int 0, .null, .null, .null, .null, .null, .int 0]) (pj_d p_X12_init 45 rfl) rfl kX12_16 (by first | assumption | exact pj_up_s | exact (pj_up_n (by omega)).trans (by assumption) | exact (pj_up_n (by omega)).trans pj_up_s | exact (pj_up_n (by omega)).trans ((pj_up_n (by omega)).trans (by assumption))) (by rfl) (Or.inr ⟨rfl, rfl⟩) (by rfl) (by rfl) (by rfl) (by show 4 < 24; decide) (by rfl) ?_
  refine pj_ald0 (q := 64) (pj_d p_X12_init 46 rfl) rfl ?_
  refine pj_bipush (q := 66) (v := nI 56) (pj_d p_X12_init 47 rfl) rfl (by decide) ?_
  refine pj_newi (N := 56) (q := 68) ac_int (pj_d p_X12_init 48 rfl) rfl rfl (by omega) (by omega) (by omega) (by omega) ?_
  refine pj_pf (q := 71) (k := 5) (fs' := [.int 0, .int 0, .ref (g + 1), .ref (g + 2), .ref (g + 3), .ref (g + 4), .null, .null, .int 0, .null, .int 0, .int 0, .int 0, .int 0, .int 0, .int 0, .int 0, .int 0, .null, .null, .null, .null, .null, .int 0]) (pj_d p_X12_init 49 rfl) rfl kX12_19 (by first | assumption | exact pj_up_s | exact (pj_up_n (by omega)).trans (by assumption) | exact (pj_up_n (by omega)).trans pj_up_s | exact (pj_up_n (by omega)).trans ((pj_up_n (by omega)).trans (by assumption))) (by rfl) (Or.inr ⟨rfl, rfl⟩) (by rfl) (by rfl) (by rfl) (by show 5 < 24; decide) (by rfl) ?_
  refine pj_ald0 (q := 72) (pj_d p_X12_init 50 rfl) rfl ?_
  refine pj_bipush (q := 74) (v := nI 56) (pj_d p_X12_init 51 rfl) rfl (by decide) ?_
  refine pj_newi (N := 56) (q := 76) ac_int (pj_d p_X12_init 52 rfl) rfl rfl (by omega) (by omega) (by omega) (by omega) ?_
  refine pj_pf (q := 79) (k := 6) (fs' := [.int 0, .int 0, .ref (g + 1), .ref (g + 2), .ref (g + 3), .ref (g + 4), .ref (g + 5), .null, .int 0, .null, .int 0, .int 0, .int 0, .int 0, .int 0, .int 0, .int 0, .int 0, .null, .null, .null, .null, .null, .int 0]) (pj_d p_X12_init 53 rfl) rfl kX12_22 (by first | assumption | exact pj_up_s | exact (pj_up_n (by omega)).trans (by assumption) | exact (pj_up_n (by omega)).trans pj_up_s | exact (pj_up_n (by omega)).trans ((pj_up_n (by omega)).trans (by assumption))) (by rfl) (Or.inr ⟨rfl, rfl⟩) (by rfl) (by rfl) (by rfl) (by show 6 < 24; decide) (by rfl) ?_
  refine pj_ald0 (q := 80) (pj_d p_X12_init 54 rfl) rfl ?_
  refine pj_sipush (q := 83) (v := nI 1344) (pj_d p_X12_init 55 rfl) rfl (by decide) ?_
  refine pj_newi (N := 1344) (q := 85) ac_int (pj_d p_X12_init 56 rfl) rfl rfl (by omega) (by omega) (by omega) (by omega) ?_
  refine pj_pf (q := 88) (k := 7) (fs' := [.int 0, .int 0, .ref (g + 1), .ref (g + 2), .ref (g + 3), .ref (g + 4), .ref (g + 5), .ref (g + 6), .int 0, .null, .int 0, .int 0, .int 0, .int 0, .int 0, .int 0, .int 0, .int 0, .null, .null, .null, .null, .null, .int 0]) (pj_d p_X12_init 57 rfl) rfl kX12_25 (by first | assumption | exact pj_up_s | exact (pj_up_n (by omega)).trans (by assumption) | exact (pj_up_n (by omega)).trans pj_up_s | exact (pj_up_n (by omega)).trans ((pj_up_n (by omega)).trans (by assumption))) (by rfl) (Or.inr ⟨rfl, rfl⟩) (by rfl) (by rfl) (by rfl) (by show 7 < 24; decide) (by rfl) ?_
  refine pj_ald0 (q := 89) (pj_d p_X12_init 58 rfl) rfl ?_
  refine pj_bipush (q := 91) (v := nI 120) (pj_d p_X12_init 59 rfl) rfl (by decide) ?_
  refine pj_newi (N := 120) (q := 93) ac_int (pj_d p_X12_init 60 rfl) rfl rfl (by omega) (by omega) (by omega) (by omega) ?_
  refine pj_pf (q := 96) (k := 9) (fs' := [.int 0, .int 0, .ref (g + 1), .ref (g + 2), .ref (g + 3), .ref (g + 4), .ref (g + 5), .ref (g + 6), .int 0, .ref (g + 7), .int 0, .int 0, .int 0, .int 0, .int 0, .int 0, .int 0, .int 0, .null, .null, .null, .null, .null, .int 0]) (pj_d p_X12_init 61 rfl) rfl kX12_28 (by first | assumption | exact pj_up_s | exact (pj_up_n (by omega)).trans (by assumption) | exact (pj_up_n (by omega)).trans pj_up_s | exact (pj_up_n (by omega)).trans ((pj_up_n (by omega)).trans (by assumption))) (by rfl) (Or.inr ⟨rfl, rfl⟩) (by rfl) (by rfl) (by rfl) (by show 9 < 24; decide) (by rfl) ?_
  refine pj_ald0 (q := 97) (pj_d p_X12_init 62 rfl) rfl ?_
  refine pj_bipush (q := 99) (v := nI 6) (pj_d p_X12_init 63 rfl) rfl (by decide) ?_
  refine pj_newi (N := 6) (q := 101) ac_int (pj_d p_X12_init 64 rfl) rfl rfl (by omega) (by omega) (by omega) (by omega) ?_
  refine pj_pf (q := 104) (k := 18) (fs' := [.int 0, .int 0, .ref (g + 1), .ref (g + 2), .ref (g + 3), .ref (g + 4), .ref (g + 5), .ref (g + 6), .int 0, .ref (g + 7), .int 0, .int 0, .int 0, .int 0, .int 0, .int 0, .int 0, .int 0, .ref (g + 8), .null, .null, .null, .null, .int 0]) (pj_d p_X12_init 65 rfl) rfl kX12_31 (by first | assumption | exact pj_up_s | exact (pj_up_n (by omega)).trans (by assumption) | exact (pj_up_n (by omega)).trans pj_up_s | exact (pj_up_n (by omega)).trans ((pj_up_n (by omega)).trans (by assumption))) (by rfl) (Or.inr ⟨rfl, rfl⟩) (by rfl) (by rfl) (by rfl) (by show 18 < 24; decide) (by rfl) ?_
  refine pj_ald0 (q := 105) (pj_d p_X12_init 66 rfl) rfl ?_
  refine pj_sipush (q := 108) (v := nI 896) (pj_d p_X12_init 67 rfl) rfl (by decide) ?_
  refine pj_newi (N := 896) (q := 110) ac_int (pj_d p_X12_init 68 rfl) rfl rfl (by omega) (by omega) (by omega) (by omega) ?_
  refine pj_pf (q := 113) (k := 19) (fs' := [.int 0, .int 0, .ref (g + 1), .ref (g + 2), .ref (g + 3), .ref (g + 4), .ref (g + 5), .ref (g + 6), .int 0, .ref (g + 7), .int 0, .int 0, .int 0, .int 0, .int 0, .int 0, .int 0, .int 0, .ref (g + 8), .ref (g + 9), .null, .null, .null, .int 0]) (pj_d p_X12_init 69 rfl) rfl kX12_34 (by first | assumption | exact pj_up_s | exact (pj_up_n (by omega)).trans (by assumption) | exact (pj_up_n (by omega)).trans pj_up_s | exact (pj_up_n (by omega)).trans ((pj_up_n (by omega)).trans (by assumption))) (by rfl) (Or.inr ⟨rfl, rfl⟩) (by rfl) (by rfl) (by rfl) (by show 19 < 24; decide) (by rfl) ?_
  refine pj_ald0 (q := 114) (pj_d p_X12_init 70 rfl) rfl ?_
  refine pj_iconst (q := 115) (v := nI 2) (pj_d p_X12_init 71 rfl) rfl (by decide) ?_
  refine pj_newz (N := 2) (q := 117) ac_boolean (pj_d p_X12_init 72 rfl) rfl rfl (by omega) (by omega) (by omega) (by omega) ?_
  refine pj_pf (q := 120) (k := 20) (fs' := [.int 0, .int 0, .ref (g + 1), .ref (g + 2), .ref (g + 3), .ref (g + 4), .ref (g + 5), .ref (g + 6), .int 0, .ref (g + 7), .int 0, .int 0, .int 0, .int 0, .int 0, .int 0, .int 0, .int 0, .ref (g + 8), .ref (g + 9), .ref (g + 10), .null, .null, .int 0]) (pj_d p_X12_init 73 rfl) rfl kX12_37 (by first | assumption | exact pj_up_s | exact (pj_up_n (by omega)).trans (by assumption) | exact (pj_up_n (by omega)).trans pj_up_s | exact (pj_up_n (by omega)).trans ((pj_up_n (by omega)).trans (by assumption))) (by rfl) (Or.inr ⟨rfl, rfl⟩) (by rfl) (by rfl) (by rfl) (by show 20 < 24; decide) (by rfl) ?_
  refine pj_ald0 (q := 121) (pj_d p_X12_init 74 rfl) rfl ?_
  refine pj_bipush (q := 123) (v := nI 112) (pj_d p_X12_init 75 rfl) rfl (by decide) ?_
  refine pj_newi (N := 112) (q := 125) ac_int (pj_d p_X12_init 76 rfl) rfl rfl (by omega) (by omega) (by omega) (by omega) ?_
  refine pj_pf (q := 128) (k := 21) (fs' := [.int 0, .int 0, .ref (g + 1), .ref (g + 2), .ref (g + 3), .ref (g + 4), .ref (g + 5), .ref (g + 6), .int 0, .ref (g + 7), .int 0, .int 0, .int 0, .int 0, .int 0, .int 0, .int 0, .int 0, .ref (g + 8), .ref (g + 9), .ref (g + 10), .ref (g + 11), .null, .int 0]) (pj_d p_X12_init 77 rfl) rfl kX12_41 (by first | assumption | exact pj_up_s | exact (pj_up_n (by omega)).trans (by assumption) | exact (pj_up_n (by omega)).trans pj_up_s | exact (pj_up_n (by omega)).trans ((pj_up_n (by omega)).trans (by assumption))) (by rfl) (Or.inr ⟨rfl, rfl⟩) (by rfl) (by rfl) (by rfl) (by show 21 < 24; decide) (by rfl) ?_
  refine pj_ald0 (q := 129) (pj_d p_X12_init 78 rfl) rfl ?_
  refine pj_bipush (q := 131) (v := nI 16) (pj_d p_X12_init 79 rfl) rfl (by decide) ?_
  refine pj_newi (N := 16) (q := 133) ac_int (pj_d p_X12_init 80 rfl) rfl rfl (by omega) (by omega) (by omega) (by omega) ?_
  refine pj_pf (q := 136) (k := 22) (fs' := [.int 0, .int 0, .ref (g + 1), .ref (g + 2), .ref (g + 3), .ref (g + 4), .ref (g + 5), .ref (g + 6), .int 0, .ref (g + 7), .int 0, .int 0, .int 0, .int 0, .int 0, .int 0, .int 0, .int 0, .ref (g + 8), .ref (g + 9), .ref (g + 10), .ref (g + 11), .ref (g + 12), .int 0]) (pj_d p_X12_init 81 rfl) rfl kX12_44 (by first | assumption | exact pj_up_s | exact (pj_up_n (by omega)).trans (by assumption) | exact (pj_up_n (by omega)).trans pj_up_s | exact (pj_up_n (by omega)).trans ((pj_up_n (by omega)).trans (by assumption))) (by rfl) (Or.inr ⟨rfl, rfl⟩) (by rfl) (by rfl) (by rfl) (by show 22 < 24; decide) (by rfl) ?_
  refine pj_vret rfl (pj_d p_X12_init 82 rfl) (by decide) (by decide) ?_
  refine ⟨rfl, rfl, pj_up_s, ⟨⟨fl, ?_, hfz⟩, ⟨fun _ => 0, ?_, fun _ _ => rfl⟩, ⟨fun _ => 0, ?_, fun _ _ _ _ => rfl⟩⟩, ?_, ?_, ?_, ?_, ?_, ?_, ?_, ?_, ?_, fun q hq => ?_⟩
  rotate_right
  · repeat first | rfl | rw [pj_up_n (by omega)]
  all_goals (repeat first | exact pj_up_s | refine (pj_up_n (by omega)).trans ?_)
end
