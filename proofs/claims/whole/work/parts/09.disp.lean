/-! ===== calls of things, by their kinds (by program) ===== -/
def gd_tc (k : Nat) : Nat := if k = 1 then 1 else if k = 2 then 9 else if k = 3 then 6 else if k = 4 then 4 else 2
theorem gd_kd {kd : Nat} (h1 : 1 ≤ kd) (h5 : kd ≤ 5) : kd = 1 ∨ kd = 2 ∨ kd = 3 ∨ kd = 4 ∨ kd = 5 := by omega
def gd_Y_kindTold (k : Nat) : pj_Y := if k = 1 then Y_X1_kindTold else if k = 2 then Y_X10_kindTold else if k = 3 then Y_X6_kindTold else if k = 4 then Y_X4_kindTold else Y_X2_kindTold
def gd_Y_lookOf (k : Nat) : pj_Y := if k = 1 then Y_X1_lookOf else if k = 2 then Y_X10_lookOf else if k = 3 then Y_X6_lookOf else if k = 4 then Y_X4_lookOf else Y_X2_lookOf
def gd_Y_sizeAsked (k : Nat) : pj_Y := if k = 1 then Y_X1_sizeAsked else if k = 2 then Y_X10_sizeAsked else if k = 3 then Y_X1_sizeAsked else if k = 4 then Y_X4_sizeAsked else Y_X2_sizeAsked
def gd_Y_markAsked (k : Nat) : pj_Y := if k = 1 then Y_X1_markAsked else if k = 2 then Y_X10_markAsked else if k = 3 then Y_X6_markAsked else if k = 4 then Y_X4_markAsked else Y_X4_markAsked
section
variable {E : pj_E} {B : Nat} {l : Launch} {Y : pj_Y} {d mc ms pc q : Nat} {st rest As : List Value} {h : pj_H} {n d' mc' ms' a kd : Nat} {fs : List Value} {P : Option Value → pj_H → Nat → Prop}
theorem vX11_133 (hY : Y.1.cls = RX11) (ha : h a = some (.inr (gd_tc kd, fs))) (hk : 1 ≤ kd ∧ kd ≤ 5) (hC : pj_Ct E B l Y_X8_takesPaint d' mc' ms' (.ref a :: As) h n P) (hd : decode Y.2.1 pc = .ok (.invokevirtual 133, 3)) (hq : pc + 3 = q) (hst : st = As.reverse ++ .ref a :: rest) (hn : As.length = 0) (hw : (rest.map fun v => v.category).sum ≤ 8) (hdd : d' < d) : pj_Run E B l Y d mc ms pc q st rest h n mc' ms' P := by
  rcases gd_kd hk.1 hk.2 with rfl | rfl | rfl | rfl | rfl
  · exact pj_rU hC hd hq (by rw [hY]; exact uX11_133_X1) ha rfl hst hn hw hdd
  · exact pj_rU hC hd hq (by rw [hY]; exact uX11_133_X10) ha rfl hst hn hw hdd
  · exact pj_rU hC hd hq (by rw [hY]; exact uX11_133_X6) ha rfl hst hn hw hdd
  · exact pj_rU hC hd hq (by rw [hY]; exact uX11_133_X4) ha rfl hst hn hw hdd
  · exact pj_rU hC hd hq (by rw [hY]; exact uX11_133_X2) ha rfl hst hn hw hdd
theorem vX11_149 (hY : Y.1.cls = RX11) (ha : h a = some (.inr (gd_tc kd, fs))) (hk : 1 ≤ kd ∧ kd ≤ 5) (hC : pj_Ct E B l Y_X8_mixed d' mc' ms' (.ref a :: As) h n P) (hd : decode Y.2.1 pc = .ok (.invokevirtual 149, 3)) (hq : pc + 3 = q) (hst : st = As.reverse ++ .ref a :: rest) (hn : As.length = 0) (hw : (rest.map fun v => v.category).sum ≤ 8) (hdd : d' < d) : pj_Run E B l Y d mc ms pc q st rest h n mc' ms' P := by
  rcases gd_kd hk.1 hk.2 with rfl | rfl | rfl | rfl | rfl
  · exact pj_rU hC hd hq (by rw [hY]; exact uX11_149_X1) ha rfl hst hn hw hdd
  · exact pj_rU hC hd hq (by rw [hY]; exact uX11_149_X10) ha rfl hst hn hw hdd
  · exact pj_rU hC hd hq (by rw [hY]; exact uX11_149_X6) ha rfl hst hn hw hdd
  · exact pj_rU hC hd hq (by rw [hY]; exact uX11_149_X4) ha rfl hst hn hw hdd
  · exact pj_rU hC hd hq (by rw [hY]; exact uX11_149_X2) ha rfl hst hn hw hdd
theorem vX11_152 (hY : Y.1.cls = RX11) (ha : h a = some (.inr (gd_tc kd, fs))) (hk : 1 ≤ kd ∧ kd ≤ 5) (hC : pj_Ct E B l Y_X8_shaped d' mc' ms' (.ref a :: As) h n P) (hd : decode Y.2.1 pc = .ok (.invokevirtual 152, 3)) (hq : pc + 3 = q) (hst : st = As.reverse ++ .ref a :: rest) (hn : As.length = 0) (hw : (rest.map fun v => v.category).sum ≤ 8) (hdd : d' < d) : pj_Run E B l Y d mc ms pc q st rest h n mc' ms' P := by
  rcases gd_kd hk.1 hk.2 with rfl | rfl | rfl | rfl | rfl
  · exact pj_rU hC hd hq (by rw [hY]; exact uX11_152_X1) ha rfl hst hn hw hdd
  · exact pj_rU hC hd hq (by rw [hY]; exact uX11_152_X10) ha rfl hst hn hw hdd
  · exact pj_rU hC hd hq (by rw [hY]; exact uX11_152_X6) ha rfl hst hn hw hdd
  · exact pj_rU hC hd hq (by rw [hY]; exact uX11_152_X4) ha rfl hst hn hw hdd
  · exact pj_rU hC hd hq (by rw [hY]; exact uX11_152_X2) ha rfl hst hn hw hdd
theorem vX11_158 (hY : Y.1.cls = RX11) (ha : h a = some (.inr (gd_tc kd, fs))) (hk : 1 ≤ kd ∧ kd ≤ 5) (hC : pj_Ct E B l Y_X8_lookWithout d' mc' ms' (.ref a :: As) h n P) (hd : decode Y.2.1 pc = .ok (.invokevirtual 158, 3)) (hq : pc + 3 = q) (hst : st = As.reverse ++ .ref a :: rest) (hn : As.length = 1) (hw : (rest.map fun v => v.category).sum ≤ 8) (hdd : d' < d) : pj_Run E B l Y d mc ms pc q st rest h n mc' ms' P := by
  rcases gd_kd hk.1 hk.2 with rfl | rfl | rfl | rfl | rfl
  · exact pj_rU hC hd hq (by rw [hY]; exact uX11_158_X1) ha rfl hst hn hw hdd
  · exact pj_rU hC hd hq (by rw [hY]; exact uX11_158_X10) ha rfl hst hn hw hdd
  · exact pj_rU hC hd hq (by rw [hY]; exact uX11_158_X6) ha rfl hst hn hw hdd
  · exact pj_rU hC hd hq (by rw [hY]; exact uX11_158_X4) ha rfl hst hn hw hdd
  · exact pj_rU hC hd hq (by rw [hY]; exact uX11_158_X2) ha rfl hst hn hw hdd
theorem vX11_257 (hY : Y.1.cls = RX11) (ha : h a = some (.inr (gd_tc kd, fs))) (hk : 1 ≤ kd ∧ kd ≤ 5) (hC : pj_Ct E B l (gd_Y_kindTold kd) d' mc' ms' (.ref a :: As) h n P) (hd : decode Y.2.1 pc = .ok (.invokevirtual 257, 3)) (hq : pc + 3 = q) (hst : st = As.reverse ++ .ref a :: rest) (hn : As.length = 0) (hw : (rest.map fun v => v.category).sum ≤ 8) (hdd : d' < d) : pj_Run E B l Y d mc ms pc q st rest h n mc' ms' P := by
  rcases gd_kd hk.1 hk.2 with rfl | rfl | rfl | rfl | rfl
  · exact pj_rU hC hd hq (by rw [hY]; exact uX11_257_X1) ha rfl hst hn hw hdd
  · exact pj_rU hC hd hq (by rw [hY]; exact uX11_257_X10) ha rfl hst hn hw hdd
  · exact pj_rU hC hd hq (by rw [hY]; exact uX11_257_X6) ha rfl hst hn hw hdd
  · exact pj_rU hC hd hq (by rw [hY]; exact uX11_257_X4) ha rfl hst hn hw hdd
  · exact pj_rU hC hd hq (by rw [hY]; exact uX11_257_X2) ha rfl hst hn hw hdd
theorem vX11_267 (hY : Y.1.cls = RX11) (ha : h a = some (.inr (gd_tc kd, fs))) (hk : 1 ≤ kd ∧ kd ≤ 5) (hC : pj_Ct E B l (gd_Y_sizeAsked kd) d' mc' ms' (.ref a :: As) h n P) (hd : decode Y.2.1 pc = .ok (.invokevirtual 267, 3)) (hq : pc + 3 = q) (hst : st = As.reverse ++ .ref a :: rest) (hn : As.length = 1) (hw : (rest.map fun v => v.category).sum ≤ 8) (hdd : d' < d) : pj_Run E B l Y d mc ms pc q st rest h n mc' ms' P := by
  rcases gd_kd hk.1 hk.2 with rfl | rfl | rfl | rfl | rfl
  · exact pj_rU hC hd hq (by rw [hY]; exact uX11_267_X1) ha rfl hst hn hw hdd
  · exact pj_rU hC hd hq (by rw [hY]; exact uX11_267_X10) ha rfl hst hn hw hdd
  · exact pj_rU hC hd hq (by rw [hY]; exact uX11_267_X6) ha rfl hst hn hw hdd
  · exact pj_rU hC hd hq (by rw [hY]; exact uX11_267_X4) ha rfl hst hn hw hdd
  · exact pj_rU hC hd hq (by rw [hY]; exact uX11_267_X2) ha rfl hst hn hw hdd
theorem vX11_271 (hY : Y.1.cls = RX11) (ha : h a = some (.inr (gd_tc kd, fs))) (hk : 1 ≤ kd ∧ kd ≤ 5) (hC : pj_Ct E B l (gd_Y_markAsked kd) d' mc' ms' (.ref a :: As) h n P) (hd : decode Y.2.1 pc = .ok (.invokevirtual 271, 3)) (hq : pc + 3 = q) (hst : st = As.reverse ++ .ref a :: rest) (hn : As.length = 1) (hw : (rest.map fun v => v.category).sum ≤ 8) (hdd : d' < d) : pj_Run E B l Y d mc ms pc q st rest h n mc' ms' P := by
  rcases gd_kd hk.1 hk.2 with rfl | rfl | rfl | rfl | rfl
  · exact pj_rU hC hd hq (by rw [hY]; exact uX11_271_X1) ha rfl hst hn hw hdd
  · exact pj_rU hC hd hq (by rw [hY]; exact uX11_271_X10) ha rfl hst hn hw hdd
  · exact pj_rU hC hd hq (by rw [hY]; exact uX11_271_X6) ha rfl hst hn hw hdd
  · exact pj_rU hC hd hq (by rw [hY]; exact uX11_271_X4) ha rfl hst hn hw hdd
  · exact pj_rU hC hd hq (by rw [hY]; exact uX11_271_X2) ha rfl hst hn hw hdd
theorem vX3_131 (hY : Y.1.cls = RX3) (ha : h a = some (.inr (gd_tc kd, fs))) (hk : 1 ≤ kd ∧ kd ≤ 5) (hC : pj_Ct E B l Y_X8_shaped d' mc' ms' (.ref a :: As) h n P) (hd : decode Y.2.1 pc = .ok (.invokevirtual 131, 3)) (hq : pc + 3 = q) (hst : st = As.reverse ++ .ref a :: rest) (hn : As.length = 0) (hw : (rest.map fun v => v.category).sum ≤ 8) (hdd : d' < d) : pj_Run E B l Y d mc ms pc q st rest h n mc' ms' P := by
  rcases gd_kd hk.1 hk.2 with rfl | rfl | rfl | rfl | rfl
  · exact pj_rU hC hd hq (by rw [hY]; exact uX3_131_X1) ha rfl hst hn hw hdd
  · exact pj_rU hC hd hq (by rw [hY]; exact uX3_131_X10) ha rfl hst hn hw hdd
  · exact pj_rU hC hd hq (by rw [hY]; exact uX3_131_X6) ha rfl hst hn hw hdd
  · exact pj_rU hC hd hq (by rw [hY]; exact uX3_131_X4) ha rfl hst hn hw hdd
  · exact pj_rU hC hd hq (by rw [hY]; exact uX3_131_X2) ha rfl hst hn hw hdd
theorem vX3_31 (hY : Y.1.cls = RX3) (ha : h a = some (.inr (gd_tc kd, fs))) (hk : 1 ≤ kd ∧ kd ≤ 5) (hC : pj_Ct E B l Y_X8_lookWithout d' mc' ms' (.ref a :: As) h n P) (hd : decode Y.2.1 pc = .ok (.invokevirtual 31, 3)) (hq : pc + 3 = q) (hst : st = As.reverse ++ .ref a :: rest) (hn : As.length = 1) (hw : (rest.map fun v => v.category).sum ≤ 8) (hdd : d' < d) : pj_Run E B l Y d mc ms pc q st rest h n mc' ms' P := by
  rcases gd_kd hk.1 hk.2 with rfl | rfl | rfl | rfl | rfl
  · exact pj_rU hC hd hq (by rw [hY]; exact uX3_31_X1) ha rfl hst hn hw hdd
  · exact pj_rU hC hd hq (by rw [hY]; exact uX3_31_X10) ha rfl hst hn hw hdd
  · exact pj_rU hC hd hq (by rw [hY]; exact uX3_31_X6) ha rfl hst hn hw hdd
  · exact pj_rU hC hd hq (by rw [hY]; exact uX3_31_X4) ha rfl hst hn hw hdd
  · exact pj_rU hC hd hq (by rw [hY]; exact uX3_31_X2) ha rfl hst hn hw hdd
theorem vX3_56 (hY : Y.1.cls = RX3) (ha : h a = some (.inr (gd_tc kd, fs))) (hk : 1 ≤ kd ∧ kd ≤ 5) (hC : pj_Ct E B l Y_X8_takesPaint d' mc' ms' (.ref a :: As) h n P) (hd : decode Y.2.1 pc = .ok (.invokevirtual 56, 3)) (hq : pc + 3 = q) (hst : st = As.reverse ++ .ref a :: rest) (hn : As.length = 0) (hw : (rest.map fun v => v.category).sum ≤ 8) (hdd : d' < d) : pj_Run E B l Y d mc ms pc q st rest h n mc' ms' P := by
  rcases gd_kd hk.1 hk.2 with rfl | rfl | rfl | rfl | rfl
  · exact pj_rU hC hd hq (by rw [hY]; exact uX3_56_X1) ha rfl hst hn hw hdd
  · exact pj_rU hC hd hq (by rw [hY]; exact uX3_56_X10) ha rfl hst hn hw hdd
  · exact pj_rU hC hd hq (by rw [hY]; exact uX3_56_X6) ha rfl hst hn hw hdd
  · exact pj_rU hC hd hq (by rw [hY]; exact uX3_56_X4) ha rfl hst hn hw hdd
  · exact pj_rU hC hd hq (by rw [hY]; exact uX3_56_X2) ha rfl hst hn hw hdd
theorem vX3_60 (hY : Y.1.cls = RX3) (ha : h a = some (.inr (gd_tc kd, fs))) (hk : 1 ≤ kd ∧ kd ≤ 5) (hC : pj_Ct E B l Y_X8_mixed d' mc' ms' (.ref a :: As) h n P) (hd : decode Y.2.1 pc = .ok (.invokevirtual 60, 3)) (hq : pc + 3 = q) (hst : st = As.reverse ++ .ref a :: rest) (hn : As.length = 0) (hw : (rest.map fun v => v.category).sum ≤ 8) (hdd : d' < d) : pj_Run E B l Y d mc ms pc q st rest h n mc' ms' P := by
  rcases gd_kd hk.1 hk.2 with rfl | rfl | rfl | rfl | rfl
  · exact pj_rU hC hd hq (by rw [hY]; exact uX3_60_X1) ha rfl hst hn hw hdd
  · exact pj_rU hC hd hq (by rw [hY]; exact uX3_60_X10) ha rfl hst hn hw hdd
  · exact pj_rU hC hd hq (by rw [hY]; exact uX3_60_X6) ha rfl hst hn hw hdd
  · exact pj_rU hC hd hq (by rw [hY]; exact uX3_60_X4) ha rfl hst hn hw hdd
  · exact pj_rU hC hd hq (by rw [hY]; exact uX3_60_X2) ha rfl hst hn hw hdd
theorem vX3_77 (hY : Y.1.cls = RX3) (ha : h a = some (.inr (gd_tc kd, fs))) (hk : 1 ≤ kd ∧ kd ≤ 5) (hC : pj_Ct E B l (gd_Y_lookOf kd) d' mc' ms' (.ref a :: As) h n P) (hd : decode Y.2.1 pc = .ok (.invokevirtual 77, 3)) (hq : pc + 3 = q) (hst : st = As.reverse ++ .ref a :: rest) (hn : As.length = 2) (hw : (rest.map fun v => v.category).sum ≤ 8) (hdd : d' < d) : pj_Run E B l Y d mc ms pc q st rest h n mc' ms' P := by
  rcases gd_kd hk.1 hk.2 with rfl | rfl | rfl | rfl | rfl
  · exact pj_rU hC hd hq (by rw [hY]; exact uX3_77_X1) ha rfl hst hn hw hdd
  · exact pj_rU hC hd hq (by rw [hY]; exact uX3_77_X10) ha rfl hst hn hw hdd
  · exact pj_rU hC hd hq (by rw [hY]; exact uX3_77_X6) ha rfl hst hn hw hdd
  · exact pj_rU hC hd hq (by rw [hY]; exact uX3_77_X4) ha rfl hst hn hw hdd
  · exact pj_rU hC hd hq (by rw [hY]; exact uX3_77_X2) ha rfl hst hn hw hdd
theorem vX8_21 (hY : Y.1.cls = RX8) (ha : h a = some (.inr (gd_tc kd, fs))) (hk : 1 ≤ kd ∧ kd ≤ 5) (hC : pj_Ct E B l (gd_Y_lookOf kd) d' mc' ms' (.ref a :: As) h n P) (hd : decode Y.2.1 pc = .ok (.invokevirtual 21, 3)) (hq : pc + 3 = q) (hst : st = As.reverse ++ .ref a :: rest) (hn : As.length = 2) (hw : (rest.map fun v => v.category).sum ≤ 8) (hdd : d' < d) : pj_Run E B l Y d mc ms pc q st rest h n mc' ms' P := by
  rcases gd_kd hk.1 hk.2 with rfl | rfl | rfl | rfl | rfl
  · exact pj_rU hC hd hq (by rw [hY]; exact uX8_21_X1) ha rfl hst hn hw hdd
  · exact pj_rU hC hd hq (by rw [hY]; exact uX8_21_X10) ha rfl hst hn hw hdd
  · exact pj_rU hC hd hq (by rw [hY]; exact uX8_21_X6) ha rfl hst hn hw hdd
  · exact pj_rU hC hd hq (by rw [hY]; exact uX8_21_X4) ha rfl hst hn hw hdd
  · exact pj_rU hC hd hq (by rw [hY]; exact uX8_21_X2) ha rfl hst hn hw hdd
theorem vX9_109 (hY : Y.1.cls = RX9) (ha : h a = some (.inr (gd_tc kd, fs))) (hk : 1 ≤ kd ∧ kd ≤ 5) (hC : pj_Ct E B l Y_X8_mixAnew d' mc' ms' (.ref a :: As) h n P) (hd : decode Y.2.1 pc = .ok (.invokevirtual 109, 3)) (hq : pc + 3 = q) (hst : st = As.reverse ++ .ref a :: rest) (hn : As.length = 1) (hw : (rest.map fun v => v.category).sum ≤ 8) (hdd : d' < d) : pj_Run E B l Y d mc ms pc q st rest h n mc' ms' P := by
  rcases gd_kd hk.1 hk.2 with rfl | rfl | rfl | rfl | rfl
  · exact pj_rU hC hd hq (by rw [hY]; exact uX9_109_X1) ha rfl hst hn hw hdd
  · exact pj_rU hC hd hq (by rw [hY]; exact uX9_109_X10) ha rfl hst hn hw hdd
  · exact pj_rU hC hd hq (by rw [hY]; exact uX9_109_X6) ha rfl hst hn hw hdd
  · exact pj_rU hC hd hq (by rw [hY]; exact uX9_109_X4) ha rfl hst hn hw hdd
  · exact pj_rU hC hd hq (by rw [hY]; exact uX9_109_X2) ha rfl hst hn hw hdd
theorem vX9_42 (hY : Y.1.cls = RX9) (ha : h a = some (.inr (gd_tc kd, fs))) (hk : 1 ≤ kd ∧ kd ≤ 5) (hC : pj_Ct E B l (gd_Y_kindTold kd) d' mc' ms' (.ref a :: As) h n P) (hd : decode Y.2.1 pc = .ok (.invokevirtual 42, 3)) (hq : pc + 3 = q) (hst : st = As.reverse ++ .ref a :: rest) (hn : As.length = 0) (hw : (rest.map fun v => v.category).sum ≤ 8) (hdd : d' < d) : pj_Run E B l Y d mc ms pc q st rest h n mc' ms' P := by
  rcases gd_kd hk.1 hk.2 with rfl | rfl | rfl | rfl | rfl
  · exact pj_rU hC hd hq (by rw [hY]; exact uX9_42_X1) ha rfl hst hn hw hdd
  · exact pj_rU hC hd hq (by rw [hY]; exact uX9_42_X10) ha rfl hst hn hw hdd
  · exact pj_rU hC hd hq (by rw [hY]; exact uX9_42_X6) ha rfl hst hn hw hdd
  · exact pj_rU hC hd hq (by rw [hY]; exact uX9_42_X4) ha rfl hst hn hw hdd
  · exact pj_rU hC hd hq (by rw [hY]; exact uX9_42_X2) ha rfl hst hn hw hdd
theorem vX9_46 (hY : Y.1.cls = RX9) (ha : h a = some (.inr (gd_tc kd, fs))) (hk : 1 ≤ kd ∧ kd ≤ 5) (hC : pj_Ct E B l Y_X8_mixed d' mc' ms' (.ref a :: As) h n P) (hd : decode Y.2.1 pc = .ok (.invokevirtual 46, 3)) (hq : pc + 3 = q) (hst : st = As.reverse ++ .ref a :: rest) (hn : As.length = 0) (hw : (rest.map fun v => v.category).sum ≤ 8) (hdd : d' < d) : pj_Run E B l Y d mc ms pc q st rest h n mc' ms' P := by
  rcases gd_kd hk.1 hk.2 with rfl | rfl | rfl | rfl | rfl
  · exact pj_rU hC hd hq (by rw [hY]; exact uX9_46_X1) ha rfl hst hn hw hdd
  · exact pj_rU hC hd hq (by rw [hY]; exact uX9_46_X10) ha rfl hst hn hw hdd
  · exact pj_rU hC hd hq (by rw [hY]; exact uX9_46_X6) ha rfl hst hn hw hdd
  · exact pj_rU hC hd hq (by rw [hY]; exact uX9_46_X4) ha rfl hst hn hw hdd
  · exact pj_rU hC hd hq (by rw [hY]; exact uX9_46_X2) ha rfl hst hn hw hdd
theorem vX9_49 (hY : Y.1.cls = RX9) (ha : h a = some (.inr (gd_tc kd, fs))) (hk : 1 ≤ kd ∧ kd ≤ 5) (hC : pj_Ct E B l Y_X8_shaped d' mc' ms' (.ref a :: As) h n P) (hd : decode Y.2.1 pc = .ok (.invokevirtual 49, 3)) (hq : pc + 3 = q) (hst : st = As.reverse ++ .ref a :: rest) (hn : As.length = 0) (hw : (rest.map fun v => v.category).sum ≤ 8) (hdd : d' < d) : pj_Run E B l Y d mc ms pc q st rest h n mc' ms' P := by
  rcases gd_kd hk.1 hk.2 with rfl | rfl | rfl | rfl | rfl
  · exact pj_rU hC hd hq (by rw [hY]; exact uX9_49_X1) ha rfl hst hn hw hdd
  · exact pj_rU hC hd hq (by rw [hY]; exact uX9_49_X10) ha rfl hst hn hw hdd
  · exact pj_rU hC hd hq (by rw [hY]; exact uX9_49_X6) ha rfl hst hn hw hdd
  · exact pj_rU hC hd hq (by rw [hY]; exact uX9_49_X4) ha rfl hst hn hw hdd
  · exact pj_rU hC hd hq (by rw [hY]; exact uX9_49_X2) ha rfl hst hn hw hdd
theorem vX9_95 (hY : Y.1.cls = RX9) (ha : h a = some (.inr (gd_tc kd, fs))) (hk : 1 ≤ kd ∧ kd ≤ 5) (hC : pj_Ct E B l Y_X8_lookWithout d' mc' ms' (.ref a :: As) h n P) (hd : decode Y.2.1 pc = .ok (.invokevirtual 95, 3)) (hq : pc + 3 = q) (hst : st = As.reverse ++ .ref a :: rest) (hn : As.length = 1) (hw : (rest.map fun v => v.category).sum ≤ 8) (hdd : d' < d) : pj_Run E B l Y d mc ms pc q st rest h n mc' ms' P := by
  rcases gd_kd hk.1 hk.2 with rfl | rfl | rfl | rfl | rfl
  · exact pj_rU hC hd hq (by rw [hY]; exact uX9_95_X1) ha rfl hst hn hw hdd
  · exact pj_rU hC hd hq (by rw [hY]; exact uX9_95_X10) ha rfl hst hn hw hdd
  · exact pj_rU hC hd hq (by rw [hY]; exact uX9_95_X6) ha rfl hst hn hw hdd
  · exact pj_rU hC hd hq (by rw [hY]; exact uX9_95_X4) ha rfl hst hn hw hdd
  · exact pj_rU hC hd hq (by rw [hY]; exact uX9_95_X2) ha rfl hst hn hw hdd
end
