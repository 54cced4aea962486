/-! ===== the law, case by case (by program) ===== -/
section
variable {p : Program} {l : Launch} {e : Env} {s : State} {m : MethodId} {below : List Frame} {meth : Method} {c : Code} {b L : Nat} {xs : Nat → Int32} {E : pj_E} {h : pj_H} {n ce sl i : Nat}
theorem gd_SX_x {h : pj_H} {b n : Nat} (hS : gd_SX h b n) : ∃ fs, h b = some (.inr (10, fs)) := by
  obtain ⟨s, y, lf, t, I, K, ⟨po, S, fo, m0, hx, -⟩, -⟩ := hS
  exact ⟨_, hx⟩
theorem gd_lcmp0 (v : Int64) : lg_cmp v v = 0 := (lg_cmp_eq v v).mpr rfl
def PL_row : List (Nat × Instr × Nat) := [(204, .aload_n 1, 1), (205, .aload_n 0, 1), (206, .iload_n 3, 1), (207, .iconst 1, 1), (208, .iadd, 1), (209, .iaload, 1), (210, .aload_n 0, 1), (211, .iload_n 3, 1), (212, .iconst 2, 1), (213, .iadd, 1), (214, .iaload, 1), (215, .aload_n 0, 1), (216, .iload_n 3, 1), (217, .iconst 3, 1), (218, .iadd, 1), (219, .iaload, 1), (220, .invokevirtual 13, 3), (223, .aload_n 2, 1), (224, .aload_n 0, 1), (225, .iload_n 3, 1), (226, .iconst 1, 1), (227, .iadd, 1), (228, .iaload, 1), (229, .aload_n 0, 1), (230, .iload_n 3, 1), (231, .iconst 2, 1), (232, .iadd, 1), (233, .iaload, 1), (234, .aload_n 0, 1), (235, .iload_n 3, 1), (236, .iconst 3, 1), (237, .iadd, 1), (238, .iaload, 1), (239, .invokevirtual 17, 3), (242, .if_icmp .eq 1130, 3)]
theorem pL_row : pj_tab code PL_row = true := by decide +kernel
theorem lc_row (S : gd_LS p s m c b) (hX : va_X b L xs s s.heap) (hbl : b < s.heap.size) (hW : pj_WF E s) (hL4 : L ≤ 384) (hi : i + 6 ≤ L) (hS : gd_SX h s.heap.size n) (hce : ce + 16 ≤ 600000) (hsl : sl + 143 ≤ 7302250) (kk : ∀ h' n', gd_SX h' s.heap.size n' → gd_LU p l e s m below meth c b E 1372 [some (.ref b), some (.ref s.heap.size), some (.ref (s.heap.size + 22)), some (.int (nI i))] [] h' n' (ce + 16) (sl + 143)) : gd_LU p l e s m below meth c b E 204 [some (.ref b), some (.ref s.heap.size), some (.ref (s.heap.size + 22)), some (.int (nI i))] [] h n ce sl := by
  obtain ⟨fx, hx⟩ := gd_SX_x hS
  obtain ⟨PX, CX, stp⟩ := st_row (E := E) (l := l) hS (xs (i + 1)) (xs (i + 2)) (xs (i + 3))
  refine gd_lald S (pj_d pL_row 0 rfl) (q := 205) rfl rfl ?_
  refine gd_larg (q := 210) S hX hbl hL4 (k := 1) (pj_d pL_row 1 rfl) (pj_d pL_row 2 rfl) (pj_d pL_row 3 rfl) (pj_d pL_row 4 rfl) (pj_d pL_row 5 rfl) rfl (by decide) (by omega) ?_
  refine gd_larg (q := 215) S hX hbl hL4 (k := 2) (pj_d pL_row 6 rfl) (pj_d pL_row 7 rfl) (pj_d pL_row 8 rfl) (pj_d pL_row 9 rfl) (pj_d pL_row 10 rfl) rfl (by decide) (by omega) ?_
  refine gd_larg (q := 220) S hX hbl hL4 (k := 3) (pj_d pL_row 11 rfl) (pj_d pL_row 12 rfl) (pj_d pL_row 13 rfl) (pj_d pL_row 14 rfl) (pj_d pL_row 15 rfl) rfl (by decide) (by omega) ?_
  refine gd_lV S hW CX (pj_d pL_row 16 rfl) (q := 223) rfl kL_13 o_X11_row hx rfl rfl (by rfl) (by rfl) (Nat.le_of_ble_eq_true rfl) (by decide) (by omega) (by omega) ?_
  rintro r h' n' hPX
  obtain ⟨⟨v, e0⟩, ⟨fm, hm⟩, PM, CM, stp2⟩ := stp r h' n' hPX
  subst e0
  refine gd_lald S (pj_d pL_row 17 rfl) (q := 224) rfl rfl ?_
  refine gd_larg (q := 229) S hX hbl hL4 (k := 1) (pj_d pL_row 18 rfl) (pj_d pL_row 19 rfl) (pj_d pL_row 20 rfl) (pj_d pL_row 21 rfl) (pj_d pL_row 22 rfl) rfl (by decide) (by omega) ?_
  refine gd_larg (q := 234) S hX hbl hL4 (k := 2) (pj_d pL_row 23 rfl) (pj_d pL_row 24 rfl) (pj_d pL_row 25 rfl) (pj_d pL_row 26 rfl) (pj_d pL_row 27 rfl) rfl (by decide) (by omega) ?_
  refine gd_larg (q := 239) S hX hbl hL4 (k := 3) (pj_d pL_row 28 rfl) (pj_d pL_row 29 rfl) (pj_d pL_row 30 rfl) (pj_d pL_row 31 rfl) (pj_d pL_row 32 rfl) rfl (by decide) (by omega) ?_
  refine gd_lV S hW CM (pj_d pL_row 33 rfl) (q := 242) rfl kL_17 o_X12_row hm rfl rfl (by rfl) (by rfl) (Nat.le_of_ble_eq_true rfl) (by decide) (by omega) (by omega) ?_
  rintro r2 h2 n2 hPM
  obtain ⟨e1, hS2⟩ := stp2 r2 h2 n2 hPM
  subst e1
  refine gd_licmpeq S (pj_d pL_row 34 rfl) (t := 1372) (by decide) ?_
  exact gd_lwid (by omega) (by omega) (kk h2 n2 hS2)
def PL_set : List (Nat × Instr × Nat) := [(247, .aload_n 1, 1), (248, .aload_n 0, 1), (249, .iload_n 3, 1), (250, .iconst 1, 1), (251, .iadd, 1), (252, .iaload, 1), (253, .aload_n 0, 1), (254, .iload_n 3, 1), (255, .iconst 2, 1), (256, .iadd, 1), (257, .iaload, 1), (258, .aload_n 0, 1), (259, .iload_n 3, 1), (260, .iconst 3, 1), (261, .iadd, 1), (262, .iaload, 1), (263, .invokevirtual 18, 3), (266, .aload_n 2, 1), (267, .aload_n 0, 1), (268, .iload_n 3, 1), (269, .iconst 1, 1), (270, .iadd, 1), (271, .iaload, 1), (272, .aload_n 0, 1), (273, .iload_n 3, 1), (274, .iconst 2, 1), (275, .iadd, 1), (276, .iaload, 1), (277, .aload_n 0, 1), (278, .iload_n 3, 1), (279, .iconst 3, 1), (280, .iadd, 1), (281, .iaload, 1), (282, .invokevirtual 21, 3), (285, .if_icmp .eq 1087, 3)]
theorem pL_set : pj_tab code PL_set = true := by decide +kernel
theorem lc_set (S : gd_LS p s m c b) (hX : va_X b L xs s s.heap) (hbl : b < s.heap.size) (hW : pj_WF E s) (hL4 : L ≤ 384) (hi : i + 6 ≤ L) (hS : gd_SX h s.heap.size n) (hce : ce + 16 ≤ 600000) (hsl : sl + 143 ≤ 7302250) (kk : ∀ h' n', gd_SX h' s.heap.size n' → gd_LU p l e s m below meth c b E 1372 [some (.ref b), some (.ref s.heap.size), some (.ref (s.heap.size + 22)), some (.int (nI i))] [] h' n' (ce + 16) (sl + 143)) : gd_LU p l e s m below meth c b E 247 [some (.ref b), some (.ref s.heap.size), some (.ref (s.heap.size + 22)), some (.int (nI i))] [] h n ce sl := by
  obtain ⟨fx, hx⟩ := gd_SX_x hS
  obtain ⟨PX, CX, stp⟩ := st_set (E := E) (l := l) hS (xs (i + 1)) (xs (i + 2)) (xs (i + 3))
  refine gd_lald S (pj_d pL_set 0 rfl) (q := 248) rfl rfl ?_
  refine gd_larg (q := 253) S hX hbl hL4 (k := 1) (pj_d pL_set 1 rfl) (pj_d pL_set 2 rfl) (pj_d pL_set 3 rfl) (pj_d pL_set 4 rfl) (pj_d pL_set 5 rfl) rfl (by decide) (by omega) ?_
  refine gd_larg (q := 258) S hX hbl hL4 (k := 2) (pj_d pL_set 6 rfl) (pj_d pL_set 7 rfl) (pj_d pL_set 8 rfl) (pj_d pL_set 9 rfl) (pj_d pL_set 10 rfl) rfl (by decide) (by omega) ?_
  refine gd_larg (q := 263) S hX hbl hL4 (k := 3) (pj_d pL_set 11 rfl) (pj_d pL_set 12 rfl) (pj_d pL_set 13 rfl) (pj_d pL_set 14 rfl) (pj_d pL_set 15 rfl) rfl (by decide) (by omega) ?_
  refine gd_lV S hW CX (pj_d pL_set 16 rfl) (q := 266) rfl kL_18 o_X11_set hx rfl rfl (by rfl) (by rfl) (Nat.le_of_ble_eq_true rfl) (by decide) (by omega) (by omega) ?_
  rintro r h' n' hPX
  obtain ⟨⟨v, e0⟩, ⟨fm, hm⟩, PM, CM, stp2⟩ := stp r h' n' hPX
  subst e0
  refine gd_lald S (pj_d pL_set 17 rfl) (q := 267) rfl rfl ?_
  refine gd_larg (q := 272) S hX hbl hL4 (k := 1) (pj_d pL_set 18 rfl) (pj_d pL_set 19 rfl) (pj_d pL_set 20 rfl) (pj_d pL_set 21 rfl) (pj_d pL_set 22 rfl) rfl (by decide) (by omega) ?_
  refine gd_larg (q := 277) S hX hbl hL4 (k := 2) (pj_d pL_set 23 rfl) (pj_d pL_set 24 rfl) (pj_d pL_set 25 rfl) (pj_d pL_set 26 rfl) (pj_d pL_set 27 rfl) rfl (by decide) (by omega) ?_
  refine gd_larg (q := 282) S hX hbl hL4 (k := 3) (pj_d pL_set 28 rfl) (pj_d pL_set 29 rfl) (pj_d pL_set 30 rfl) (pj_d pL_set 31 rfl) (pj_d pL_set 32 rfl) rfl (by decide) (by omega) ?_
  refine gd_lV S hW CM (pj_d pL_set 33 rfl) (q := 285) rfl kL_21 o_X12_set hm rfl rfl (by rfl) (by rfl) (Nat.le_of_ble_eq_true rfl) (by decide) (by omega) (by omega) ?_
  rintro r2 h2 n2 hPM
  obtain ⟨e1, hS2⟩ := stp2 r2 h2 n2 hPM
  subst e1
  refine gd_licmpeq S (pj_d pL_set 34 rfl) (t := 1372) (by decide) ?_
  exact gd_lwid (by omega) (by omega) (kk h2 n2 hS2)
def PL_copy : List (Nat × Instr × Nat) := [(290, .aload_n 1, 1), (291, .aload_n 0, 1), (292, .iload_n 3, 1), (293, .iconst 1, 1), (294, .iadd, 1), (295, .iaload, 1), (296, .aload_n 0, 1), (297, .iload_n 3, 1), (298, .iconst 2, 1), (299, .iadd, 1), (300, .iaload, 1), (301, .aload_n 0, 1), (302, .iload_n 3, 1), (303, .iconst 3, 1), (304, .iadd, 1), (305, .iaload, 1), (306, .aload_n 0, 1), (307, .iload_n 3, 1), (308, .iconst 4, 1), (309, .iadd, 1), (310, .iaload, 1), (311, .aload_n 0, 1), (312, .iload_n 3, 1), (313, .iconst 5, 1), (314, .iadd, 1), (315, .iaload, 1), (316, .invokevirtual 22, 3), (319, .aload_n 2, 1), (320, .aload_n 0, 1), (321, .iload_n 3, 1), (322, .iconst 1, 1), (323, .iadd, 1), (324, .iaload, 1), (325, .aload_n 0, 1), (326, .iload_n 3, 1), (327, .iconst 2, 1), (328, .iadd, 1), (329, .iaload, 1), (330, .aload_n 0, 1), (331, .iload_n 3, 1), (332, .iconst 3, 1), (333, .iadd, 1), (334, .iaload, 1), (335, .aload_n 0, 1), (336, .iload_n 3, 1), (337, .iconst 4, 1), (338, .iadd, 1), (339, .iaload, 1), (340, .aload_n 0, 1), (341, .iload_n 3, 1), (342, .iconst 5, 1), (343, .iadd, 1), (344, .iaload, 1), (345, .invokevirtual 26, 3), (348, .if_icmp .eq 1024, 3)]
theorem pL_copy : pj_tab code PL_copy = true := by decide +kernel
theorem lc_copy (S : gd_LS p s m c b) (hX : va_X b L xs s s.heap) (hbl : b < s.heap.size) (hW : pj_WF E s) (hL4 : L ≤ 384) (hi : i + 6 ≤ L) (hS : gd_SX h s.heap.size n) (hce : ce + 16 ≤ 600000) (hsl : sl + 143 ≤ 7302250) (kk : ∀ h' n', gd_SX h' s.heap.size n' → gd_LU p l e s m below meth c b E 1372 [some (.ref b), some (.ref s.heap.size), some (.ref (s.heap.size + 22)), some (.int (nI i))] [] h' n' (ce + 16) (sl + 143)) : gd_LU p l e s m below meth c b E 290 [some (.ref b), some (.ref s.heap.size), some (.ref (s.heap.size + 22)), some (.int (nI i))] [] h n ce sl := by
  obtain ⟨fx, hx⟩ := gd_SX_x hS
  obtain ⟨PX, CX, stp⟩ := st_copy (E := E) (l := l) hS (xs (i + 1)) (xs (i + 2)) (xs (i + 3)) (xs (i + 4)) (xs (i + 5))
  refine gd_lald S (pj_d pL_copy 0 rfl) (q := 291) rfl rfl ?_
  refine gd_larg (q := 296) S hX hbl hL4 (k := 1) (pj_d pL_copy 1 rfl) (pj_d pL_copy 2 rfl) (pj_d pL_copy 3 rfl) (pj_d pL_copy 4 rfl) (pj_d pL_copy 5 rfl) rfl (by decide) (by omega) ?_
  refine gd_larg (q := 301) S hX hbl hL4 (k := 2) (pj_d pL_copy 6 rfl) (pj_d pL_copy 7 rfl) (pj_d pL_copy 8 rfl) (pj_d pL_copy 9 rfl) (pj_d pL_copy 10 rfl) rfl (by decide) (by omega) ?_
  refine gd_larg (q := 306) S hX hbl hL4 (k := 3) (pj_d pL_copy 11 rfl) (pj_d pL_copy 12 rfl) (pj_d pL_copy 13 rfl) (pj_d pL_copy 14 rfl) (pj_d pL_copy 15 rfl) rfl (by decide) (by omega) ?_
  refine gd_larg (q := 311) S hX hbl hL4 (k := 4) (pj_d pL_copy 16 rfl) (pj_d pL_copy 17 rfl) (pj_d pL_copy 18 rfl) (pj_d pL_copy 19 rfl) (pj_d pL_copy 20 rfl) rfl (by decide) (by omega) ?_
  refine gd_larg (q := 316) S hX hbl hL4 (k := 5) (pj_d pL_copy 21 rfl) (pj_d pL_copy 22 rfl) (pj_d pL_copy 23 rfl) (pj_d pL_copy 24 rfl) (pj_d pL_copy 25 rfl) rfl (by decide) (by omega) ?_
  refine gd_lV S hW CX (pj_d pL_copy 26 rfl) (q := 319) rfl kL_22 o_X11_copy hx rfl rfl (by rfl) (by rfl) (Nat.le_of_ble_eq_true rfl) (by decide) (by omega) (by omega) ?_
  rintro r h' n' hPX
  obtain ⟨⟨v, e0⟩, ⟨fm, hm⟩, PM, CM, stp2⟩ := stp r h' n' hPX
  subst e0
  refine gd_lald S (pj_d pL_copy 27 rfl) (q := 320) rfl rfl ?_
  refine gd_larg (q := 325) S hX hbl hL4 (k := 1) (pj_d pL_copy 28 rfl) (pj_d pL_copy 29 rfl) (pj_d pL_copy 30 rfl) (pj_d pL_copy 31 rfl) (pj_d pL_copy 32 rfl) rfl (by decide) (by omega) ?_
  refine gd_larg (q := 330) S hX hbl hL4 (k := 2) (pj_d pL_copy 33 rfl) (pj_d pL_copy 34 rfl) (pj_d pL_copy 35 rfl) (pj_d pL_copy 36 rfl) (pj_d pL_copy 37 rfl) rfl (by decide) (by omega) ?_
  refine gd_larg (q := 335) S hX hbl hL4 (k := 3) (pj_d pL_copy 38 rfl) (pj_d pL_copy 39 rfl) (pj_d pL_copy 40 rfl) (pj_d pL_copy 41 rfl) (pj_d pL_copy 42 rfl) rfl (by decide) (by omega) ?_
  refine gd_larg (q := 340) S hX hbl hL4 (k := 4) (pj_d pL_copy 43 rfl) (pj_d pL_copy 44 rfl) (pj_d pL_copy 45 rfl) (pj_d pL_copy 46 rfl) (pj_d pL_copy 47 rfl) rfl (by decide) (by omega) ?_
  refine gd_larg (q := 345) S hX hbl hL4 (k := 5) (pj_d pL_copy 48 rfl) (pj_d pL_copy 49 rfl) (pj_d pL_copy 50 rfl) (pj_d pL_copy 51 rfl) (pj_d pL_copy 52 rfl) rfl (by decide) (by omega) ?_
  refine gd_lV S hW CM (pj_d pL_copy 53 rfl) (q := 348) rfl kL_26 o_X12_copy hm rfl rfl (by rfl) (by rfl) (Nat.le_of_ble_eq_true rfl) (by decide) (by omega) (by omega) ?_
  rintro r2 h2 n2 hPM
  obtain ⟨e1, hS2⟩ := stp2 r2 h2 n2 hPM
  subst e1
  refine gd_licmpeq S (pj_d pL_copy 54 rfl) (t := 1372) (by decide) ?_
  exact gd_lwid (by omega) (by omega) (kk h2 n2 hS2)
def PL_drop : List (Nat × Instr × Nat) := [(353, .aload_n 1, 1), (354, .aload_n 0, 1), (355, .iload_n 3, 1), (356, .iconst 1, 1), (357, .iadd, 1), (358, .iaload, 1), (359, .invokevirtual 27, 3), (362, .aload_n 2, 1), (363, .aload_n 0, 1), (364, .iload_n 3, 1), (365, .iconst 1, 1), (366, .iadd, 1), (367, .iaload, 1), (368, .invokevirtual 31, 3), (371, .if_icmp .eq 1001, 3)]
theorem pL_drop : pj_tab code PL_drop = true := by decide +kernel
theorem lc_drop (S : gd_LS p s m c b) (hX : va_X b L xs s s.heap) (hbl : b < s.heap.size) (hW : pj_WF E s) (hL4 : L ≤ 384) (hi : i + 6 ≤ L) (hS : gd_SX h s.heap.size n) (hce : ce + 16 ≤ 600000) (hsl : sl + 143 ≤ 7302250) (kk : ∀ h' n', gd_SX h' s.heap.size n' → gd_LU p l e s m below meth c b E 1372 [some (.ref b), some (.ref s.heap.size), some (.ref (s.heap.size + 22)), some (.int (nI i))] [] h' n' (ce + 16) (sl + 143)) : gd_LU p l e s m below meth c b E 353 [some (.ref b), some (.ref s.heap.size), some (.ref (s.heap.size + 22)), some (.int (nI i))] [] h n ce sl := by
  obtain ⟨fx, hx⟩ := gd_SX_x hS
  obtain ⟨PX, CX, stp⟩ := st_drop (E := E) (l := l) hS (xs (i + 1))
  refine gd_lald S (pj_d pL_drop 0 rfl) (q := 354) rfl rfl ?_
  refine gd_larg (q := 359) S hX hbl hL4 (k := 1) (pj_d pL_drop 1 rfl) (pj_d pL_drop 2 rfl) (pj_d pL_drop 3 rfl) (pj_d pL_drop 4 rfl) (pj_d pL_drop 5 rfl) rfl (by decide) (by omega) ?_
  refine gd_lV S hW CX (pj_d pL_drop 6 rfl) (q := 362) rfl kL_27 o_X11_drop hx rfl rfl (by rfl) (by rfl) (Nat.le_of_ble_eq_true rfl) (by decide) (by omega) (by omega) ?_
  rintro r h' n' hPX
  obtain ⟨⟨v, e0⟩, ⟨fm, hm⟩, PM, CM, stp2⟩ := stp r h' n' hPX
  subst e0
  refine gd_lald S (pj_d pL_drop 7 rfl) (q := 363) rfl rfl ?_
  refine gd_larg (q := 368) S hX hbl hL4 (k := 1) (pj_d pL_drop 8 rfl) (pj_d pL_drop 9 rfl) (pj_d pL_drop 10 rfl) (pj_d pL_drop 11 rfl) (pj_d pL_drop 12 rfl) rfl (by decide) (by omega) ?_
  refine gd_lV S hW CM (pj_d pL_drop 13 rfl) (q := 371) rfl kL_31 o_X12_drop hm rfl rfl (by rfl) (by rfl) (Nat.le_of_ble_eq_true rfl) (by decide) (by omega) (by omega) ?_
  rintro r2 h2 n2 hPM
  obtain ⟨e1, hS2⟩ := stp2 r2 h2 n2 hPM
  subst e1
  refine gd_licmpeq S (pj_d pL_drop 14 rfl) (t := 1372) (by decide) ?_
  exact gd_lwid (by omega) (by omega) (kk h2 n2 hS2)
def PL_feed : List (Nat × Instr × Nat) := [(376, .aload_n 1, 1), (377, .aload_n 0, 1), (378, .iload_n 3, 1), (379, .iconst 1, 1), (380, .iadd, 1), (381, .iaload, 1), (382, .invokevirtual 32, 3), (385, .aload_n 2, 1), (386, .aload_n 0, 1), (387, .iload_n 3, 1), (388, .iconst 1, 1), (389, .iadd, 1), (390, .iaload, 1), (391, .invokevirtual 35, 3), (394, .if_icmp .eq 978, 3)]
theorem pL_feed : pj_tab code PL_feed = true := by decide +kernel
theorem lc_feed (S : gd_LS p s m c b) (hX : va_X b L xs s s.heap) (hbl : b < s.heap.size) (hW : pj_WF E s) (hL4 : L ≤ 384) (hi : i + 6 ≤ L) (hS : gd_SX h s.heap.size n) (hce : ce + 16 ≤ 600000) (hsl : sl + 143 ≤ 7302250) (kk : ∀ h' n', gd_SX h' s.heap.size n' → gd_LU p l e s m below meth c b E 1372 [some (.ref b), some (.ref s.heap.size), some (.ref (s.heap.size + 22)), some (.int (nI i))] [] h' n' (ce + 16) (sl + 143)) : gd_LU p l e s m below meth c b E 376 [some (.ref b), some (.ref s.heap.size), some (.ref (s.heap.size + 22)), some (.int (nI i))] [] h n ce sl := by
  obtain ⟨fx, hx⟩ := gd_SX_x hS
  obtain ⟨PX, CX, stp⟩ := st_feed (E := E) (l := l) hS (xs (i + 1))
  refine gd_lald S (pj_d pL_feed 0 rfl) (q := 377) rfl rfl ?_
  refine gd_larg (q := 382) S hX hbl hL4 (k := 1) (pj_d pL_feed 1 rfl) (pj_d pL_feed 2 rfl) (pj_d pL_feed 3 rfl) (pj_d pL_feed 4 rfl) (pj_d pL_feed 5 rfl) rfl (by decide) (by omega) ?_
  refine gd_lV S hW CX (pj_d pL_feed 6 rfl) (q := 385) rfl kL_32 o_X11_feed hx rfl rfl (by rfl) (by rfl) (Nat.le_of_ble_eq_true rfl) (by decide) (by omega) (by omega) ?_
  rintro r h' n' hPX
  obtain ⟨⟨v, e0⟩, ⟨fm, hm⟩, PM, CM, stp2⟩ := stp r h' n' hPX
  subst e0
  refine gd_lald S (pj_d pL_feed 7 rfl) (q := 386) rfl rfl ?_
  refine gd_larg (q := 391) S hX hbl hL4 (k := 1) (pj_d pL_feed 8 rfl) (pj_d pL_feed 9 rfl) (pj_d pL_feed 10 rfl) (pj_d pL_feed 11 rfl) (pj_d pL_feed 12 rfl) rfl (by decide) (by omega) ?_
  refine gd_lV S hW CM (pj_d pL_feed 13 rfl) (q := 394) rfl kL_35 o_X12_feed hm rfl rfl (by rfl) (by rfl) (Nat.le_of_ble_eq_true rfl) (by decide) (by omega) (by omega) ?_
  rintro r2 h2 n2 hPM
  obtain ⟨e1, hS2⟩ := stp2 r2 h2 n2 hPM
  subst e1
  refine gd_licmpeq S (pj_d pL_feed 14 rfl) (t := 1372) (by decide) ?_
  exact gd_lwid (by omega) (by omega) (kk h2 n2 hS2)
def PL_town : List (Nat × Instr × Nat) := [(399, .aload_n 1, 1), (400, .invokevirtual 36, 3), (403, .aload_n 2, 1), (404, .invokevirtual 40, 3), (407, .if_icmp .eq 965, 3)]
theorem pL_town : pj_tab code PL_town = true := by decide +kernel
theorem lc_town (S : gd_LS p s m c b) (hX : va_X b L xs s s.heap) (hbl : b < s.heap.size) (hW : pj_WF E s) (hL4 : L ≤ 384) (hi : i + 6 ≤ L) (hS : gd_SX h s.heap.size n) (hce : ce + 16 ≤ 600000) (hsl : sl + 143 ≤ 7302250) (kk : ∀ h' n', gd_SX h' s.heap.size n' → gd_LU p l e s m below meth c b E 1372 [some (.ref b), some (.ref s.heap.size), some (.ref (s.heap.size + 22)), some (.int (nI i))] [] h' n' (ce + 16) (sl + 143)) : gd_LU p l e s m below meth c b E 399 [some (.ref b), some (.ref s.heap.size), some (.ref (s.heap.size + 22)), some (.int (nI i))] [] h n ce sl := by
  obtain ⟨fx, hx⟩ := gd_SX_x hS
  obtain ⟨PX, CX, stp⟩ := st_town (E := E) (l := l) hS 
  refine gd_lald S (pj_d pL_town 0 rfl) (q := 400) rfl rfl ?_
  refine gd_lV S hW CX (pj_d pL_town 1 rfl) (q := 403) rfl kL_36 o_X11_town hx rfl rfl (by rfl) (by rfl) (Nat.le_of_ble_eq_true rfl) (by decide) (by omega) (by omega) ?_
  rintro r h' n' hPX
  obtain ⟨⟨v, e0⟩, ⟨fm, hm⟩, PM, CM, stp2⟩ := stp r h' n' hPX
  subst e0
  refine gd_lald S (pj_d pL_town 2 rfl) (q := 404) rfl rfl ?_
  refine gd_lV S hW CM (pj_d pL_town 3 rfl) (q := 407) rfl kL_40 o_X12_town hm rfl rfl (by rfl) (by rfl) (Nat.le_of_ble_eq_true rfl) (by decide) (by omega) (by omega) ?_
  rintro r2 h2 n2 hPM
  obtain ⟨e1, hS2⟩ := stp2 r2 h2 n2 hPM
  subst e1
  refine gd_licmpeq S (pj_d pL_town 4 rfl) (t := 1372) (by decide) ?_
  exact gd_lwid (by omega) (by omega) (kk h2 n2 hS2)
def PL_fault : List (Nat × Instr × Nat) := [(412, .aload_n 1, 1), (413, .invokevirtual 41, 3), (416, .aload_n 2, 1), (417, .invokevirtual 44, 3), (420, .if_icmp .eq 952, 3)]
theorem pL_fault : pj_tab code PL_fault = true := by decide +kernel
theorem lc_fault (S : gd_LS p s m c b) (hX : va_X b L xs s s.heap) (hbl : b < s.heap.size) (hW : pj_WF E s) (hL4 : L ≤ 384) (hi : i + 6 ≤ L) (hS : gd_SX h s.heap.size n) (hce : ce + 16 ≤ 600000) (hsl : sl + 143 ≤ 7302250) (kk : ∀ h' n', gd_SX h' s.heap.size n' → gd_LU p l e s m below meth c b E 1372 [some (.ref b), some (.ref s.heap.size), some (.ref (s.heap.size + 22)), some (.int (nI i))] [] h' n' (ce + 16) (sl + 143)) : gd_LU p l e s m below meth c b E 412 [some (.ref b), some (.ref s.heap.size), some (.ref (s.heap.size + 22)), some (.int (nI i))] [] h n ce sl := by
  obtain ⟨fx, hx⟩ := gd_SX_x hS
  obtain ⟨PX, CX, stp⟩ := st_fault (E := E) (l := l) hS 
  refine gd_lald S (pj_d pL_fault 0 rfl) (q := 413) rfl rfl ?_
  refine gd_lV S hW CX (pj_d pL_fault 1 rfl) (q := 416) rfl kL_41 o_X11_fault hx rfl rfl (by rfl) (by rfl) (Nat.le_of_ble_eq_true rfl) (by decide) (by omega) (by omega) ?_
  rintro r h' n' hPX
  obtain ⟨⟨v, e0⟩, ⟨fm, hm⟩, PM, CM, stp2⟩ := stp r h' n' hPX
  subst e0
  refine gd_lald S (pj_d pL_fault 2 rfl) (q := 417) rfl rfl ?_
  refine gd_lV S hW CM (pj_d pL_fault 3 rfl) (q := 420) rfl kL_44 o_X12_fault hm rfl rfl (by rfl) (by rfl) (Nat.le_of_ble_eq_true rfl) (by decide) (by omega) (by omega) ?_
  rintro r2 h2 n2 hPM
  obtain ⟨e1, hS2⟩ := stp2 r2 h2 n2 hPM
  subst e1
  refine gd_licmpeq S (pj_d pL_fault 4 rfl) (t := 1372) (by decide) ?_
  exact gd_lwid (by omega) (by omega) (kk h2 n2 hS2)
def PL_undo : List (Nat × Instr × Nat) := [(425, .aload_n 1, 1), (426, .invokevirtual 45, 3), (429, .aload_n 2, 1), (430, .invokevirtual 48, 3), (433, .if_icmp .eq 939, 3)]
theorem pL_undo : pj_tab code PL_undo = true := by decide +kernel
theorem lc_undo (S : gd_LS p s m c b) (hX : va_X b L xs s s.heap) (hbl : b < s.heap.size) (hW : pj_WF E s) (hL4 : L ≤ 384) (hi : i + 6 ≤ L) (hS : gd_SX h s.heap.size n) (hce : ce + 16 ≤ 600000) (hsl : sl + 143 ≤ 7302250) (kk : ∀ h' n', gd_SX h' s.heap.size n' → gd_LU p l e s m below meth c b E 1372 [some (.ref b), some (.ref s.heap.size), some (.ref (s.heap.size + 22)), some (.int (nI i))] [] h' n' (ce + 16) (sl + 143)) : gd_LU p l e s m below meth c b E 425 [some (.ref b), some (.ref s.heap.size), some (.ref (s.heap.size + 22)), some (.int (nI i))] [] h n ce sl := by
  obtain ⟨fx, hx⟩ := gd_SX_x hS
  obtain ⟨PX, CX, stp⟩ := st_undo (E := E) (l := l) hS 
  refine gd_lald S (pj_d pL_undo 0 rfl) (q := 426) rfl rfl ?_
  refine gd_lV S hW CX (pj_d pL_undo 1 rfl) (q := 429) rfl kL_45 o_X11_undo hx rfl rfl (by rfl) (by rfl) (Nat.le_of_ble_eq_true rfl) (by decide) (by omega) (by omega) ?_
  rintro r h' n' hPX
  obtain ⟨⟨v, e0⟩, ⟨fm, hm⟩, PM, CM, stp2⟩ := stp r h' n' hPX
  subst e0
  refine gd_lald S (pj_d pL_undo 2 rfl) (q := 430) rfl rfl ?_
  refine gd_lV S hW CM (pj_d pL_undo 3 rfl) (q := 433) rfl kL_48 o_X12_undo hm rfl rfl (by rfl) (by rfl) (Nat.le_of_ble_eq_true rfl) (by decide) (by omega) (by omega) ?_
  rintro r2 h2 n2 hPM
  obtain ⟨e1, hS2⟩ := stp2 r2 h2 n2 hPM
  subst e1
  refine gd_licmpeq S (pj_d pL_undo 4 rfl) (t := 1372) (by decide) ?_
  exact gd_lwid (by omega) (by omega) (kk h2 n2 hS2)
def PL_days : List (Nat × Instr × Nat) := [(438, .aload_n 1, 1), (439, .aload_n 0, 1), (440, .iload_n 3, 1), (441, .iconst 1, 1), (442, .iadd, 1), (443, .iaload, 1), (444, .invokevirtual 49, 3), (447, .aload_n 2, 1), (448, .aload_n 0, 1), (449, .iload_n 3, 1), (450, .iconst 1, 1), (451, .iadd, 1), (452, .iaload, 1), (453, .invokevirtual 52, 3), (456, .if_icmp .eq 916, 3)]
theorem pL_days : pj_tab code PL_days = true := by decide +kernel
theorem lc_days (S : gd_LS p s m c b) (hX : va_X b L xs s s.heap) (hbl : b < s.heap.size) (hW : pj_WF E s) (hL4 : L ≤ 384) (hi : i + 6 ≤ L) (hS : gd_SX h s.heap.size n) (hce : ce + 16 ≤ 600000) (hsl : sl + 143 ≤ 7302250) (kk : ∀ h' n', gd_SX h' s.heap.size n' → gd_LU p l e s m below meth c b E 1372 [some (.ref b), some (.ref s.heap.size), some (.ref (s.heap.size + 22)), some (.int (nI i))] [] h' n' (ce + 16) (sl + 143)) : gd_LU p l e s m below meth c b E 438 [some (.ref b), some (.ref s.heap.size), some (.ref (s.heap.size + 22)), some (.int (nI i))] [] h n ce sl := by
  obtain ⟨fx, hx⟩ := gd_SX_x hS
  obtain ⟨PX, CX, stp⟩ := st_days (E := E) (l := l) hS (xs (i + 1))
  refine gd_lald S (pj_d pL_days 0 rfl) (q := 439) rfl rfl ?_
  refine gd_larg (q := 444) S hX hbl hL4 (k := 1) (pj_d pL_days 1 rfl) (pj_d pL_days 2 rfl) (pj_d pL_days 3 rfl) (pj_d pL_days 4 rfl) (pj_d pL_days 5 rfl) rfl (by decide) (by omega) ?_
  refine gd_lV S hW CX (pj_d pL_days 6 rfl) (q := 447) rfl kL_49 o_X11_days hx rfl rfl (by rfl) (by rfl) (Nat.le_of_ble_eq_true rfl) (by decide) (by omega) (by omega) ?_
  rintro r h' n' hPX
  obtain ⟨⟨v, e0⟩, ⟨fm, hm⟩, PM, CM, stp2⟩ := stp r h' n' hPX
  subst e0
  refine gd_lald S (pj_d pL_days 7 rfl) (q := 448) rfl rfl ?_
  refine gd_larg (q := 453) S hX hbl hL4 (k := 1) (pj_d pL_days 8 rfl) (pj_d pL_days 9 rfl) (pj_d pL_days 10 rfl) (pj_d pL_days 11 rfl) (pj_d pL_days 12 rfl) rfl (by decide) (by omega) ?_
  refine gd_lV S hW CM (pj_d pL_days 13 rfl) (q := 456) rfl kL_52 o_X12_days hm rfl rfl (by rfl) (by rfl) (Nat.le_of_ble_eq_true rfl) (by decide) (by omega) (by omega) ?_
  rintro r2 h2 n2 hPM
  obtain ⟨e1, hS2⟩ := stp2 r2 h2 n2 hPM
  subst e1
  refine gd_licmpeq S (pj_d pL_days 14 rfl) (t := 1372) (by decide) ?_
  exact gd_lwid (by omega) (by omega) (kk h2 n2 hS2)
def PL_paint : List (Nat × Instr × Nat) := [(461, .aload_n 1, 1), (462, .aload_n 0, 1), (463, .iload_n 3, 1), (464, .iconst 1, 1), (465, .iadd, 1), (466, .iaload, 1), (467, .aload_n 0, 1), (468, .iload_n 3, 1), (469, .iconst 2, 1), (470, .iadd, 1), (471, .iaload, 1), (472, .invokevirtual 53, 3), (475, .aload_n 2, 1), (476, .aload_n 0, 1), (477, .iload_n 3, 1), (478, .iconst 1, 1), (479, .iadd, 1), (480, .iaload, 1), (481, .aload_n 0, 1), (482, .iload_n 3, 1), (483, .iconst 2, 1), (484, .iadd, 1), (485, .iaload, 1), (486, .invokevirtual 57, 3), (489, .if_icmp .eq 883, 3)]
theorem pL_paint : pj_tab code PL_paint = true := by decide +kernel
theorem lc_paint (S : gd_LS p s m c b) (hX : va_X b L xs s s.heap) (hbl : b < s.heap.size) (hW : pj_WF E s) (hL4 : L ≤ 384) (hi : i + 6 ≤ L) (hS : gd_SX h s.heap.size n) (hce : ce + 16 ≤ 600000) (hsl : sl + 143 ≤ 7302250) (kk : ∀ h' n', gd_SX h' s.heap.size n' → gd_LU p l e s m below meth c b E 1372 [some (.ref b), some (.ref s.heap.size), some (.ref (s.heap.size + 22)), some (.int (nI i))] [] h' n' (ce + 16) (sl + 143)) : gd_LU p l e s m below meth c b E 461 [some (.ref b), some (.ref s.heap.size), some (.ref (s.heap.size + 22)), some (.int (nI i))] [] h n ce sl := by
  obtain ⟨fx, hx⟩ := gd_SX_x hS
  obtain ⟨PX, CX, stp⟩ := st_paint (E := E) (l := l) hS (xs (i + 1)) (xs (i + 2))
  refine gd_lald S (pj_d pL_paint 0 rfl) (q := 462) rfl rfl ?_
  refine gd_larg (q := 467) S hX hbl hL4 (k := 1) (pj_d pL_paint 1 rfl) (pj_d pL_paint 2 rfl) (pj_d pL_paint 3 rfl) (pj_d pL_paint 4 rfl) (pj_d pL_paint 5 rfl) rfl (by decide) (by omega) ?_
  refine gd_larg (q := 472) S hX hbl hL4 (k := 2) (pj_d pL_paint 6 rfl) (pj_d pL_paint 7 rfl) (pj_d pL_paint 8 rfl) (pj_d pL_paint 9 rfl) (pj_d pL_paint 10 rfl) rfl (by decide) (by omega) ?_
  refine gd_lV S hW CX (pj_d pL_paint 11 rfl) (q := 475) rfl kL_53 o_X11_paint hx rfl rfl (by rfl) (by rfl) (Nat.le_of_ble_eq_true rfl) (by decide) (by omega) (by omega) ?_
  rintro r h' n' hPX
  obtain ⟨⟨v, e0⟩, ⟨fm, hm⟩, PM, CM, stp2⟩ := stp r h' n' hPX
  subst e0
  refine gd_lald S (pj_d pL_paint 12 rfl) (q := 476) rfl rfl ?_
  refine gd_larg (q := 481) S hX hbl hL4 (k := 1) (pj_d pL_paint 13 rfl) (pj_d pL_paint 14 rfl) (pj_d pL_paint 15 rfl) (pj_d pL_paint 16 rfl) (pj_d pL_paint 17 rfl) rfl (by decide) (by omega) ?_
  refine gd_larg (q := 486) S hX hbl hL4 (k := 2) (pj_d pL_paint 18 rfl) (pj_d pL_paint 19 rfl) (pj_d pL_paint 20 rfl) (pj_d pL_paint 21 rfl) (pj_d pL_paint 22 rfl) rfl (by decide) (by omega) ?_
  refine gd_lV S hW CM (pj_d pL_paint 23 rfl) (q := 489) rfl kL_57 o_X12_paint hm rfl rfl (by rfl) (by rfl) (Nat.le_of_ble_eq_true rfl) (by decide) (by omega) (by omega) ?_
  rintro r2 h2 n2 hPM
  obtain ⟨e1, hS2⟩ := stp2 r2 h2 n2 hPM
  subst e1
  refine gd_licmpeq S (pj_d pL_paint 24 rfl) (t := 1372) (by decide) ?_
  exact gd_lwid (by omega) (by omega) (kk h2 n2 hS2)
def PL_miss : List (Nat × Instr × Nat) := [(494, .aload_n 1, 1), (495, .aload_n 0, 1), (496, .iload_n 3, 1), (497, .iconst 1, 1), (498, .iadd, 1), (499, .iaload, 1), (500, .aload_n 0, 1), (501, .iload_n 3, 1), (502, .iconst 2, 1), (503, .iadd, 1), (504, .iaload, 1), (505, .invokevirtual 58, 3), (508, .aload_n 2, 1), (509, .aload_n 0, 1), (510, .iload_n 3, 1), (511, .iconst 1, 1), (512, .iadd, 1), (513, .iaload, 1), (514, .aload_n 0, 1), (515, .iload_n 3, 1), (516, .iconst 2, 1), (517, .iadd, 1), (518, .iaload, 1), (519, .invokevirtual 61, 3), (522, .if_icmp .eq 850, 3)]
theorem pL_miss : pj_tab code PL_miss = true := by decide +kernel
theorem lc_miss (S : gd_LS p s m c b) (hX : va_X b L xs s s.heap) (hbl : b < s.heap.size) (hW : pj_WF E s) (hL4 : L ≤ 384) (hi : i + 6 ≤ L) (hS : gd_SX h s.heap.size n) (hce : ce + 16 ≤ 600000) (hsl : sl + 143 ≤ 7302250) (kk : ∀ h' n', gd_SX h' s.heap.size n' → gd_LU p l e s m below meth c b E 1372 [some (.ref b), some (.ref s.heap.size), some (.ref (s.heap.size + 22)), some (.int (nI i))] [] h' n' (ce + 16) (sl + 143)) : gd_LU p l e s m below meth c b E 494 [some (.ref b), some (.ref s.heap.size), some (.ref (s.heap.size + 22)), some (.int (nI i))] [] h n ce sl := by
  obtain ⟨fx, hx⟩ := gd_SX_x hS
  obtain ⟨PX, CX, stp⟩ := st_miss (E := E) (l := l) hS (xs (i + 1)) (xs (i + 2))
  refine gd_lald S (pj_d pL_miss 0 rfl) (q := 495) rfl rfl ?_
  refine gd_larg (q := 500) S hX hbl hL4 (k := 1) (pj_d pL_miss 1 rfl) (pj_d pL_miss 2 rfl) (pj_d pL_miss 3 rfl) (pj_d pL_miss 4 rfl) (pj_d pL_miss 5 rfl) rfl (by decide) (by omega) ?_
  refine gd_larg (q := 505) S hX hbl hL4 (k := 2) (pj_d pL_miss 6 rfl) (pj_d pL_miss 7 rfl) (pj_d pL_miss 8 rfl) (pj_d pL_miss 9 rfl) (pj_d pL_miss 10 rfl) rfl (by decide) (by omega) ?_
  refine gd_lV S hW CX (pj_d pL_miss 11 rfl) (q := 508) rfl kL_58 o_X11_miss hx rfl rfl (by rfl) (by rfl) (Nat.le_of_ble_eq_true rfl) (by decide) (by omega) (by omega) ?_
  rintro r h' n' hPX
  obtain ⟨⟨v, e0⟩, ⟨fm, hm⟩, PM, CM, stp2⟩ := stp r h' n' hPX
  subst e0
  refine gd_lald S (pj_d pL_miss 12 rfl) (q := 509) rfl rfl ?_
  refine gd_larg (q := 514) S hX hbl hL4 (k := 1) (pj_d pL_miss 13 rfl) (pj_d pL_miss 14 rfl) (pj_d pL_miss 15 rfl) (pj_d pL_miss 16 rfl) (pj_d pL_miss 17 rfl) rfl (by decide) (by omega) ?_
  refine gd_larg (q := 519) S hX hbl hL4 (k := 2) (pj_d pL_miss 18 rfl) (pj_d pL_miss 19 rfl) (pj_d pL_miss 20 rfl) (pj_d pL_miss 21 rfl) (pj_d pL_miss 22 rfl) rfl (by decide) (by omega) ?_
  refine gd_lV S hW CM (pj_d pL_miss 23 rfl) (q := 522) rfl kL_61 o_X12_miss hm rfl rfl (by rfl) (by rfl) (Nat.le_of_ble_eq_true rfl) (by decide) (by omega) (by omega) ?_
  rintro r2 h2 n2 hPM
  obtain ⟨e1, hS2⟩ := stp2 r2 h2 n2 hPM
  subst e1
  refine gd_licmpeq S (pj_d pL_miss 24 rfl) (t := 1372) (by decide) ?_
  exact gd_lwid (by omega) (by omega) (kk h2 n2 hS2)
def PL_thing : List (Nat × Instr × Nat) := [(527, .aload_n 1, 1), (528, .aload_n 0, 1), (529, .iload_n 3, 1), (530, .iconst 1, 1), (531, .iadd, 1), (532, .iaload, 1), (533, .aload_n 0, 1), (534, .iload_n 3, 1), (535, .iconst 2, 1), (536, .iadd, 1), (537, .iaload, 1), (538, .invokevirtual 62, 3), (541, .aload_n 2, 1), (542, .aload_n 0, 1), (543, .iload_n 3, 1), (544, .iconst 1, 1), (545, .iadd, 1), (546, .iaload, 1), (547, .aload_n 0, 1), (548, .iload_n 3, 1), (549, .iconst 2, 1), (550, .iadd, 1), (551, .iaload, 1), (552, .invokevirtual 65, 3), (555, .if_icmp .eq 817, 3)]
theorem pL_thing : pj_tab code PL_thing = true := by decide +kernel
theorem lc_thing (S : gd_LS p s m c b) (hX : va_X b L xs s s.heap) (hbl : b < s.heap.size) (hW : pj_WF E s) (hL4 : L ≤ 384) (hi : i + 6 ≤ L) (hS : gd_SX h s.heap.size n) (hce : ce + 16 ≤ 600000) (hsl : sl + 143 ≤ 7302250) (kk : ∀ h' n', gd_SX h' s.heap.size n' → gd_LU p l e s m below meth c b E 1372 [some (.ref b), some (.ref s.heap.size), some (.ref (s.heap.size + 22)), some (.int (nI i))] [] h' n' (ce + 16) (sl + 143)) : gd_LU p l e s m below meth c b E 527 [some (.ref b), some (.ref s.heap.size), some (.ref (s.heap.size + 22)), some (.int (nI i))] [] h n ce sl := by
  obtain ⟨fx, hx⟩ := gd_SX_x hS
  obtain ⟨PX, CX, stp⟩ := st_thing (E := E) (l := l) hS (xs (i + 1)) (xs (i + 2))
  refine gd_lald S (pj_d pL_thing 0 rfl) (q := 528) rfl rfl ?_
  refine gd_larg (q := 533) S hX hbl hL4 (k := 1) (pj_d pL_thing 1 rfl) (pj_d pL_thing 2 rfl) (pj_d pL_thing 3 rfl) (pj_d pL_thing 4 rfl) (pj_d pL_thing 5 rfl) rfl (by decide) (by omega) ?_
  refine gd_larg (q := 538) S hX hbl hL4 (k := 2) (pj_d pL_thing 6 rfl) (pj_d pL_thing 7 rfl) (pj_d pL_thing 8 rfl) (pj_d pL_thing 9 rfl) (pj_d pL_thing 10 rfl) rfl (by decide) (by omega) ?_
  refine gd_lV S hW CX (pj_d pL_thing 11 rfl) (q := 541) rfl kL_62 o_X11_thing hx rfl rfl (by rfl) (by rfl) (Nat.le_of_ble_eq_true rfl) (by decide) (by omega) (by omega) ?_
  rintro r h' n' hPX
  obtain ⟨⟨v, e0⟩, ⟨fm, hm⟩, PM, CM, stp2⟩ := stp r h' n' hPX
  subst e0
  refine gd_lald S (pj_d pL_thing 12 rfl) (q := 542) rfl rfl ?_
  refine gd_larg (q := 547) S hX hbl hL4 (k := 1) (pj_d pL_thing 13 rfl) (pj_d pL_thing 14 rfl) (pj_d pL_thing 15 rfl) (pj_d pL_thing 16 rfl) (pj_d pL_thing 17 rfl) rfl (by decide) (by omega) ?_
  refine gd_larg (q := 552) S hX hbl hL4 (k := 2) (pj_d pL_thing 18 rfl) (pj_d pL_thing 19 rfl) (pj_d pL_thing 20 rfl) (pj_d pL_thing 21 rfl) (pj_d pL_thing 22 rfl) rfl (by decide) (by omega) ?_
  refine gd_lV S hW CM (pj_d pL_thing 23 rfl) (q := 555) rfl kL_65 o_X12_thing hm rfl rfl (by rfl) (by rfl) (Nat.le_of_ble_eq_true rfl) (by decide) (by omega) (by omega) ?_
  rintro r2 h2 n2 hPM
  obtain ⟨e1, hS2⟩ := stp2 r2 h2 n2 hPM
  subst e1
  refine gd_licmpeq S (pj_d pL_thing 24 rfl) (t := 1372) (by decide) ?_
  exact gd_lwid (by omega) (by omega) (kk h2 n2 hS2)
def PL_missing : List (Nat × Instr × Nat) := [(560, .aload_n 1, 1), (561, .aload_n 0, 1), (562, .iload_n 3, 1), (563, .iconst 1, 1), (564, .iadd, 1), (565, .iaload, 1), (566, .invokevirtual 66, 3), (569, .aload_n 2, 1), (570, .aload_n 0, 1), (571, .iload_n 3, 1), (572, .iconst 1, 1), (573, .iadd, 1), (574, .iaload, 1), (575, .invokevirtual 69, 3), (578, .if_icmp .eq 794, 3)]
theorem pL_missing : pj_tab code PL_missing = true := by decide +kernel
theorem lc_missing (S : gd_LS p s m c b) (hX : va_X b L xs s s.heap) (hbl : b < s.heap.size) (hW : pj_WF E s) (hL4 : L ≤ 384) (hi : i + 6 ≤ L) (hS : gd_SX h s.heap.size n) (hce : ce + 16 ≤ 600000) (hsl : sl + 143 ≤ 7302250) (kk : ∀ h' n', gd_SX h' s.heap.size n' → gd_LU p l e s m below meth c b E 1372 [some (.ref b), some (.ref s.heap.size), some (.ref (s.heap.size + 22)), some (.int (nI i))] [] h' n' (ce + 16) (sl + 143)) : gd_LU p l e s m below meth c b E 560 [some (.ref b), some (.ref s.heap.size), some (.ref (s.heap.size + 22)), some (.int (nI i))] [] h n ce sl := by
  obtain ⟨fx, hx⟩ := gd_SX_x hS
  obtain ⟨PX, CX, stp⟩ := st_missing (E := E) (l := l) hS (xs (i + 1))
  refine gd_lald S (pj_d pL_missing 0 rfl) (q := 561) rfl rfl ?_
  refine gd_larg (q := 566) S hX hbl hL4 (k := 1) (pj_d pL_missing 1 rfl) (pj_d pL_missing 2 rfl) (pj_d pL_missing 3 rfl) (pj_d pL_missing 4 rfl) (pj_d pL_missing 5 rfl) rfl (by decide) (by omega) ?_
  refine gd_lV S hW CX (pj_d pL_missing 6 rfl) (q := 569) rfl kL_66 o_X11_missing hx rfl rfl (by rfl) (by rfl) (Nat.le_of_ble_eq_true rfl) (by decide) (by omega) (by omega) ?_
  rintro r h' n' hPX
  obtain ⟨⟨v, e0⟩, ⟨fm, hm⟩, PM, CM, stp2⟩ := stp r h' n' hPX
  subst e0
  refine gd_lald S (pj_d pL_missing 7 rfl) (q := 570) rfl rfl ?_
  refine gd_larg (q := 575) S hX hbl hL4 (k := 1) (pj_d pL_missing 8 rfl) (pj_d pL_missing 9 rfl) (pj_d pL_missing 10 rfl) (pj_d pL_missing 11 rfl) (pj_d pL_missing 12 rfl) rfl (by decide) (by omega) ?_
  refine gd_lV S hW CM (pj_d pL_missing 13 rfl) (q := 578) rfl kL_69 o_X12_missing hm rfl rfl (by rfl) (by rfl) (Nat.le_of_ble_eq_true rfl) (by decide) (by omega) (by omega) ?_
  rintro r2 h2 n2 hPM
  obtain ⟨e1, hS2⟩ := stp2 r2 h2 n2 hPM
  subst e1
  refine gd_licmpeq S (pj_d pL_missing 14 rfl) (t := 1372) (by decide) ?_
  exact gd_lwid (by omega) (by omega) (kk h2 n2 hS2)
def PL_pair : List (Nat × Instr × Nat) := [(583, .aload_n 1, 1), (584, .aload_n 0, 1), (585, .iload_n 3, 1), (586, .iconst 1, 1), (587, .iadd, 1), (588, .iaload, 1), (589, .aload_n 0, 1), (590, .iload_n 3, 1), (591, .iconst 2, 1), (592, .iadd, 1), (593, .iaload, 1), (594, .invokevirtual 70, 3), (597, .aload_n 2, 1), (598, .aload_n 0, 1), (599, .iload_n 3, 1), (600, .iconst 1, 1), (601, .iadd, 1), (602, .iaload, 1), (603, .aload_n 0, 1), (604, .iload_n 3, 1), (605, .iconst 2, 1), (606, .iadd, 1), (607, .iaload, 1), (608, .invokevirtual 73, 3), (611, .if_icmp .eq 761, 3)]
theorem pL_pair : pj_tab code PL_pair = true := by decide +kernel
theorem lc_pair (S : gd_LS p s m c b) (hX : va_X b L xs s s.heap) (hbl : b < s.heap.size) (hW : pj_WF E s) (hL4 : L ≤ 384) (hi : i + 6 ≤ L) (hS : gd_SX h s.heap.size n) (hce : ce + 16 ≤ 600000) (hsl : sl + 143 ≤ 7302250) (kk : ∀ h' n', gd_SX h' s.heap.size n' → gd_LU p l e s m below meth c b E 1372 [some (.ref b), some (.ref s.heap.size), some (.ref (s.heap.size + 22)), some (.int (nI i))] [] h' n' (ce + 16) (sl + 143)) : gd_LU p l e s m below meth c b E 583 [some (.ref b), some (.ref s.heap.size), some (.ref (s.heap.size + 22)), some (.int (nI i))] [] h n ce sl := by
  obtain ⟨fx, hx⟩ := gd_SX_x hS
  obtain ⟨PX, CX, stp⟩ := st_pair (E := E) (l := l) hS (xs (i + 1)) (xs (i + 2))
  refine gd_lald S (pj_d pL_pair 0 rfl) (q := 584) rfl rfl ?_
  refine gd_larg (q := 589) S hX hbl hL4 (k := 1) (pj_d pL_pair 1 rfl) (pj_d pL_pair 2 rfl) (pj_d pL_pair 3 rfl) (pj_d pL_pair 4 rfl) (pj_d pL_pair 5 rfl) rfl (by decide) (by omega) ?_
  refine gd_larg (q := 594) S hX hbl hL4 (k := 2) (pj_d pL_pair 6 rfl) (pj_d pL_pair 7 rfl) (pj_d pL_pair 8 rfl) (pj_d pL_pair 9 rfl) (pj_d pL_pair 10 rfl) rfl (by decide) (by omega) ?_
  refine gd_lV S hW CX (pj_d pL_pair 11 rfl) (q := 597) rfl kL_70 o_X11_pair hx rfl rfl (by rfl) (by rfl) (Nat.le_of_ble_eq_true rfl) (by decide) (by omega) (by omega) ?_
  rintro r h' n' hPX
  obtain ⟨⟨v, e0⟩, ⟨fm, hm⟩, PM, CM, stp2⟩ := stp r h' n' hPX
  subst e0
  refine gd_lald S (pj_d pL_pair 12 rfl) (q := 598) rfl rfl ?_
  refine gd_larg (q := 603) S hX hbl hL4 (k := 1) (pj_d pL_pair 13 rfl) (pj_d pL_pair 14 rfl) (pj_d pL_pair 15 rfl) (pj_d pL_pair 16 rfl) (pj_d pL_pair 17 rfl) rfl (by decide) (by omega) ?_
  refine gd_larg (q := 608) S hX hbl hL4 (k := 2) (pj_d pL_pair 18 rfl) (pj_d pL_pair 19 rfl) (pj_d pL_pair 20 rfl) (pj_d pL_pair 21 rfl) (pj_d pL_pair 22 rfl) rfl (by decide) (by omega) ?_
  refine gd_lV S hW CM (pj_d pL_pair 23 rfl) (q := 611) rfl kL_73 o_X12_pair hm rfl rfl (by rfl) (by rfl) (Nat.le_of_ble_eq_true rfl) (by decide) (by omega) (by omega) ?_
  rintro r2 h2 n2 hPM
  obtain ⟨e1, hS2⟩ := stp2 r2 h2 n2 hPM
  subst e1
  refine gd_licmpeq S (pj_d pL_pair 24 rfl) (t := 1372) (by decide) ?_
  exact gd_lwid (by omega) (by omega) (kk h2 n2 hS2)
def PL_look : List (Nat × Instr × Nat) := [(616, .aload_n 1, 1), (617, .aload_n 0, 1), (618, .iload_n 3, 1), (619, .iconst 1, 1), (620, .iadd, 1), (621, .iaload, 1), (622, .aload_n 0, 1), (623, .iload_n 3, 1), (624, .iconst 2, 1), (625, .iadd, 1), (626, .iaload, 1), (627, .invokevirtual 74, 3), (630, .aload_n 2, 1), (631, .aload_n 0, 1), (632, .iload_n 3, 1), (633, .iconst 1, 1), (634, .iadd, 1), (635, .iaload, 1), (636, .aload_n 0, 1), (637, .iload_n 3, 1), (638, .iconst 2, 1), (639, .iadd, 1), (640, .iaload, 1), (641, .invokevirtual 77, 3), (644, .if_icmp .eq 728, 3)]
theorem pL_look : pj_tab code PL_look = true := by decide +kernel
theorem lc_look (S : gd_LS p s m c b) (hX : va_X b L xs s s.heap) (hbl : b < s.heap.size) (hW : pj_WF E s) (hL4 : L ≤ 384) (hi : i + 6 ≤ L) (hS : gd_SX h s.heap.size n) (hce : ce + 16 ≤ 600000) (hsl : sl + 143 ≤ 7302250) (kk : ∀ h' n', gd_SX h' s.heap.size n' → gd_LU p l e s m below meth c b E 1372 [some (.ref b), some (.ref s.heap.size), some (.ref (s.heap.size + 22)), some (.int (nI i))] [] h' n' (ce + 16) (sl + 143)) : gd_LU p l e s m below meth c b E 616 [some (.ref b), some (.ref s.heap.size), some (.ref (s.heap.size + 22)), some (.int (nI i))] [] h n ce sl := by
  obtain ⟨fx, hx⟩ := gd_SX_x hS
  obtain ⟨PX, CX, stp⟩ := st_look (E := E) (l := l) hS (xs (i + 1)) (xs (i + 2))
  refine gd_lald S (pj_d pL_look 0 rfl) (q := 617) rfl rfl ?_
  refine gd_larg (q := 622) S hX hbl hL4 (k := 1) (pj_d pL_look 1 rfl) (pj_d pL_look 2 rfl) (pj_d pL_look 3 rfl) (pj_d pL_look 4 rfl) (pj_d pL_look 5 rfl) rfl (by decide) (by omega) ?_
  refine gd_larg (q := 627) S hX hbl hL4 (k := 2) (pj_d pL_look 6 rfl) (pj_d pL_look 7 rfl) (pj_d pL_look 8 rfl) (pj_d pL_look 9 rfl) (pj_d pL_look 10 rfl) rfl (by decide) (by omega) ?_
  refine gd_lV S hW CX (pj_d pL_look 11 rfl) (q := 630) rfl kL_74 o_X11_look hx rfl rfl (by rfl) (by rfl) (Nat.le_of_ble_eq_true rfl) (by decide) (by omega) (by omega) ?_
  rintro r h' n' hPX
  obtain ⟨⟨v, e0⟩, ⟨fm, hm⟩, PM, CM, stp2⟩ := stp r h' n' hPX
  subst e0
  refine gd_lald S (pj_d pL_look 12 rfl) (q := 631) rfl rfl ?_
  refine gd_larg (q := 636) S hX hbl hL4 (k := 1) (pj_d pL_look 13 rfl) (pj_d pL_look 14 rfl) (pj_d pL_look 15 rfl) (pj_d pL_look 16 rfl) (pj_d pL_look 17 rfl) rfl (by decide) (by omega) ?_
  refine gd_larg (q := 641) S hX hbl hL4 (k := 2) (pj_d pL_look 18 rfl) (pj_d pL_look 19 rfl) (pj_d pL_look 20 rfl) (pj_d pL_look 21 rfl) (pj_d pL_look 22 rfl) rfl (by decide) (by omega) ?_
  refine gd_lV S hW CM (pj_d pL_look 23 rfl) (q := 644) rfl kL_77 o_X12_look hm rfl rfl (by rfl) (by rfl) (Nat.le_of_ble_eq_true rfl) (by decide) (by omega) (by omega) ?_
  rintro r2 h2 n2 hPM
  obtain ⟨e1, hS2⟩ := stp2 r2 h2 n2 hPM
  subst e1
  refine gd_licmpeq S (pj_d pL_look 24 rfl) (t := 1372) (by decide) ?_
  exact gd_lwid (by omega) (by omega) (kk h2 n2 hS2)
def PL_alike : List (Nat × Instr × Nat) := [(649, .aload_n 1, 1), (650, .aload_n 0, 1), (651, .iload_n 3, 1), (652, .iconst 1, 1), (653, .iadd, 1), (654, .iaload, 1), (655, .aload_n 0, 1), (656, .iload_n 3, 1), (657, .iconst 2, 1), (658, .iadd, 1), (659, .iaload, 1), (660, .aload_n 0, 1), (661, .iload_n 3, 1), (662, .iconst 3, 1), (663, .iadd, 1), (664, .iaload, 1), (665, .invokevirtual 78, 3), (668, .aload_n 2, 1), (669, .aload_n 0, 1), (670, .iload_n 3, 1), (671, .iconst 1, 1), (672, .iadd, 1), (673, .iaload, 1), (674, .aload_n 0, 1), (675, .iload_n 3, 1), (676, .iconst 2, 1), (677, .iadd, 1), (678, .iaload, 1), (679, .aload_n 0, 1), (680, .iload_n 3, 1), (681, .iconst 3, 1), (682, .iadd, 1), (683, .iaload, 1), (684, .invokevirtual 81, 3), (687, .if_icmp .eq 685, 3)]
theorem pL_alike : pj_tab code PL_alike = true := by decide +kernel
theorem lc_alike (S : gd_LS p s m c b) (hX : va_X b L xs s s.heap) (hbl : b < s.heap.size) (hW : pj_WF E s) (hL4 : L ≤ 384) (hi : i + 6 ≤ L) (hS : gd_SX h s.heap.size n) (hce : ce + 16 ≤ 600000) (hsl : sl + 143 ≤ 7302250) (kk : ∀ h' n', gd_SX h' s.heap.size n' → gd_LU p l e s m below meth c b E 1372 [some (.ref b), some (.ref s.heap.size), some (.ref (s.heap.size + 22)), some (.int (nI i))] [] h' n' (ce + 16) (sl + 143)) : gd_LU p l e s m below meth c b E 649 [some (.ref b), some (.ref s.heap.size), some (.ref (s.heap.size + 22)), some (.int (nI i))] [] h n ce sl := by
  obtain ⟨fx, hx⟩ := gd_SX_x hS
  obtain ⟨PX, CX, stp⟩ := st_alike (E := E) (l := l) hS (xs (i + 1)) (xs (i + 2)) (xs (i + 3))
  refine gd_lald S (pj_d pL_alike 0 rfl) (q := 650) rfl rfl ?_
  refine gd_larg (q := 655) S hX hbl hL4 (k := 1) (pj_d pL_alike 1 rfl) (pj_d pL_alike 2 rfl) (pj_d pL_alike 3 rfl) (pj_d pL_alike 4 rfl) (pj_d pL_alike 5 rfl) rfl (by decide) (by omega) ?_
  refine gd_larg (q := 660) S hX hbl hL4 (k := 2) (pj_d pL_alike 6 rfl) (pj_d pL_alike 7 rfl) (pj_d pL_alike 8 rfl) (pj_d pL_alike 9 rfl) (pj_d pL_alike 10 rfl) rfl (by decide) (by omega) ?_
  refine gd_larg (q := 665) S hX hbl hL4 (k := 3) (pj_d pL_alike 11 rfl) (pj_d pL_alike 12 rfl) (pj_d pL_alike 13 rfl) (pj_d pL_alike 14 rfl) (pj_d pL_alike 15 rfl) rfl (by decide) (by omega) ?_
  refine gd_lV S hW CX (pj_d pL_alike 16 rfl) (q := 668) rfl kL_78 o_X11_alike hx rfl rfl (by rfl) (by rfl) (Nat.le_of_ble_eq_true rfl) (by decide) (by omega) (by omega) ?_
  rintro r h' n' hPX
  obtain ⟨⟨v, e0⟩, ⟨fm, hm⟩, PM, CM, stp2⟩ := stp r h' n' hPX
  subst e0
  refine gd_lald S (pj_d pL_alike 17 rfl) (q := 669) rfl rfl ?_
  refine gd_larg (q := 674) S hX hbl hL4 (k := 1) (pj_d pL_alike 18 rfl) (pj_d pL_alike 19 rfl) (pj_d pL_alike 20 rfl) (pj_d pL_alike 21 rfl) (pj_d pL_alike 22 rfl) rfl (by decide) (by omega) ?_
  refine gd_larg (q := 679) S hX hbl hL4 (k := 2) (pj_d pL_alike 23 rfl) (pj_d pL_alike 24 rfl) (pj_d pL_alike 25 rfl) (pj_d pL_alike 26 rfl) (pj_d pL_alike 27 rfl) rfl (by decide) (by omega) ?_
  refine gd_larg (q := 684) S hX hbl hL4 (k := 3) (pj_d pL_alike 28 rfl) (pj_d pL_alike 29 rfl) (pj_d pL_alike 30 rfl) (pj_d pL_alike 31 rfl) (pj_d pL_alike 32 rfl) rfl (by decide) (by omega) ?_
  refine gd_lV S hW CM (pj_d pL_alike 33 rfl) (q := 687) rfl kL_81 o_X12_alike hm rfl rfl (by rfl) (by rfl) (Nat.le_of_ble_eq_true rfl) (by decide) (by omega) (by omega) ?_
  rintro r2 h2 n2 hPM
  obtain ⟨e1, hS2⟩ := stp2 r2 h2 n2 hPM
  subst e1
  refine gd_licmpeq S (pj_d pL_alike 34 rfl) (t := 1372) (by decide) ?_
  exact gd_lwid (by omega) (by omega) (kk h2 n2 hS2)
def PL_like : List (Nat × Instr × Nat) := [(692, .aload_n 1, 1), (693, .aload_n 0, 1), (694, .iload_n 3, 1), (695, .iconst 1, 1), (696, .iadd, 1), (697, .iaload, 1), (698, .aload_n 0, 1), (699, .iload_n 3, 1), (700, .iconst 2, 1), (701, .iadd, 1), (702, .iaload, 1), (703, .invokevirtual 82, 3), (706, .aload_n 2, 1), (707, .aload_n 0, 1), (708, .iload_n 3, 1), (709, .iconst 1, 1), (710, .iadd, 1), (711, .iaload, 1), (712, .aload_n 0, 1), (713, .iload_n 3, 1), (714, .iconst 2, 1), (715, .iadd, 1), (716, .iaload, 1), (717, .invokevirtual 85, 3), (720, .if_icmp .eq 652, 3)]
theorem pL_like : pj_tab code PL_like = true := by decide +kernel
theorem lc_like (S : gd_LS p s m c b) (hX : va_X b L xs s s.heap) (hbl : b < s.heap.size) (hW : pj_WF E s) (hL4 : L ≤ 384) (hi : i + 6 ≤ L) (hS : gd_SX h s.heap.size n) (hce : ce + 16 ≤ 600000) (hsl : sl + 143 ≤ 7302250) (kk : ∀ h' n', gd_SX h' s.heap.size n' → gd_LU p l e s m below meth c b E 1372 [some (.ref b), some (.ref s.heap.size), some (.ref (s.heap.size + 22)), some (.int (nI i))] [] h' n' (ce + 16) (sl + 143)) : gd_LU p l e s m below meth c b E 692 [some (.ref b), some (.ref s.heap.size), some (.ref (s.heap.size + 22)), some (.int (nI i))] [] h n ce sl := by
  obtain ⟨fx, hx⟩ := gd_SX_x hS
  obtain ⟨PX, CX, stp⟩ := st_like (E := E) (l := l) hS (xs (i + 1)) (xs (i + 2))
  refine gd_lald S (pj_d pL_like 0 rfl) (q := 693) rfl rfl ?_
  refine gd_larg (q := 698) S hX hbl hL4 (k := 1) (pj_d pL_like 1 rfl) (pj_d pL_like 2 rfl) (pj_d pL_like 3 rfl) (pj_d pL_like 4 rfl) (pj_d pL_like 5 rfl) rfl (by decide) (by omega) ?_
  refine gd_larg (q := 703) S hX hbl hL4 (k := 2) (pj_d pL_like 6 rfl) (pj_d pL_like 7 rfl) (pj_d pL_like 8 rfl) (pj_d pL_like 9 rfl) (pj_d pL_like 10 rfl) rfl (by decide) (by omega) ?_
  refine gd_lV S hW CX (pj_d pL_like 11 rfl) (q := 706) rfl kL_82 o_X11_like hx rfl rfl (by rfl) (by rfl) (Nat.le_of_ble_eq_true rfl) (by decide) (by omega) (by omega) ?_
  rintro r h' n' hPX
  obtain ⟨⟨v, e0⟩, ⟨fm, hm⟩, PM, CM, stp2⟩ := stp r h' n' hPX
  subst e0
  refine gd_lald S (pj_d pL_like 12 rfl) (q := 707) rfl rfl ?_
  refine gd_larg (q := 712) S hX hbl hL4 (k := 1) (pj_d pL_like 13 rfl) (pj_d pL_like 14 rfl) (pj_d pL_like 15 rfl) (pj_d pL_like 16 rfl) (pj_d pL_like 17 rfl) rfl (by decide) (by omega) ?_
  refine gd_larg (q := 717) S hX hbl hL4 (k := 2) (pj_d pL_like 18 rfl) (pj_d pL_like 19 rfl) (pj_d pL_like 20 rfl) (pj_d pL_like 21 rfl) (pj_d pL_like 22 rfl) rfl (by decide) (by omega) ?_
  refine gd_lV S hW CM (pj_d pL_like 23 rfl) (q := 720) rfl kL_85 o_X12_like hm rfl rfl (by rfl) (by rfl) (Nat.le_of_ble_eq_true rfl) (by decide) (by omega) (by omega) ?_
  rintro r2 h2 n2 hPM
  obtain ⟨e1, hS2⟩ := stp2 r2 h2 n2 hPM
  subst e1
  refine gd_licmpeq S (pj_d pL_like 24 rfl) (t := 1372) (by decide) ?_
  exact gd_lwid (by omega) (by omega) (kk h2 n2 hS2)
def PL_looks : List (Nat × Instr × Nat) := [(725, .aload_n 1, 1), (726, .aload_n 0, 1), (727, .iload_n 3, 1), (728, .iconst 1, 1), (729, .iadd, 1), (730, .iaload, 1), (731, .invokevirtual 86, 3), (734, .aload_n 2, 1), (735, .aload_n 0, 1), (736, .iload_n 3, 1), (737, .iconst 1, 1), (738, .iadd, 1), (739, .iaload, 1), (740, .invokevirtual 89, 3), (743, .if_icmp .eq 629, 3)]
theorem pL_looks : pj_tab code PL_looks = true := by decide +kernel
theorem lc_looks (S : gd_LS p s m c b) (hX : va_X b L xs s s.heap) (hbl : b < s.heap.size) (hW : pj_WF E s) (hL4 : L ≤ 384) (hi : i + 6 ≤ L) (hS : gd_SX h s.heap.size n) (hce : ce + 16 ≤ 600000) (hsl : sl + 143 ≤ 7302250) (kk : ∀ h' n', gd_SX h' s.heap.size n' → gd_LU p l e s m below meth c b E 1372 [some (.ref b), some (.ref s.heap.size), some (.ref (s.heap.size + 22)), some (.int (nI i))] [] h' n' (ce + 16) (sl + 143)) : gd_LU p l e s m below meth c b E 725 [some (.ref b), some (.ref s.heap.size), some (.ref (s.heap.size + 22)), some (.int (nI i))] [] h n ce sl := by
  obtain ⟨fx, hx⟩ := gd_SX_x hS
  obtain ⟨PX, CX, stp⟩ := st_looks (E := E) (l := l) hS (xs (i + 1))
  refine gd_lald S (pj_d pL_looks 0 rfl) (q := 726) rfl rfl ?_
  refine gd_larg (q := 731) S hX hbl hL4 (k := 1) (pj_d pL_looks 1 rfl) (pj_d pL_looks 2 rfl) (pj_d pL_looks 3 rfl) (pj_d pL_looks 4 rfl) (pj_d pL_looks 5 rfl) rfl (by decide) (by omega) ?_
  refine gd_lV S hW CX (pj_d pL_looks 6 rfl) (q := 734) rfl kL_86 o_X11_looks hx rfl rfl (by rfl) (by rfl) (Nat.le_of_ble_eq_true rfl) (by decide) (by omega) (by omega) ?_
  rintro r h' n' hPX
  obtain ⟨⟨v, e0⟩, ⟨fm, hm⟩, PM, CM, stp2⟩ := stp r h' n' hPX
  subst e0
  refine gd_lald S (pj_d pL_looks 7 rfl) (q := 735) rfl rfl ?_
  refine gd_larg (q := 740) S hX hbl hL4 (k := 1) (pj_d pL_looks 8 rfl) (pj_d pL_looks 9 rfl) (pj_d pL_looks 10 rfl) (pj_d pL_looks 11 rfl) (pj_d pL_looks 12 rfl) rfl (by decide) (by omega) ?_
  refine gd_lV S hW CM (pj_d pL_looks 13 rfl) (q := 743) rfl kL_89 o_X12_looks hm rfl rfl (by rfl) (by rfl) (Nat.le_of_ble_eq_true rfl) (by decide) (by omega) (by omega) ?_
  rintro r2 h2 n2 hPM
  obtain ⟨e1, hS2⟩ := stp2 r2 h2 n2 hPM
  subst e1
  refine gd_licmpeq S (pj_d pL_looks 14 rfl) (t := 1372) (by decide) ?_
  exact gd_lwid (by omega) (by omega) (kk h2 n2 hS2)
def PL_harm : List (Nat × Instr × Nat) := [(748, .aload_n 1, 1), (749, .aload_n 0, 1), (750, .iload_n 3, 1), (751, .iconst 1, 1), (752, .iadd, 1), (753, .iaload, 1), (754, .invokevirtual 90, 3), (757, .aload_n 2, 1), (758, .aload_n 0, 1), (759, .iload_n 3, 1), (760, .iconst 1, 1), (761, .iadd, 1), (762, .iaload, 1), (763, .invokevirtual 93, 3), (766, .if_icmp .eq 606, 3)]
theorem pL_harm : pj_tab code PL_harm = true := by decide +kernel
theorem lc_harm (S : gd_LS p s m c b) (hX : va_X b L xs s s.heap) (hbl : b < s.heap.size) (hW : pj_WF E s) (hL4 : L ≤ 384) (hi : i + 6 ≤ L) (hS : gd_SX h s.heap.size n) (hce : ce + 16 ≤ 600000) (hsl : sl + 143 ≤ 7302250) (kk : ∀ h' n', gd_SX h' s.heap.size n' → gd_LU p l e s m below meth c b E 1372 [some (.ref b), some (.ref s.heap.size), some (.ref (s.heap.size + 22)), some (.int (nI i))] [] h' n' (ce + 16) (sl + 143)) : gd_LU p l e s m below meth c b E 748 [some (.ref b), some (.ref s.heap.size), some (.ref (s.heap.size + 22)), some (.int (nI i))] [] h n ce sl := by
  obtain ⟨fx, hx⟩ := gd_SX_x hS
  obtain ⟨PX, CX, stp⟩ := st_harm (E := E) (l := l) hS (xs (i + 1))
  refine gd_lald S (pj_d pL_harm 0 rfl) (q := 749) rfl rfl ?_
  refine gd_larg (q := 754) S hX hbl hL4 (k := 1) (pj_d pL_harm 1 rfl) (pj_d pL_harm 2 rfl) (pj_d pL_harm 3 rfl) (pj_d pL_harm 4 rfl) (pj_d pL_harm 5 rfl) rfl (by decide) (by omega) ?_
  refine gd_lV S hW CX (pj_d pL_harm 6 rfl) (q := 757) rfl kL_90 o_X11_harm hx rfl rfl (by rfl) (by rfl) (Nat.le_of_ble_eq_true rfl) (by decide) (by omega) (by omega) ?_
  rintro r h' n' hPX
  obtain ⟨⟨v, e0⟩, ⟨fm, hm⟩, PM, CM, stp2⟩ := stp r h' n' hPX
  subst e0
  refine gd_lald S (pj_d pL_harm 7 rfl) (q := 758) rfl rfl ?_
  refine gd_larg (q := 763) S hX hbl hL4 (k := 1) (pj_d pL_harm 8 rfl) (pj_d pL_harm 9 rfl) (pj_d pL_harm 10 rfl) (pj_d pL_harm 11 rfl) (pj_d pL_harm 12 rfl) rfl (by decide) (by omega) ?_
  refine gd_lV S hW CM (pj_d pL_harm 13 rfl) (q := 766) rfl kL_93 o_X12_harm hm rfl rfl (by rfl) (by rfl) (Nat.le_of_ble_eq_true rfl) (by decide) (by omega) (by omega) ?_
  rintro r2 h2 n2 hPM
  obtain ⟨e1, hS2⟩ := stp2 r2 h2 n2 hPM
  subst e1
  refine gd_licmpeq S (pj_d pL_harm 14 rfl) (t := 1372) (by decide) ?_
  exact gd_lwid (by omega) (by omega) (kk h2 n2 hS2)
def PL_harms : List (Nat × Instr × Nat) := [(771, .aload_n 1, 1), (772, .aload_n 0, 1), (773, .iload_n 3, 1), (774, .iconst 1, 1), (775, .iadd, 1), (776, .iaload, 1), (777, .invokevirtual 94, 3), (780, .aload_n 2, 1), (781, .aload_n 0, 1), (782, .iload_n 3, 1), (783, .iconst 1, 1), (784, .iadd, 1), (785, .iaload, 1), (786, .invokevirtual 97, 3), (789, .if_icmp .eq 583, 3)]
theorem pL_harms : pj_tab code PL_harms = true := by decide +kernel
theorem lc_harms (S : gd_LS p s m c b) (hX : va_X b L xs s s.heap) (hbl : b < s.heap.size) (hW : pj_WF E s) (hL4 : L ≤ 384) (hi : i + 6 ≤ L) (hS : gd_SX h s.heap.size n) (hce : ce + 16 ≤ 600000) (hsl : sl + 143 ≤ 7302250) (kk : ∀ h' n', gd_SX h' s.heap.size n' → gd_LU p l e s m below meth c b E 1372 [some (.ref b), some (.ref s.heap.size), some (.ref (s.heap.size + 22)), some (.int (nI i))] [] h' n' (ce + 16) (sl + 143)) : gd_LU p l e s m below meth c b E 771 [some (.ref b), some (.ref s.heap.size), some (.ref (s.heap.size + 22)), some (.int (nI i))] [] h n ce sl := by
  obtain ⟨fx, hx⟩ := gd_SX_x hS
  obtain ⟨PX, CX, stp⟩ := st_harms (E := E) (l := l) hS (xs (i + 1))
  refine gd_lald S (pj_d pL_harms 0 rfl) (q := 772) rfl rfl ?_
  refine gd_larg (q := 777) S hX hbl hL4 (k := 1) (pj_d pL_harms 1 rfl) (pj_d pL_harms 2 rfl) (pj_d pL_harms 3 rfl) (pj_d pL_harms 4 rfl) (pj_d pL_harms 5 rfl) rfl (by decide) (by omega) ?_
  refine gd_lV S hW CX (pj_d pL_harms 6 rfl) (q := 780) rfl kL_94 o_X11_harms hx rfl rfl (by rfl) (by rfl) (Nat.le_of_ble_eq_true rfl) (by decide) (by omega) (by omega) ?_
  rintro r h' n' hPX
  obtain ⟨⟨v, e0⟩, ⟨fm, hm⟩, PM, CM, stp2⟩ := stp r h' n' hPX
  subst e0
  refine gd_lald S (pj_d pL_harms 7 rfl) (q := 781) rfl rfl ?_
  refine gd_larg (q := 786) S hX hbl hL4 (k := 1) (pj_d pL_harms 8 rfl) (pj_d pL_harms 9 rfl) (pj_d pL_harms 10 rfl) (pj_d pL_harms 11 rfl) (pj_d pL_harms 12 rfl) rfl (by decide) (by omega) ?_
  refine gd_lV S hW CM (pj_d pL_harms 13 rfl) (q := 789) rfl kL_97 o_X12_harms hm rfl rfl (by rfl) (by rfl) (Nat.le_of_ble_eq_true rfl) (by decide) (by omega) (by omega) ?_
  rintro r2 h2 n2 hPM
  obtain ⟨e1, hS2⟩ := stp2 r2 h2 n2 hPM
  subst e1
  refine gd_licmpeq S (pj_d pL_harms 14 rfl) (t := 1372) (by decide) ?_
  exact gd_lwid (by omega) (by omega) (kk h2 n2 hS2)
def PL_week : List (Nat × Instr × Nat) := [(794, .aload_n 1, 1), (795, .aload_n 0, 1), (796, .iload_n 3, 1), (797, .iconst 1, 1), (798, .iadd, 1), (799, .iaload, 1), (800, .invokevirtual 98, 3), (803, .aload_n 2, 1), (804, .aload_n 0, 1), (805, .iload_n 3, 1), (806, .iconst 1, 1), (807, .iadd, 1), (808, .iaload, 1), (809, .invokevirtual 101, 3), (812, .if_icmp .eq 560, 3)]
theorem pL_week : pj_tab code PL_week = true := by decide +kernel
theorem lc_week (S : gd_LS p s m c b) (hX : va_X b L xs s s.heap) (hbl : b < s.heap.size) (hW : pj_WF E s) (hL4 : L ≤ 384) (hi : i + 6 ≤ L) (hS : gd_SX h s.heap.size n) (hce : ce + 16 ≤ 600000) (hsl : sl + 143 ≤ 7302250) (kk : ∀ h' n', gd_SX h' s.heap.size n' → gd_LU p l e s m below meth c b E 1372 [some (.ref b), some (.ref s.heap.size), some (.ref (s.heap.size + 22)), some (.int (nI i))] [] h' n' (ce + 16) (sl + 143)) : gd_LU p l e s m below meth c b E 794 [some (.ref b), some (.ref s.heap.size), some (.ref (s.heap.size + 22)), some (.int (nI i))] [] h n ce sl := by
  obtain ⟨fx, hx⟩ := gd_SX_x hS
  obtain ⟨PX, CX, stp⟩ := st_week (E := E) (l := l) hS (xs (i + 1))
  refine gd_lald S (pj_d pL_week 0 rfl) (q := 795) rfl rfl ?_
  refine gd_larg (q := 800) S hX hbl hL4 (k := 1) (pj_d pL_week 1 rfl) (pj_d pL_week 2 rfl) (pj_d pL_week 3 rfl) (pj_d pL_week 4 rfl) (pj_d pL_week 5 rfl) rfl (by decide) (by omega) ?_
  refine gd_lV S hW CX (pj_d pL_week 6 rfl) (q := 803) rfl kL_98 o_X11_week hx rfl rfl (by rfl) (by rfl) (Nat.le_of_ble_eq_true rfl) (by decide) (by omega) (by omega) ?_
  rintro r h' n' hPX
  obtain ⟨⟨v, e0⟩, ⟨fm, hm⟩, PM, CM, stp2⟩ := stp r h' n' hPX
  subst e0
  refine gd_lald S (pj_d pL_week 7 rfl) (q := 804) rfl rfl ?_
  refine gd_larg (q := 809) S hX hbl hL4 (k := 1) (pj_d pL_week 8 rfl) (pj_d pL_week 9 rfl) (pj_d pL_week 10 rfl) (pj_d pL_week 11 rfl) (pj_d pL_week 12 rfl) rfl (by decide) (by omega) ?_
  refine gd_lV S hW CM (pj_d pL_week 13 rfl) (q := 812) rfl kL_101 o_X12_week hm rfl rfl (by rfl) (by rfl) (Nat.le_of_ble_eq_true rfl) (by decide) (by omega) (by omega) ?_
  rintro r2 h2 n2 hPM
  obtain ⟨e1, hS2⟩ := stp2 r2 h2 n2 hPM
  subst e1
  refine gd_licmpeq S (pj_d pL_week 14 rfl) (t := 1372) (by decide) ?_
  exact gd_lwid (by omega) (by omega) (kk h2 n2 hS2)
def PL_bestPaint : List (Nat × Instr × Nat) := [(817, .aload_n 1, 1), (818, .aload_n 0, 1), (819, .iload_n 3, 1), (820, .iconst 1, 1), (821, .iadd, 1), (822, .iaload, 1), (823, .invokevirtual 102, 3), (826, .aload_n 2, 1), (827, .aload_n 0, 1), (828, .iload_n 3, 1), (829, .iconst 1, 1), (830, .iadd, 1), (831, .iaload, 1), (832, .invokevirtual 105, 3), (835, .if_icmp .eq 537, 3)]
theorem pL_bestPaint : pj_tab code PL_bestPaint = true := by decide +kernel
theorem lc_bestPaint (S : gd_LS p s m c b) (hX : va_X b L xs s s.heap) (hbl : b < s.heap.size) (hW : pj_WF E s) (hL4 : L ≤ 384) (hi : i + 6 ≤ L) (hS : gd_SX h s.heap.size n) (hce : ce + 16 ≤ 600000) (hsl : sl + 143 ≤ 7302250) (kk : ∀ h' n', gd_SX h' s.heap.size n' → gd_LU p l e s m below meth c b E 1372 [some (.ref b), some (.ref s.heap.size), some (.ref (s.heap.size + 22)), some (.int (nI i))] [] h' n' (ce + 16) (sl + 143)) : gd_LU p l e s m below meth c b E 817 [some (.ref b), some (.ref s.heap.size), some (.ref (s.heap.size + 22)), some (.int (nI i))] [] h n ce sl := by
  obtain ⟨fx, hx⟩ := gd_SX_x hS
  obtain ⟨PX, CX, stp⟩ := st_bestPaint (E := E) (l := l) hS (xs (i + 1))
  refine gd_lald S (pj_d pL_bestPaint 0 rfl) (q := 818) rfl rfl ?_
  refine gd_larg (q := 823) S hX hbl hL4 (k := 1) (pj_d pL_bestPaint 1 rfl) (pj_d pL_bestPaint 2 rfl) (pj_d pL_bestPaint 3 rfl) (pj_d pL_bestPaint 4 rfl) (pj_d pL_bestPaint 5 rfl) rfl (by decide) (by omega) ?_
  refine gd_lV S hW CX (pj_d pL_bestPaint 6 rfl) (q := 826) rfl kL_102 o_X11_bestPaint hx rfl rfl (by rfl) (by rfl) (Nat.le_of_ble_eq_true rfl) (by decide) (by omega) (by omega) ?_
  rintro r h' n' hPX
  obtain ⟨⟨v, e0⟩, ⟨fm, hm⟩, PM, CM, stp2⟩ := stp r h' n' hPX
  subst e0
  refine gd_lald S (pj_d pL_bestPaint 7 rfl) (q := 827) rfl rfl ?_
  refine gd_larg (q := 832) S hX hbl hL4 (k := 1) (pj_d pL_bestPaint 8 rfl) (pj_d pL_bestPaint 9 rfl) (pj_d pL_bestPaint 10 rfl) (pj_d pL_bestPaint 11 rfl) (pj_d pL_bestPaint 12 rfl) rfl (by decide) (by omega) ?_
  refine gd_lV S hW CM (pj_d pL_bestPaint 13 rfl) (q := 835) rfl kL_105 o_X12_bestPaint hm rfl rfl (by rfl) (by rfl) (Nat.le_of_ble_eq_true rfl) (by decide) (by omega) (by omega) ?_
  rintro r2 h2 n2 hPM
  obtain ⟨e1, hS2⟩ := stp2 r2 h2 n2 hPM
  subst e1
  refine gd_licmpeq S (pj_d pL_bestPaint 14 rfl) (t := 1372) (by decide) ?_
  exact gd_lwid (by omega) (by omega) (kk h2 n2 hS2)
def PL_dyes : List (Nat × Instr × Nat) := [(840, .aload_n 1, 1), (841, .aload_n 0, 1), (842, .iload_n 3, 1), (843, .iconst 1, 1), (844, .iadd, 1), (845, .iaload, 1), (846, .aload_n 0, 1), (847, .iload_n 3, 1), (848, .iconst 2, 1), (849, .iadd, 1), (850, .iaload, 1), (851, .invokevirtual 106, 3), (854, .aload_n 2, 1), (855, .aload_n 0, 1), (856, .iload_n 3, 1), (857, .iconst 1, 1), (858, .iadd, 1), (859, .iaload, 1), (860, .aload_n 0, 1), (861, .iload_n 3, 1), (862, .iconst 2, 1), (863, .iadd, 1), (864, .iaload, 1), (865, .invokevirtual 109, 3), (868, .if_icmp .eq 504, 3)]
theorem pL_dyes : pj_tab code PL_dyes = true := by decide +kernel
theorem lc_dyes (S : gd_LS p s m c b) (hX : va_X b L xs s s.heap) (hbl : b < s.heap.size) (hW : pj_WF E s) (hL4 : L ≤ 384) (hi : i + 6 ≤ L) (hS : gd_SX h s.heap.size n) (hce : ce + 16 ≤ 600000) (hsl : sl + 143 ≤ 7302250) (kk : ∀ h' n', gd_SX h' s.heap.size n' → gd_LU p l e s m below meth c b E 1372 [some (.ref b), some (.ref s.heap.size), some (.ref (s.heap.size + 22)), some (.int (nI i))] [] h' n' (ce + 16) (sl + 143)) : gd_LU p l e s m below meth c b E 840 [some (.ref b), some (.ref s.heap.size), some (.ref (s.heap.size + 22)), some (.int (nI i))] [] h n ce sl := by
  obtain ⟨fx, hx⟩ := gd_SX_x hS
  obtain ⟨PX, CX, stp⟩ := st_dyes (E := E) (l := l) hS (xs (i + 1)) (xs (i + 2))
  refine gd_lald S (pj_d pL_dyes 0 rfl) (q := 841) rfl rfl ?_
  refine gd_larg (q := 846) S hX hbl hL4 (k := 1) (pj_d pL_dyes 1 rfl) (pj_d pL_dyes 2 rfl) (pj_d pL_dyes 3 rfl) (pj_d pL_dyes 4 rfl) (pj_d pL_dyes 5 rfl) rfl (by decide) (by omega) ?_
  refine gd_larg (q := 851) S hX hbl hL4 (k := 2) (pj_d pL_dyes 6 rfl) (pj_d pL_dyes 7 rfl) (pj_d pL_dyes 8 rfl) (pj_d pL_dyes 9 rfl) (pj_d pL_dyes 10 rfl) rfl (by decide) (by omega) ?_
  refine gd_lV S hW CX (pj_d pL_dyes 11 rfl) (q := 854) rfl kL_106 o_X11_dyes hx rfl rfl (by rfl) (by rfl) (Nat.le_of_ble_eq_true rfl) (by decide) (by omega) (by omega) ?_
  rintro r h' n' hPX
  obtain ⟨⟨v, e0⟩, ⟨fm, hm⟩, PM, CM, stp2⟩ := stp r h' n' hPX
  subst e0
  refine gd_lald S (pj_d pL_dyes 12 rfl) (q := 855) rfl rfl ?_
  refine gd_larg (q := 860) S hX hbl hL4 (k := 1) (pj_d pL_dyes 13 rfl) (pj_d pL_dyes 14 rfl) (pj_d pL_dyes 15 rfl) (pj_d pL_dyes 16 rfl) (pj_d pL_dyes 17 rfl) rfl (by decide) (by omega) ?_
  refine gd_larg (q := 865) S hX hbl hL4 (k := 2) (pj_d pL_dyes 18 rfl) (pj_d pL_dyes 19 rfl) (pj_d pL_dyes 20 rfl) (pj_d pL_dyes 21 rfl) (pj_d pL_dyes 22 rfl) rfl (by decide) (by omega) ?_
  refine gd_lV S hW CM (pj_d pL_dyes 23 rfl) (q := 868) rfl kL_109 o_X12_dyes hm rfl rfl (by rfl) (by rfl) (Nat.le_of_ble_eq_true rfl) (by decide) (by omega) (by omega) ?_
  rintro r2 h2 n2 hPM
  obtain ⟨e1, hS2⟩ := stp2 r2 h2 n2 hPM
  subst e1
  refine gd_licmpeq S (pj_d pL_dyes 24 rfl) (t := 1372) (by decide) ?_
  exact gd_lwid (by omega) (by omega) (kk h2 n2 hS2)
def PL_thief : List (Nat × Instr × Nat) := [(873, .aload_n 1, 1), (874, .aload_n 0, 1), (875, .iload_n 3, 1), (876, .iconst 1, 1), (877, .iadd, 1), (878, .iaload, 1), (879, .invokevirtual 110, 3), (882, .aload_n 2, 1), (883, .aload_n 0, 1), (884, .iload_n 3, 1), (885, .iconst 1, 1), (886, .iadd, 1), (887, .iaload, 1), (888, .invokevirtual 113, 3), (891, .if_icmp .eq 481, 3)]
theorem pL_thief : pj_tab code PL_thief = true := by decide +kernel
theorem lc_thief (S : gd_LS p s m c b) (hX : va_X b L xs s s.heap) (hbl : b < s.heap.size) (hW : pj_WF E s) (hL4 : L ≤ 384) (hi : i + 6 ≤ L) (hS : gd_SX h s.heap.size n) (hce : ce + 16 ≤ 600000) (hsl : sl + 143 ≤ 7302250) (kk : ∀ h' n', gd_SX h' s.heap.size n' → gd_LU p l e s m below meth c b E 1372 [some (.ref b), some (.ref s.heap.size), some (.ref (s.heap.size + 22)), some (.int (nI i))] [] h' n' (ce + 16) (sl + 143)) : gd_LU p l e s m below meth c b E 873 [some (.ref b), some (.ref s.heap.size), some (.ref (s.heap.size + 22)), some (.int (nI i))] [] h n ce sl := by
  obtain ⟨fx, hx⟩ := gd_SX_x hS
  obtain ⟨PX, CX, stp⟩ := st_thief (E := E) (l := l) hS (xs (i + 1))
  refine gd_lald S (pj_d pL_thief 0 rfl) (q := 874) rfl rfl ?_
  refine gd_larg (q := 879) S hX hbl hL4 (k := 1) (pj_d pL_thief 1 rfl) (pj_d pL_thief 2 rfl) (pj_d pL_thief 3 rfl) (pj_d pL_thief 4 rfl) (pj_d pL_thief 5 rfl) rfl (by decide) (by omega) ?_
  refine gd_lV S hW CX (pj_d pL_thief 6 rfl) (q := 882) rfl kL_110 o_X11_thief hx rfl rfl (by rfl) (by rfl) (Nat.le_of_ble_eq_true rfl) (by decide) (by omega) (by omega) ?_
  rintro r h' n' hPX
  obtain ⟨⟨v, e0⟩, ⟨fm, hm⟩, PM, CM, stp2⟩ := stp r h' n' hPX
  subst e0
  refine gd_lald S (pj_d pL_thief 7 rfl) (q := 883) rfl rfl ?_
  refine gd_larg (q := 888) S hX hbl hL4 (k := 1) (pj_d pL_thief 8 rfl) (pj_d pL_thief 9 rfl) (pj_d pL_thief 10 rfl) (pj_d pL_thief 11 rfl) (pj_d pL_thief 12 rfl) rfl (by decide) (by omega) ?_
  refine gd_lV S hW CM (pj_d pL_thief 13 rfl) (q := 891) rfl kL_113 o_X12_thief hm rfl rfl (by rfl) (by rfl) (Nat.le_of_ble_eq_true rfl) (by decide) (by omega) (by omega) ?_
  rintro r2 h2 n2 hPM
  obtain ⟨e1, hS2⟩ := stp2 r2 h2 n2 hPM
  subst e1
  refine gd_licmpeq S (pj_d pL_thief 14 rfl) (t := 1372) (by decide) ?_
  exact gd_lwid (by omega) (by omega) (kk h2 n2 hS2)
def PL_seen : List (Nat × Instr × Nat) := [(896, .aload_n 1, 1), (897, .aload_n 0, 1), (898, .iload_n 3, 1), (899, .iconst 1, 1), (900, .iadd, 1), (901, .iaload, 1), (902, .aload_n 0, 1), (903, .iload_n 3, 1), (904, .iconst 2, 1), (905, .iadd, 1), (906, .iaload, 1), (907, .invokevirtual 114, 3), (910, .aload_n 2, 1), (911, .aload_n 0, 1), (912, .iload_n 3, 1), (913, .iconst 1, 1), (914, .iadd, 1), (915, .iaload, 1), (916, .aload_n 0, 1), (917, .iload_n 3, 1), (918, .iconst 2, 1), (919, .iadd, 1), (920, .iaload, 1), (921, .invokevirtual 117, 3), (924, .if_icmp .eq 448, 3)]
theorem pL_seen : pj_tab code PL_seen = true := by decide +kernel
theorem lc_seen (S : gd_LS p s m c b) (hX : va_X b L xs s s.heap) (hbl : b < s.heap.size) (hW : pj_WF E s) (hL4 : L ≤ 384) (hi : i + 6 ≤ L) (hS : gd_SX h s.heap.size n) (hce : ce + 16 ≤ 600000) (hsl : sl + 143 ≤ 7302250) (kk : ∀ h' n', gd_SX h' s.heap.size n' → gd_LU p l e s m below meth c b E 1372 [some (.ref b), some (.ref s.heap.size), some (.ref (s.heap.size + 22)), some (.int (nI i))] [] h' n' (ce + 16) (sl + 143)) : gd_LU p l e s m below meth c b E 896 [some (.ref b), some (.ref s.heap.size), some (.ref (s.heap.size + 22)), some (.int (nI i))] [] h n ce sl := by
  obtain ⟨fx, hx⟩ := gd_SX_x hS
  obtain ⟨PX, CX, stp⟩ := st_seen (E := E) (l := l) hS (xs (i + 1)) (xs (i + 2))
  refine gd_lald S (pj_d pL_seen 0 rfl) (q := 897) rfl rfl ?_
  refine gd_larg (q := 902) S hX hbl hL4 (k := 1) (pj_d pL_seen 1 rfl) (pj_d pL_seen 2 rfl) (pj_d pL_seen 3 rfl) (pj_d pL_seen 4 rfl) (pj_d pL_seen 5 rfl) rfl (by decide) (by omega) ?_
  refine gd_larg (q := 907) S hX hbl hL4 (k := 2) (pj_d pL_seen 6 rfl) (pj_d pL_seen 7 rfl) (pj_d pL_seen 8 rfl) (pj_d pL_seen 9 rfl) (pj_d pL_seen 10 rfl) rfl (by decide) (by omega) ?_
  refine gd_lV S hW CX (pj_d pL_seen 11 rfl) (q := 910) rfl kL_114 o_X11_seen hx rfl rfl (by rfl) (by rfl) (Nat.le_of_ble_eq_true rfl) (by decide) (by omega) (by omega) ?_
  rintro r h' n' hPX
  obtain ⟨⟨v, e0⟩, ⟨fm, hm⟩, PM, CM, stp2⟩ := stp r h' n' hPX
  subst e0
  refine gd_lald S (pj_d pL_seen 12 rfl) (q := 911) rfl rfl ?_
  refine gd_larg (q := 916) S hX hbl hL4 (k := 1) (pj_d pL_seen 13 rfl) (pj_d pL_seen 14 rfl) (pj_d pL_seen 15 rfl) (pj_d pL_seen 16 rfl) (pj_d pL_seen 17 rfl) rfl (by decide) (by omega) ?_
  refine gd_larg (q := 921) S hX hbl hL4 (k := 2) (pj_d pL_seen 18 rfl) (pj_d pL_seen 19 rfl) (pj_d pL_seen 20 rfl) (pj_d pL_seen 21 rfl) (pj_d pL_seen 22 rfl) rfl (by decide) (by omega) ?_
  refine gd_lV S hW CM (pj_d pL_seen 23 rfl) (q := 924) rfl kL_117 o_X12_seen hm rfl rfl (by rfl) (by rfl) (Nat.le_of_ble_eq_true rfl) (by decide) (by omega) (by omega) ?_
  rintro r2 h2 n2 hPM
  obtain ⟨e1, hS2⟩ := stp2 r2 h2 n2 hPM
  subst e1
  refine gd_licmpeq S (pj_d pL_seen 24 rfl) (t := 1372) (by decide) ?_
  exact gd_lwid (by omega) (by omega) (kk h2 n2 hS2)
def PL_shelf : List (Nat × Instr × Nat) := [(929, .aload_n 1, 1), (930, .aload_n 0, 1), (931, .iload_n 3, 1), (932, .iconst 1, 1), (933, .iadd, 1), (934, .iaload, 1), (935, .aload_n 0, 1), (936, .iload_n 3, 1), (937, .iconst 2, 1), (938, .iadd, 1), (939, .iaload, 1), (940, .invokevirtual 118, 3), (943, .aload_n 2, 1), (944, .aload_n 0, 1), (945, .iload_n 3, 1), (946, .iconst 1, 1), (947, .iadd, 1), (948, .iaload, 1), (949, .aload_n 0, 1), (950, .iload_n 3, 1), (951, .iconst 2, 1), (952, .iadd, 1), (953, .iaload, 1), (954, .invokevirtual 121, 3), (957, .if_icmp .eq 415, 3)]
theorem pL_shelf : pj_tab code PL_shelf = true := by decide +kernel
theorem lc_shelf (S : gd_LS p s m c b) (hX : va_X b L xs s s.heap) (hbl : b < s.heap.size) (hW : pj_WF E s) (hL4 : L ≤ 384) (hi : i + 6 ≤ L) (hS : gd_SX h s.heap.size n) (hce : ce + 16 ≤ 600000) (hsl : sl + 143 ≤ 7302250) (kk : ∀ h' n', gd_SX h' s.heap.size n' → gd_LU p l e s m below meth c b E 1372 [some (.ref b), some (.ref s.heap.size), some (.ref (s.heap.size + 22)), some (.int (nI i))] [] h' n' (ce + 16) (sl + 143)) : gd_LU p l e s m below meth c b E 929 [some (.ref b), some (.ref s.heap.size), some (.ref (s.heap.size + 22)), some (.int (nI i))] [] h n ce sl := by
  obtain ⟨fx, hx⟩ := gd_SX_x hS
  obtain ⟨PX, CX, stp⟩ := st_shelf (E := E) (l := l) hS (xs (i + 1)) (xs (i + 2))
  refine gd_lald S (pj_d pL_shelf 0 rfl) (q := 930) rfl rfl ?_
  refine gd_larg (q := 935) S hX hbl hL4 (k := 1) (pj_d pL_shelf 1 rfl) (pj_d pL_shelf 2 rfl) (pj_d pL_shelf 3 rfl) (pj_d pL_shelf 4 rfl) (pj_d pL_shelf 5 rfl) rfl (by decide) (by omega) ?_
  refine gd_larg (q := 940) S hX hbl hL4 (k := 2) (pj_d pL_shelf 6 rfl) (pj_d pL_shelf 7 rfl) (pj_d pL_shelf 8 rfl) (pj_d pL_shelf 9 rfl) (pj_d pL_shelf 10 rfl) rfl (by decide) (by omega) ?_
  refine gd_lV S hW CX (pj_d pL_shelf 11 rfl) (q := 943) rfl kL_118 o_X11_shelf hx rfl rfl (by rfl) (by rfl) (Nat.le_of_ble_eq_true rfl) (by decide) (by omega) (by omega) ?_
  rintro r h' n' hPX
  obtain ⟨⟨v, e0⟩, ⟨fm, hm⟩, PM, CM, stp2⟩ := stp r h' n' hPX
  subst e0
  refine gd_lald S (pj_d pL_shelf 12 rfl) (q := 944) rfl rfl ?_
  refine gd_larg (q := 949) S hX hbl hL4 (k := 1) (pj_d pL_shelf 13 rfl) (pj_d pL_shelf 14 rfl) (pj_d pL_shelf 15 rfl) (pj_d pL_shelf 16 rfl) (pj_d pL_shelf 17 rfl) rfl (by decide) (by omega) ?_
  refine gd_larg (q := 954) S hX hbl hL4 (k := 2) (pj_d pL_shelf 18 rfl) (pj_d pL_shelf 19 rfl) (pj_d pL_shelf 20 rfl) (pj_d pL_shelf 21 rfl) (pj_d pL_shelf 22 rfl) rfl (by decide) (by omega) ?_
  refine gd_lV S hW CM (pj_d pL_shelf 23 rfl) (q := 957) rfl kL_121 o_X12_shelf hm rfl rfl (by rfl) (by rfl) (Nat.le_of_ble_eq_true rfl) (by decide) (by omega) (by omega) ?_
  rintro r2 h2 n2 hPM
  obtain ⟨e1, hS2⟩ := stp2 r2 h2 n2 hPM
  subst e1
  refine gd_licmpeq S (pj_d pL_shelf 24 rfl) (t := 1372) (by decide) ?_
  exact gd_lwid (by omega) (by omega) (kk h2 n2 hS2)
def PL_parted : List (Nat × Instr × Nat) := [(962, .aload_n 1, 1), (963, .aload_n 0, 1), (964, .iload_n 3, 1), (965, .iconst 1, 1), (966, .iadd, 1), (967, .iaload, 1), (968, .aload_n 0, 1), (969, .iload_n 3, 1), (970, .iconst 2, 1), (971, .iadd, 1), (972, .iaload, 1), (973, .aload_n 0, 1), (974, .iload_n 3, 1), (975, .iconst 3, 1), (976, .iadd, 1), (977, .iaload, 1), (978, .invokevirtual 122, 3), (981, .aload_n 2, 1), (982, .aload_n 0, 1), (983, .iload_n 3, 1), (984, .iconst 1, 1), (985, .iadd, 1), (986, .iaload, 1), (987, .aload_n 0, 1), (988, .iload_n 3, 1), (989, .iconst 2, 1), (990, .iadd, 1), (991, .iaload, 1), (992, .aload_n 0, 1), (993, .iload_n 3, 1), (994, .iconst 3, 1), (995, .iadd, 1), (996, .iaload, 1), (997, .invokevirtual 125, 3), (1000, .if_icmp .eq 372, 3)]
theorem pL_parted : pj_tab code PL_parted = true := by decide +kernel
theorem lc_parted (S : gd_LS p s m c b) (hX : va_X b L xs s s.heap) (hbl : b < s.heap.size) (hW : pj_WF E s) (hL4 : L ≤ 384) (hi : i + 6 ≤ L) (hS : gd_SX h s.heap.size n) (hce : ce + 16 ≤ 600000) (hsl : sl + 143 ≤ 7302250) (kk : ∀ h' n', gd_SX h' s.heap.size n' → gd_LU p l e s m below meth c b E 1372 [some (.ref b), some (.ref s.heap.size), some (.ref (s.heap.size + 22)), some (.int (nI i))] [] h' n' (ce + 16) (sl + 143)) : gd_LU p l e s m below meth c b E 962 [some (.ref b), some (.ref s.heap.size), some (.ref (s.heap.size + 22)), some (.int (nI i))] [] h n ce sl := by
  obtain ⟨fx, hx⟩ := gd_SX_x hS
  obtain ⟨PX, CX, stp⟩ := st_parted (E := E) (l := l) hS (xs (i + 1)) (xs (i + 2)) (xs (i + 3))
  refine gd_lald S (pj_d pL_parted 0 rfl) (q := 963) rfl rfl ?_
  refine gd_larg (q := 968) S hX hbl hL4 (k := 1) (pj_d pL_parted 1 rfl) (pj_d pL_parted 2 rfl) (pj_d pL_parted 3 rfl) (pj_d pL_parted 4 rfl) (pj_d pL_parted 5 rfl) rfl (by decide) (by omega) ?_
  refine gd_larg (q := 973) S hX hbl hL4 (k := 2) (pj_d pL_parted 6 rfl) (pj_d pL_parted 7 rfl) (pj_d pL_parted 8 rfl) (pj_d pL_parted 9 rfl) (pj_d pL_parted 10 rfl) rfl (by decide) (by omega) ?_
  refine gd_larg (q := 978) S hX hbl hL4 (k := 3) (pj_d pL_parted 11 rfl) (pj_d pL_parted 12 rfl) (pj_d pL_parted 13 rfl) (pj_d pL_parted 14 rfl) (pj_d pL_parted 15 rfl) rfl (by decide) (by omega) ?_
  refine gd_lV S hW CX (pj_d pL_parted 16 rfl) (q := 981) rfl kL_122 o_X11_parted hx rfl rfl (by rfl) (by rfl) (Nat.le_of_ble_eq_true rfl) (by decide) (by omega) (by omega) ?_
  rintro r h' n' hPX
  obtain ⟨⟨v, e0⟩, ⟨fm, hm⟩, PM, CM, stp2⟩ := stp r h' n' hPX
  subst e0
  refine gd_lald S (pj_d pL_parted 17 rfl) (q := 982) rfl rfl ?_
  refine gd_larg (q := 987) S hX hbl hL4 (k := 1) (pj_d pL_parted 18 rfl) (pj_d pL_parted 19 rfl) (pj_d pL_parted 20 rfl) (pj_d pL_parted 21 rfl) (pj_d pL_parted 22 rfl) rfl (by decide) (by omega) ?_
  refine gd_larg (q := 992) S hX hbl hL4 (k := 2) (pj_d pL_parted 23 rfl) (pj_d pL_parted 24 rfl) (pj_d pL_parted 25 rfl) (pj_d pL_parted 26 rfl) (pj_d pL_parted 27 rfl) rfl (by decide) (by omega) ?_
  refine gd_larg (q := 997) S hX hbl hL4 (k := 3) (pj_d pL_parted 28 rfl) (pj_d pL_parted 29 rfl) (pj_d pL_parted 30 rfl) (pj_d pL_parted 31 rfl) (pj_d pL_parted 32 rfl) rfl (by decide) (by omega) ?_
  refine gd_lV S hW CM (pj_d pL_parted 33 rfl) (q := 1000) rfl kL_125 o_X12_parted hm rfl rfl (by rfl) (by rfl) (Nat.le_of_ble_eq_true rfl) (by decide) (by omega) (by omega) ?_
  rintro r2 h2 n2 hPM
  obtain ⟨e1, hS2⟩ := stp2 r2 h2 n2 hPM
  subst e1
  refine gd_licmpeq S (pj_d pL_parted 34 rfl) (t := 1372) (by decide) ?_
  exact gd_lwid (by omega) (by omega) (kk h2 n2 hS2)
def PL_merged : List (Nat × Instr × Nat) := [(1005, .aload_n 1, 1), (1006, .aload_n 0, 1), (1007, .iload_n 3, 1), (1008, .iconst 1, 1), (1009, .iadd, 1), (1010, .iaload, 1), (1011, .aload_n 0, 1), (1012, .iload_n 3, 1), (1013, .iconst 2, 1), (1014, .iadd, 1), (1015, .iaload, 1), (1016, .invokevirtual 126, 3), (1019, .aload_n 2, 1), (1020, .aload_n 0, 1), (1021, .iload_n 3, 1), (1022, .iconst 1, 1), (1023, .iadd, 1), (1024, .iaload, 1), (1025, .aload_n 0, 1), (1026, .iload_n 3, 1), (1027, .iconst 2, 1), (1028, .iadd, 1), (1029, .iaload, 1), (1030, .invokevirtual 129, 3), (1033, .if_icmp .eq 339, 3)]
theorem pL_merged : pj_tab code PL_merged = true := by decide +kernel
theorem lc_merged (S : gd_LS p s m c b) (hX : va_X b L xs s s.heap) (hbl : b < s.heap.size) (hW : pj_WF E s) (hL4 : L ≤ 384) (hi : i + 6 ≤ L) (hS : gd_SX h s.heap.size n) (hce : ce + 16 ≤ 600000) (hsl : sl + 143 ≤ 7302250) (kk : ∀ h' n', gd_SX h' s.heap.size n' → gd_LU p l e s m below meth c b E 1372 [some (.ref b), some (.ref s.heap.size), some (.ref (s.heap.size + 22)), some (.int (nI i))] [] h' n' (ce + 16) (sl + 143)) : gd_LU p l e s m below meth c b E 1005 [some (.ref b), some (.ref s.heap.size), some (.ref (s.heap.size + 22)), some (.int (nI i))] [] h n ce sl := by
  obtain ⟨fx, hx⟩ := gd_SX_x hS
  obtain ⟨PX, CX, stp⟩ := st_merged (E := E) (l := l) hS (xs (i + 1)) (xs (i + 2))
  refine gd_lald S (pj_d pL_merged 0 rfl) (q := 1006) rfl rfl ?_
  refine gd_larg (q := 1011) S hX hbl hL4 (k := 1) (pj_d pL_merged 1 rfl) (pj_d pL_merged 2 rfl) (pj_d pL_merged 3 rfl) (pj_d pL_merged 4 rfl) (pj_d pL_merged 5 rfl) rfl (by decide) (by omega) ?_
  refine gd_larg (q := 1016) S hX hbl hL4 (k := 2) (pj_d pL_merged 6 rfl) (pj_d pL_merged 7 rfl) (pj_d pL_merged 8 rfl) (pj_d pL_merged 9 rfl) (pj_d pL_merged 10 rfl) rfl (by decide) (by omega) ?_
  refine gd_lV S hW CX (pj_d pL_merged 11 rfl) (q := 1019) rfl kL_126 o_X11_merged hx rfl rfl (by rfl) (by rfl) (Nat.le_of_ble_eq_true rfl) (by decide) (by omega) (by omega) ?_
  rintro r h' n' hPX
  obtain ⟨⟨v, e0⟩, ⟨fm, hm⟩, PM, CM, stp2⟩ := stp r h' n' hPX
  subst e0
  refine gd_lald S (pj_d pL_merged 12 rfl) (q := 1020) rfl rfl ?_
  refine gd_larg (q := 1025) S hX hbl hL4 (k := 1) (pj_d pL_merged 13 rfl) (pj_d pL_merged 14 rfl) (pj_d pL_merged 15 rfl) (pj_d pL_merged 16 rfl) (pj_d pL_merged 17 rfl) rfl (by decide) (by omega) ?_
  refine gd_larg (q := 1030) S hX hbl hL4 (k := 2) (pj_d pL_merged 18 rfl) (pj_d pL_merged 19 rfl) (pj_d pL_merged 20 rfl) (pj_d pL_merged 21 rfl) (pj_d pL_merged 22 rfl) rfl (by decide) (by omega) ?_
  refine gd_lV S hW CM (pj_d pL_merged 23 rfl) (q := 1033) rfl kL_129 o_X12_merged hm rfl rfl (by rfl) (by rfl) (Nat.le_of_ble_eq_true rfl) (by decide) (by omega) (by omega) ?_
  rintro r2 h2 n2 hPM
  obtain ⟨e1, hS2⟩ := stp2 r2 h2 n2 hPM
  subst e1
  refine gd_licmpeq S (pj_d pL_merged 24 rfl) (t := 1372) (by decide) ?_
  exact gd_lwid (by omega) (by omega) (kk h2 n2 hS2)
def PL_tests : List (Nat × Instr × Nat) := [(1038, .aload_n 1, 1), (1039, .aload_n 0, 1), (1040, .iload_n 3, 1), (1041, .iconst 1, 1), (1042, .iadd, 1), (1043, .iaload, 1), (1044, .aload_n 0, 1), (1045, .iload_n 3, 1), (1046, .iconst 2, 1), (1047, .iadd, 1), (1048, .iaload, 1), (1049, .aload_n 0, 1), (1050, .iload_n 3, 1), (1051, .iconst 3, 1), (1052, .iadd, 1), (1053, .iaload, 1), (1054, .aload_n 0, 1), (1055, .iload_n 3, 1), (1056, .iconst 4, 1), (1057, .iadd, 1), (1058, .iaload, 1), (1059, .invokevirtual 130, 3), (1062, .aload_n 2, 1), (1063, .aload_n 0, 1), (1064, .iload_n 3, 1), (1065, .iconst 1, 1), (1066, .iadd, 1), (1067, .iaload, 1), (1068, .aload_n 0, 1), (1069, .iload_n 3, 1), (1070, .iconst 2, 1), (1071, .iadd, 1), (1072, .iaload, 1), (1073, .aload_n 0, 1), (1074, .iload_n 3, 1), (1075, .iconst 3, 1), (1076, .iadd, 1), (1077, .iaload, 1), (1078, .aload_n 0, 1), (1079, .iload_n 3, 1), (1080, .iconst 4, 1), (1081, .iadd, 1), (1082, .iaload, 1), (1083, .invokevirtual 134, 3), (1086, .if_icmp .eq 286, 3)]
theorem pL_tests : pj_tab code PL_tests = true := by decide +kernel
theorem lc_tests (S : gd_LS p s m c b) (hX : va_X b L xs s s.heap) (hbl : b < s.heap.size) (hW : pj_WF E s) (hL4 : L ≤ 384) (hi : i + 6 ≤ L) (hS : gd_SX h s.heap.size n) (hce : ce + 16 ≤ 600000) (hsl : sl + 143 ≤ 7302250) (kk : ∀ h' n', gd_SX h' s.heap.size n' → gd_LU p l e s m below meth c b E 1372 [some (.ref b), some (.ref s.heap.size), some (.ref (s.heap.size + 22)), some (.int (nI i))] [] h' n' (ce + 16) (sl + 143)) : gd_LU p l e s m below meth c b E 1038 [some (.ref b), some (.ref s.heap.size), some (.ref (s.heap.size + 22)), some (.int (nI i))] [] h n ce sl := by
  obtain ⟨fx, hx⟩ := gd_SX_x hS
  obtain ⟨PX, CX, stp⟩ := st_tests (E := E) (l := l) hS (xs (i + 1)) (xs (i + 2)) (xs (i + 3)) (xs (i + 4))
  refine gd_lald S (pj_d pL_tests 0 rfl) (q := 1039) rfl rfl ?_
  refine gd_larg (q := 1044) S hX hbl hL4 (k := 1) (pj_d pL_tests 1 rfl) (pj_d pL_tests 2 rfl) (pj_d pL_tests 3 rfl) (pj_d pL_tests 4 rfl) (pj_d pL_tests 5 rfl) rfl (by decide) (by omega) ?_
  refine gd_larg (q := 1049) S hX hbl hL4 (k := 2) (pj_d pL_tests 6 rfl) (pj_d pL_tests 7 rfl) (pj_d pL_tests 8 rfl) (pj_d pL_tests 9 rfl) (pj_d pL_tests 10 rfl) rfl (by decide) (by omega) ?_
  refine gd_larg (q := 1054) S hX hbl hL4 (k := 3) (pj_d pL_tests 11 rfl) (pj_d pL_tests 12 rfl) (pj_d pL_tests 13 rfl) (pj_d pL_tests 14 rfl) (pj_d pL_tests 15 rfl) rfl (by decide) (by omega) ?_
  refine gd_larg (q := 1059) S hX hbl hL4 (k := 4) (pj_d pL_tests 16 rfl) (pj_d pL_tests 17 rfl) (pj_d pL_tests 18 rfl) (pj_d pL_tests 19 rfl) (pj_d pL_tests 20 rfl) rfl (by decide) (by omega) ?_
  refine gd_lV S hW CX (pj_d pL_tests 21 rfl) (q := 1062) rfl kL_130 o_X11_tests hx rfl rfl (by rfl) (by rfl) (Nat.le_of_ble_eq_true rfl) (by decide) (by omega) (by omega) ?_
  rintro r h' n' hPX
  obtain ⟨⟨v, e0⟩, ⟨fm, hm⟩, PM, CM, stp2⟩ := stp r h' n' hPX
  subst e0
  refine gd_lald S (pj_d pL_tests 22 rfl) (q := 1063) rfl rfl ?_
  refine gd_larg (q := 1068) S hX hbl hL4 (k := 1) (pj_d pL_tests 23 rfl) (pj_d pL_tests 24 rfl) (pj_d pL_tests 25 rfl) (pj_d pL_tests 26 rfl) (pj_d pL_tests 27 rfl) rfl (by decide) (by omega) ?_
  refine gd_larg (q := 1073) S hX hbl hL4 (k := 2) (pj_d pL_tests 28 rfl) (pj_d pL_tests 29 rfl) (pj_d pL_tests 30 rfl) (pj_d pL_tests 31 rfl) (pj_d pL_tests 32 rfl) rfl (by decide) (by omega) ?_
  refine gd_larg (q := 1078) S hX hbl hL4 (k := 3) (pj_d pL_tests 33 rfl) (pj_d pL_tests 34 rfl) (pj_d pL_tests 35 rfl) (pj_d pL_tests 36 rfl) (pj_d pL_tests 37 rfl) rfl (by decide) (by omega) ?_
  refine gd_larg (q := 1083) S hX hbl hL4 (k := 4) (pj_d pL_tests 38 rfl) (pj_d pL_tests 39 rfl) (pj_d pL_tests 40 rfl) (pj_d pL_tests 41 rfl) (pj_d pL_tests 42 rfl) rfl (by decide) (by omega) ?_
  refine gd_lV S hW CM (pj_d pL_tests 43 rfl) (q := 1086) rfl kL_134 o_X12_tests hm rfl rfl (by rfl) (by rfl) (Nat.le_of_ble_eq_true rfl) (by decide) (by omega) (by omega) ?_
  rintro r2 h2 n2 hPM
  obtain ⟨e1, hS2⟩ := stp2 r2 h2 n2 hPM
  subst e1
  refine gd_licmpeq S (pj_d pL_tests 44 rfl) (t := 1372) (by decide) ?_
  exact gd_lwid (by omega) (by omega) (kk h2 n2 hS2)
def PL_bet : List (Nat × Instr × Nat) := [(1091, .aload_n 1, 1), (1092, .aload_n 0, 1), (1093, .iload_n 3, 1), (1094, .iconst 1, 1), (1095, .iadd, 1), (1096, .iaload, 1), (1097, .aload_n 0, 1), (1098, .iload_n 3, 1), (1099, .iconst 2, 1), (1100, .iadd, 1), (1101, .iaload, 1), (1102, .aload_n 0, 1), (1103, .iload_n 3, 1), (1104, .iconst 3, 1), (1105, .iadd, 1), (1106, .iaload, 1), (1107, .invokevirtual 135, 3), (1110, .aload_n 2, 1), (1111, .aload_n 0, 1), (1112, .iload_n 3, 1), (1113, .iconst 1, 1), (1114, .iadd, 1), (1115, .iaload, 1), (1116, .aload_n 0, 1), (1117, .iload_n 3, 1), (1118, .iconst 2, 1), (1119, .iadd, 1), (1120, .iaload, 1), (1121, .aload_n 0, 1), (1122, .iload_n 3, 1), (1123, .iconst 3, 1), (1124, .iadd, 1), (1125, .iaload, 1), (1126, .invokevirtual 139, 3), (1129, .lcmp, 1), (1130, .ifCond .eq 242, 3)]
theorem pL_bet : pj_tab code PL_bet = true := by decide +kernel
theorem lc_bet (S : gd_LS p s m c b) (hX : va_X b L xs s s.heap) (hbl : b < s.heap.size) (hW : pj_WF E s) (hL4 : L ≤ 384) (hi : i + 6 ≤ L) (hS : gd_SX h s.heap.size n) (hce : ce + 16 ≤ 600000) (hsl : sl + 143 ≤ 7302250) (kk : ∀ h' n', gd_SX h' s.heap.size n' → gd_LU p l e s m below meth c b E 1372 [some (.ref b), some (.ref s.heap.size), some (.ref (s.heap.size + 22)), some (.int (nI i))] [] h' n' (ce + 16) (sl + 143)) : gd_LU p l e s m below meth c b E 1091 [some (.ref b), some (.ref s.heap.size), some (.ref (s.heap.size + 22)), some (.int (nI i))] [] h n ce sl := by
  obtain ⟨fx, hx⟩ := gd_SX_x hS
  obtain ⟨PX, CX, stp⟩ := st_bet (E := E) (l := l) hS (xs (i + 1)) (xs (i + 2)) (xs (i + 3))
  refine gd_lald S (pj_d pL_bet 0 rfl) (q := 1092) rfl rfl ?_
  refine gd_larg (q := 1097) S hX hbl hL4 (k := 1) (pj_d pL_bet 1 rfl) (pj_d pL_bet 2 rfl) (pj_d pL_bet 3 rfl) (pj_d pL_bet 4 rfl) (pj_d pL_bet 5 rfl) rfl (by decide) (by omega) ?_
  refine gd_larg (q := 1102) S hX hbl hL4 (k := 2) (pj_d pL_bet 6 rfl) (pj_d pL_bet 7 rfl) (pj_d pL_bet 8 rfl) (pj_d pL_bet 9 rfl) (pj_d pL_bet 10 rfl) rfl (by decide) (by omega) ?_
  refine gd_larg (q := 1107) S hX hbl hL4 (k := 3) (pj_d pL_bet 11 rfl) (pj_d pL_bet 12 rfl) (pj_d pL_bet 13 rfl) (pj_d pL_bet 14 rfl) (pj_d pL_bet 15 rfl) rfl (by decide) (by omega) ?_
  refine gd_lV S hW CX (pj_d pL_bet 16 rfl) (q := 1110) rfl kL_135 o_X11_bet hx rfl rfl (by rfl) (by rfl) (Nat.le_of_ble_eq_true rfl) (by decide) (by omega) (by omega) ?_
  rintro r h' n' hPX
  obtain ⟨⟨v, e0⟩, ⟨fm, hm⟩, PM, CM, stp2⟩ := stp r h' n' hPX
  subst e0
  refine gd_lald S (pj_d pL_bet 17 rfl) (q := 1111) rfl rfl ?_
  refine gd_larg (q := 1116) S hX hbl hL4 (k := 1) (pj_d pL_bet 18 rfl) (pj_d pL_bet 19 rfl) (pj_d pL_bet 20 rfl) (pj_d pL_bet 21 rfl) (pj_d pL_bet 22 rfl) rfl (by decide) (by omega) ?_
  refine gd_larg (q := 1121) S hX hbl hL4 (k := 2) (pj_d pL_bet 23 rfl) (pj_d pL_bet 24 rfl) (pj_d pL_bet 25 rfl) (pj_d pL_bet 26 rfl) (pj_d pL_bet 27 rfl) rfl (by decide) (by omega) ?_
  refine gd_larg (q := 1126) S hX hbl hL4 (k := 3) (pj_d pL_bet 28 rfl) (pj_d pL_bet 29 rfl) (pj_d pL_bet 30 rfl) (pj_d pL_bet 31 rfl) (pj_d pL_bet 32 rfl) rfl (by decide) (by omega) ?_
  refine gd_lV S hW CM (pj_d pL_bet 33 rfl) (q := 1129) rfl kL_139 o_X12_bet hm rfl rfl (by rfl) (by rfl) (Nat.le_of_ble_eq_true rfl) (by decide) (by omega) (by omega) ?_
  rintro r2 h2 n2 hPM
  obtain ⟨e1, hS2⟩ := stp2 r2 h2 n2 hPM
  subst e1
  refine gd_llcmp S (pj_d pL_bet 34 rfl) (q := 1130) rfl ?_
  refine gd_lifeq S (pj_d pL_bet 35 rfl) (t := 1372) (by decide) (gd_lcmp0 v) ?_
  exact gd_lwid (by omega) (by omega) (kk h2 n2 hS2)
def PL_year : List (Nat × Instr × Nat) := [(1135, .aload_n 1, 1), (1136, .aload_n 0, 1), (1137, .iload_n 3, 1), (1138, .iconst 1, 1), (1139, .iadd, 1), (1140, .iaload, 1), (1141, .aload_n 0, 1), (1142, .iload_n 3, 1), (1143, .iconst 2, 1), (1144, .iadd, 1), (1145, .iaload, 1), (1146, .aload_n 0, 1), (1147, .iload_n 3, 1), (1148, .iconst 3, 1), (1149, .iadd, 1), (1150, .iaload, 1), (1151, .invokevirtual 140, 3), (1154, .aload_n 2, 1), (1155, .aload_n 0, 1), (1156, .iload_n 3, 1), (1157, .iconst 1, 1), (1158, .iadd, 1), (1159, .iaload, 1), (1160, .aload_n 0, 1), (1161, .iload_n 3, 1), (1162, .iconst 2, 1), (1163, .iadd, 1), (1164, .iaload, 1), (1165, .aload_n 0, 1), (1166, .iload_n 3, 1), (1167, .iconst 3, 1), (1168, .iadd, 1), (1169, .iaload, 1), (1170, .invokevirtual 143, 3), (1173, .if_icmp .eq 199, 3)]
theorem pL_year : pj_tab code PL_year = true := by decide +kernel
theorem lc_year (S : gd_LS p s m c b) (hX : va_X b L xs s s.heap) (hbl : b < s.heap.size) (hW : pj_WF E s) (hL4 : L ≤ 384) (hi : i + 6 ≤ L) (hS : gd_SX h s.heap.size n) (hce : ce + 16 ≤ 600000) (hsl : sl + 143 ≤ 7302250) (kk : ∀ h' n', gd_SX h' s.heap.size n' → gd_LU p l e s m below meth c b E 1372 [some (.ref b), some (.ref s.heap.size), some (.ref (s.heap.size + 22)), some (.int (nI i))] [] h' n' (ce + 16) (sl + 143)) : gd_LU p l e s m below meth c b E 1135 [some (.ref b), some (.ref s.heap.size), some (.ref (s.heap.size + 22)), some (.int (nI i))] [] h n ce sl := by
  obtain ⟨fx, hx⟩ := gd_SX_x hS
  obtain ⟨PX, CX, stp⟩ := st_year (E := E) (l := l) hS (xs (i + 1)) (xs (i + 2)) (xs (i + 3))
  refine gd_lald S (pj_d pL_year 0 rfl) (q := 1136) rfl rfl ?_
  refine gd_larg (q := 1141) S hX hbl hL4 (k := 1) (pj_d pL_year 1 rfl) (pj_d pL_year 2 rfl) (pj_d pL_year 3 rfl) (pj_d pL_year 4 rfl) (pj_d pL_year 5 rfl) rfl (by decide) (by omega) ?_
  refine gd_larg (q := 1146) S hX hbl hL4 (k := 2) (pj_d pL_year 6 rfl) (pj_d pL_year 7 rfl) (pj_d pL_year 8 rfl) (pj_d pL_year 9 rfl) (pj_d pL_year 10 rfl) rfl (by decide) (by omega) ?_
  refine gd_larg (q := 1151) S hX hbl hL4 (k := 3) (pj_d pL_year 11 rfl) (pj_d pL_year 12 rfl) (pj_d pL_year 13 rfl) (pj_d pL_year 14 rfl) (pj_d pL_year 15 rfl) rfl (by decide) (by omega) ?_
  refine gd_lV S hW CX (pj_d pL_year 16 rfl) (q := 1154) rfl kL_140 o_X11_year hx rfl rfl (by rfl) (by rfl) (Nat.le_of_ble_eq_true rfl) (by decide) (by omega) (by omega) ?_
  rintro r h' n' hPX
  obtain ⟨⟨v, e0⟩, ⟨fm, hm⟩, PM, CM, stp2⟩ := stp r h' n' hPX
  subst e0
  refine gd_lald S (pj_d pL_year 17 rfl) (q := 1155) rfl rfl ?_
  refine gd_larg (q := 1160) S hX hbl hL4 (k := 1) (pj_d pL_year 18 rfl) (pj_d pL_year 19 rfl) (pj_d pL_year 20 rfl) (pj_d pL_year 21 rfl) (pj_d pL_year 22 rfl) rfl (by decide) (by omega) ?_
  refine gd_larg (q := 1165) S hX hbl hL4 (k := 2) (pj_d pL_year 23 rfl) (pj_d pL_year 24 rfl) (pj_d pL_year 25 rfl) (pj_d pL_year 26 rfl) (pj_d pL_year 27 rfl) rfl (by decide) (by omega) ?_
  refine gd_larg (q := 1170) S hX hbl hL4 (k := 3) (pj_d pL_year 28 rfl) (pj_d pL_year 29 rfl) (pj_d pL_year 30 rfl) (pj_d pL_year 31 rfl) (pj_d pL_year 32 rfl) rfl (by decide) (by omega) ?_
  refine gd_lV S hW CM (pj_d pL_year 33 rfl) (q := 1173) rfl kL_143 o_X12_year hm rfl rfl (by rfl) (by rfl) (Nat.le_of_ble_eq_true rfl) (by decide) (by omega) (by omega) ?_
  rintro r2 h2 n2 hPM
  obtain ⟨e1, hS2⟩ := stp2 r2 h2 n2 hPM
  subst e1
  refine gd_licmpeq S (pj_d pL_year 34 rfl) (t := 1372) (by decide) ?_
  exact gd_lwid (by omega) (by omega) (kk h2 n2 hS2)
def PL_image : List (Nat × Instr × Nat) := [(1178, .aload_n 1, 1), (1179, .aload_n 0, 1), (1180, .iload_n 3, 1), (1181, .iconst 1, 1), (1182, .iadd, 1), (1183, .iaload, 1), (1184, .invokevirtual 144, 3), (1187, .aload_n 2, 1), (1188, .aload_n 0, 1), (1189, .iload_n 3, 1), (1190, .iconst 1, 1), (1191, .iadd, 1), (1192, .iaload, 1), (1193, .invokevirtual 147, 3), (1196, .if_icmp .eq 176, 3)]
theorem pL_image : pj_tab code PL_image = true := by decide +kernel
theorem lc_image (S : gd_LS p s m c b) (hX : va_X b L xs s s.heap) (hbl : b < s.heap.size) (hW : pj_WF E s) (hL4 : L ≤ 384) (hi : i + 6 ≤ L) (hS : gd_SX h s.heap.size n) (hce : ce + 16 ≤ 600000) (hsl : sl + 143 ≤ 7302250) (kk : ∀ h' n', gd_SX h' s.heap.size n' → gd_LU p l e s m below meth c b E 1372 [some (.ref b), some (.ref s.heap.size), some (.ref (s.heap.size + 22)), some (.int (nI i))] [] h' n' (ce + 16) (sl + 143)) : gd_LU p l e s m below meth c b E 1178 [some (.ref b), some (.ref s.heap.size), some (.ref (s.heap.size + 22)), some (.int (nI i))] [] h n ce sl := by
  obtain ⟨fx, hx⟩ := gd_SX_x hS
  obtain ⟨PX, CX, stp⟩ := st_image (E := E) (l := l) hS (xs (i + 1))
  refine gd_lald S (pj_d pL_image 0 rfl) (q := 1179) rfl rfl ?_
  refine gd_larg (q := 1184) S hX hbl hL4 (k := 1) (pj_d pL_image 1 rfl) (pj_d pL_image 2 rfl) (pj_d pL_image 3 rfl) (pj_d pL_image 4 rfl) (pj_d pL_image 5 rfl) rfl (by decide) (by omega) ?_
  refine gd_lV S hW CX (pj_d pL_image 6 rfl) (q := 1187) rfl kL_144 o_X11_image hx rfl rfl (by rfl) (by rfl) (Nat.le_of_ble_eq_true rfl) (by decide) (by omega) (by omega) ?_
  rintro r h' n' hPX
  obtain ⟨⟨v, e0⟩, ⟨fm, hm⟩, PM, CM, stp2⟩ := stp r h' n' hPX
  subst e0
  refine gd_lald S (pj_d pL_image 7 rfl) (q := 1188) rfl rfl ?_
  refine gd_larg (q := 1193) S hX hbl hL4 (k := 1) (pj_d pL_image 8 rfl) (pj_d pL_image 9 rfl) (pj_d pL_image 10 rfl) (pj_d pL_image 11 rfl) (pj_d pL_image 12 rfl) rfl (by decide) (by omega) ?_
  refine gd_lV S hW CM (pj_d pL_image 13 rfl) (q := 1196) rfl kL_147 o_X12_image hm rfl rfl (by rfl) (by rfl) (Nat.le_of_ble_eq_true rfl) (by decide) (by omega) (by omega) ?_
  rintro r2 h2 n2 hPM
  obtain ⟨e1, hS2⟩ := stp2 r2 h2 n2 hPM
  subst e1
  refine gd_licmpeq S (pj_d pL_image 14 rfl) (t := 1372) (by decide) ?_
  exact gd_lwid (by omega) (by omega) (kk h2 n2 hS2)
def PL_restore : List (Nat × Instr × Nat) := [(1201, .aload_n 1, 1), (1202, .aload_n 0, 1), (1203, .iload_n 3, 1), (1204, .iconst 1, 1), (1205, .iadd, 1), (1206, .iaload, 1), (1207, .invokevirtual 148, 3), (1210, .aload_n 2, 1), (1211, .aload_n 0, 1), (1212, .iload_n 3, 1), (1213, .iconst 1, 1), (1214, .iadd, 1), (1215, .iaload, 1), (1216, .invokevirtual 151, 3), (1219, .if_icmp .eq 153, 3)]
theorem pL_restore : pj_tab code PL_restore = true := by decide +kernel
theorem lc_restore (S : gd_LS p s m c b) (hX : va_X b L xs s s.heap) (hbl : b < s.heap.size) (hW : pj_WF E s) (hL4 : L ≤ 384) (hi : i + 6 ≤ L) (hS : gd_SX h s.heap.size n) (hce : ce + 16 ≤ 600000) (hsl : sl + 143 ≤ 7302250) (kk : ∀ h' n', gd_SX h' s.heap.size n' → gd_LU p l e s m below meth c b E 1372 [some (.ref b), some (.ref s.heap.size), some (.ref (s.heap.size + 22)), some (.int (nI i))] [] h' n' (ce + 16) (sl + 143)) : gd_LU p l e s m below meth c b E 1201 [some (.ref b), some (.ref s.heap.size), some (.ref (s.heap.size + 22)), some (.int (nI i))] [] h n ce sl := by
  obtain ⟨fx, hx⟩ := gd_SX_x hS
  obtain ⟨PX, CX, stp⟩ := st_restore (E := E) (l := l) hS (xs (i + 1))
  refine gd_lald S (pj_d pL_restore 0 rfl) (q := 1202) rfl rfl ?_
  refine gd_larg (q := 1207) S hX hbl hL4 (k := 1) (pj_d pL_restore 1 rfl) (pj_d pL_restore 2 rfl) (pj_d pL_restore 3 rfl) (pj_d pL_restore 4 rfl) (pj_d pL_restore 5 rfl) rfl (by decide) (by omega) ?_
  refine gd_lV S hW CX (pj_d pL_restore 6 rfl) (q := 1210) rfl kL_148 o_X11_restore hx rfl rfl (by rfl) (by rfl) (Nat.le_of_ble_eq_true rfl) (by decide) (by omega) (by omega) ?_
  rintro r h' n' hPX
  obtain ⟨⟨v, e0⟩, ⟨fm, hm⟩, PM, CM, stp2⟩ := stp r h' n' hPX
  subst e0
  refine gd_lald S (pj_d pL_restore 7 rfl) (q := 1211) rfl rfl ?_
  refine gd_larg (q := 1216) S hX hbl hL4 (k := 1) (pj_d pL_restore 8 rfl) (pj_d pL_restore 9 rfl) (pj_d pL_restore 10 rfl) (pj_d pL_restore 11 rfl) (pj_d pL_restore 12 rfl) rfl (by decide) (by omega) ?_
  refine gd_lV S hW CM (pj_d pL_restore 13 rfl) (q := 1219) rfl kL_151 o_X12_restore hm rfl rfl (by rfl) (by rfl) (Nat.le_of_ble_eq_true rfl) (by decide) (by omega) (by omega) ?_
  rintro r2 h2 n2 hPM
  obtain ⟨e1, hS2⟩ := stp2 r2 h2 n2 hPM
  subst e1
  refine gd_licmpeq S (pj_d pL_restore 14 rfl) (t := 1372) (by decide) ?_
  exact gd_lwid (by omega) (by omega) (kk h2 n2 hS2)
def PL_kind : List (Nat × Instr × Nat) := [(1224, .aload_n 1, 1), (1225, .aload_n 0, 1), (1226, .iload_n 3, 1), (1227, .iconst 1, 1), (1228, .iadd, 1), (1229, .iaload, 1), (1230, .invokevirtual 152, 3), (1233, .aload_n 2, 1), (1234, .aload_n 0, 1), (1235, .iload_n 3, 1), (1236, .iconst 1, 1), (1237, .iadd, 1), (1238, .iaload, 1), (1239, .invokevirtual 155, 3), (1242, .if_icmp .eq 130, 3)]
theorem pL_kind : pj_tab code PL_kind = true := by decide +kernel
theorem lc_kind (S : gd_LS p s m c b) (hX : va_X b L xs s s.heap) (hbl : b < s.heap.size) (hW : pj_WF E s) (hL4 : L ≤ 384) (hi : i + 6 ≤ L) (hS : gd_SX h s.heap.size n) (hce : ce + 16 ≤ 600000) (hsl : sl + 143 ≤ 7302250) (kk : ∀ h' n', gd_SX h' s.heap.size n' → gd_LU p l e s m below meth c b E 1372 [some (.ref b), some (.ref s.heap.size), some (.ref (s.heap.size + 22)), some (.int (nI i))] [] h' n' (ce + 16) (sl + 143)) : gd_LU p l e s m below meth c b E 1224 [some (.ref b), some (.ref s.heap.size), some (.ref (s.heap.size + 22)), some (.int (nI i))] [] h n ce sl := by
  obtain ⟨fx, hx⟩ := gd_SX_x hS
  obtain ⟨PX, CX, stp⟩ := st_kind (E := E) (l := l) hS (xs (i + 1))
  refine gd_lald S (pj_d pL_kind 0 rfl) (q := 1225) rfl rfl ?_
  refine gd_larg (q := 1230) S hX hbl hL4 (k := 1) (pj_d pL_kind 1 rfl) (pj_d pL_kind 2 rfl) (pj_d pL_kind 3 rfl) (pj_d pL_kind 4 rfl) (pj_d pL_kind 5 rfl) rfl (by decide) (by omega) ?_
  refine gd_lV S hW CX (pj_d pL_kind 6 rfl) (q := 1233) rfl kL_152 o_X11_kind hx rfl rfl (by rfl) (by rfl) (Nat.le_of_ble_eq_true rfl) (by decide) (by omega) (by omega) ?_
  rintro r h' n' hPX
  obtain ⟨⟨v, e0⟩, ⟨fm, hm⟩, PM, CM, stp2⟩ := stp r h' n' hPX
  subst e0
  refine gd_lald S (pj_d pL_kind 7 rfl) (q := 1234) rfl rfl ?_
  refine gd_larg (q := 1239) S hX hbl hL4 (k := 1) (pj_d pL_kind 8 rfl) (pj_d pL_kind 9 rfl) (pj_d pL_kind 10 rfl) (pj_d pL_kind 11 rfl) (pj_d pL_kind 12 rfl) rfl (by decide) (by omega) ?_
  refine gd_lV S hW CM (pj_d pL_kind 13 rfl) (q := 1242) rfl kL_155 o_X12_kind hm rfl rfl (by rfl) (by rfl) (Nat.le_of_ble_eq_true rfl) (by decide) (by omega) (by omega) ?_
  rintro r2 h2 n2 hPM
  obtain ⟨e1, hS2⟩ := stp2 r2 h2 n2 hPM
  subst e1
  refine gd_licmpeq S (pj_d pL_kind 14 rfl) (t := 1372) (by decide) ?_
  exact gd_lwid (by omega) (by omega) (kk h2 n2 hS2)
def PL_as : List (Nat × Instr × Nat) := [(1247, .aload_n 1, 1), (1248, .aload_n 0, 1), (1249, .iload_n 3, 1), (1250, .iconst 1, 1), (1251, .iadd, 1), (1252, .iaload, 1), (1253, .aload_n 0, 1), (1254, .iload_n 3, 1), (1255, .iconst 2, 1), (1256, .iadd, 1), (1257, .iaload, 1), (1258, .invokevirtual 156, 3), (1261, .aload_n 2, 1), (1262, .aload_n 0, 1), (1263, .iload_n 3, 1), (1264, .iconst 1, 1), (1265, .iadd, 1), (1266, .iaload, 1), (1267, .aload_n 0, 1), (1268, .iload_n 3, 1), (1269, .iconst 2, 1), (1270, .iadd, 1), (1271, .iaload, 1), (1272, .invokevirtual 159, 3), (1275, .if_icmp .eq 97, 3)]
theorem pL_as : pj_tab code PL_as = true := by decide +kernel
theorem lc_as (S : gd_LS p s m c b) (hX : va_X b L xs s s.heap) (hbl : b < s.heap.size) (hW : pj_WF E s) (hL4 : L ≤ 384) (hi : i + 6 ≤ L) (hS : gd_SX h s.heap.size n) (hce : ce + 16 ≤ 600000) (hsl : sl + 143 ≤ 7302250) (kk : ∀ h' n', gd_SX h' s.heap.size n' → gd_LU p l e s m below meth c b E 1372 [some (.ref b), some (.ref s.heap.size), some (.ref (s.heap.size + 22)), some (.int (nI i))] [] h' n' (ce + 16) (sl + 143)) : gd_LU p l e s m below meth c b E 1247 [some (.ref b), some (.ref s.heap.size), some (.ref (s.heap.size + 22)), some (.int (nI i))] [] h n ce sl := by
  obtain ⟨fx, hx⟩ := gd_SX_x hS
  obtain ⟨PX, CX, stp⟩ := st_as (E := E) (l := l) hS (xs (i + 1)) (xs (i + 2))
  refine gd_lald S (pj_d pL_as 0 rfl) (q := 1248) rfl rfl ?_
  refine gd_larg (q := 1253) S hX hbl hL4 (k := 1) (pj_d pL_as 1 rfl) (pj_d pL_as 2 rfl) (pj_d pL_as 3 rfl) (pj_d pL_as 4 rfl) (pj_d pL_as 5 rfl) rfl (by decide) (by omega) ?_
  refine gd_larg (q := 1258) S hX hbl hL4 (k := 2) (pj_d pL_as 6 rfl) (pj_d pL_as 7 rfl) (pj_d pL_as 8 rfl) (pj_d pL_as 9 rfl) (pj_d pL_as 10 rfl) rfl (by decide) (by omega) ?_
  refine gd_lV S hW CX (pj_d pL_as 11 rfl) (q := 1261) rfl kL_156 o_X11_as hx rfl rfl (by rfl) (by rfl) (Nat.le_of_ble_eq_true rfl) (by decide) (by omega) (by omega) ?_
  rintro r h' n' hPX
  obtain ⟨⟨v, e0⟩, ⟨fm, hm⟩, PM, CM, stp2⟩ := stp r h' n' hPX
  subst e0
  refine gd_lald S (pj_d pL_as 12 rfl) (q := 1262) rfl rfl ?_
  refine gd_larg (q := 1267) S hX hbl hL4 (k := 1) (pj_d pL_as 13 rfl) (pj_d pL_as 14 rfl) (pj_d pL_as 15 rfl) (pj_d pL_as 16 rfl) (pj_d pL_as 17 rfl) rfl (by decide) (by omega) ?_
  refine gd_larg (q := 1272) S hX hbl hL4 (k := 2) (pj_d pL_as 18 rfl) (pj_d pL_as 19 rfl) (pj_d pL_as 20 rfl) (pj_d pL_as 21 rfl) (pj_d pL_as 22 rfl) rfl (by decide) (by omega) ?_
  refine gd_lV S hW CM (pj_d pL_as 23 rfl) (q := 1275) rfl kL_159 o_X12_as hm rfl rfl (by rfl) (by rfl) (Nat.le_of_ble_eq_true rfl) (by decide) (by omega) (by omega) ?_
  rintro r2 h2 n2 hPM
  obtain ⟨e1, hS2⟩ := stp2 r2 h2 n2 hPM
  subst e1
  refine gd_licmpeq S (pj_d pL_as 24 rfl) (t := 1372) (by decide) ?_
  exact gd_lwid (by omega) (by omega) (kk h2 n2 hS2)
def PL_ask : List (Nat × Instr × Nat) := [(1280, .aload_n 1, 1), (1281, .aload_n 0, 1), (1282, .iload_n 3, 1), (1283, .iconst 1, 1), (1284, .iadd, 1), (1285, .iaload, 1), (1286, .aload_n 0, 1), (1287, .iload_n 3, 1), (1288, .iconst 2, 1), (1289, .iadd, 1), (1290, .iaload, 1), (1291, .invokevirtual 160, 3), (1294, .aload_n 2, 1), (1295, .aload_n 0, 1), (1296, .iload_n 3, 1), (1297, .iconst 1, 1), (1298, .iadd, 1), (1299, .iaload, 1), (1300, .aload_n 0, 1), (1301, .iload_n 3, 1), (1302, .iconst 2, 1), (1303, .iadd, 1), (1304, .iaload, 1), (1305, .invokevirtual 163, 3), (1308, .if_icmp .eq 64, 3)]
theorem pL_ask : pj_tab code PL_ask = true := by decide +kernel
theorem lc_ask (S : gd_LS p s m c b) (hX : va_X b L xs s s.heap) (hbl : b < s.heap.size) (hW : pj_WF E s) (hL4 : L ≤ 384) (hi : i + 6 ≤ L) (hS : gd_SX h s.heap.size n) (hce : ce + 16 ≤ 600000) (hsl : sl + 143 ≤ 7302250) (kk : ∀ h' n', gd_SX h' s.heap.size n' → gd_LU p l e s m below meth c b E 1372 [some (.ref b), some (.ref s.heap.size), some (.ref (s.heap.size + 22)), some (.int (nI i))] [] h' n' (ce + 16) (sl + 143)) : gd_LU p l e s m below meth c b E 1280 [some (.ref b), some (.ref s.heap.size), some (.ref (s.heap.size + 22)), some (.int (nI i))] [] h n ce sl := by
  obtain ⟨fx, hx⟩ := gd_SX_x hS
  obtain ⟨PX, CX, stp⟩ := st_ask (E := E) (l := l) hS (xs (i + 1)) (xs (i + 2))
  refine gd_lald S (pj_d pL_ask 0 rfl) (q := 1281) rfl rfl ?_
  refine gd_larg (q := 1286) S hX hbl hL4 (k := 1) (pj_d pL_ask 1 rfl) (pj_d pL_ask 2 rfl) (pj_d pL_ask 3 rfl) (pj_d pL_ask 4 rfl) (pj_d pL_ask 5 rfl) rfl (by decide) (by omega) ?_
  refine gd_larg (q := 1291) S hX hbl hL4 (k := 2) (pj_d pL_ask 6 rfl) (pj_d pL_ask 7 rfl) (pj_d pL_ask 8 rfl) (pj_d pL_ask 9 rfl) (pj_d pL_ask 10 rfl) rfl (by decide) (by omega) ?_
  refine gd_lV S hW CX (pj_d pL_ask 11 rfl) (q := 1294) rfl kL_160 o_X11_ask hx rfl rfl (by rfl) (by rfl) (Nat.le_of_ble_eq_true rfl) (by decide) (by omega) (by omega) ?_
  rintro r h' n' hPX
  obtain ⟨⟨v, e0⟩, ⟨fm, hm⟩, PM, CM, stp2⟩ := stp r h' n' hPX
  subst e0
  refine gd_lald S (pj_d pL_ask 12 rfl) (q := 1295) rfl rfl ?_
  refine gd_larg (q := 1300) S hX hbl hL4 (k := 1) (pj_d pL_ask 13 rfl) (pj_d pL_ask 14 rfl) (pj_d pL_ask 15 rfl) (pj_d pL_ask 16 rfl) (pj_d pL_ask 17 rfl) rfl (by decide) (by omega) ?_
  refine gd_larg (q := 1305) S hX hbl hL4 (k := 2) (pj_d pL_ask 18 rfl) (pj_d pL_ask 19 rfl) (pj_d pL_ask 20 rfl) (pj_d pL_ask 21 rfl) (pj_d pL_ask 22 rfl) rfl (by decide) (by omega) ?_
  refine gd_lV S hW CM (pj_d pL_ask 23 rfl) (q := 1308) rfl kL_163 o_X12_ask hm rfl rfl (by rfl) (by rfl) (Nat.le_of_ble_eq_true rfl) (by decide) (by omega) (by omega) ?_
  rintro r2 h2 n2 hPM
  obtain ⟨e1, hS2⟩ := stp2 r2 h2 n2 hPM
  subst e1
  refine gd_licmpeq S (pj_d pL_ask 24 rfl) (t := 1372) (by decide) ?_
  exact gd_lwid (by omega) (by omega) (kk h2 n2 hS2)
def PL_trace : List (Nat × Instr × Nat) := [(1313, .aload_n 1, 1), (1314, .aload_n 0, 1), (1315, .iload_n 3, 1), (1316, .iconst 1, 1), (1317, .iadd, 1), (1318, .iaload, 1), (1319, .invokevirtual 164, 3), (1322, .aload_n 2, 1), (1323, .aload_n 0, 1), (1324, .iload_n 3, 1), (1325, .iconst 1, 1), (1326, .iadd, 1), (1327, .iaload, 1), (1328, .invokevirtual 167, 3), (1331, .if_icmp .eq 41, 3)]
theorem pL_trace : pj_tab code PL_trace = true := by decide +kernel
theorem lc_trace (S : gd_LS p s m c b) (hX : va_X b L xs s s.heap) (hbl : b < s.heap.size) (hW : pj_WF E s) (hL4 : L ≤ 384) (hi : i + 6 ≤ L) (hS : gd_SX h s.heap.size n) (hce : ce + 16 ≤ 600000) (hsl : sl + 143 ≤ 7302250) (kk : ∀ h' n', gd_SX h' s.heap.size n' → gd_LU p l e s m below meth c b E 1372 [some (.ref b), some (.ref s.heap.size), some (.ref (s.heap.size + 22)), some (.int (nI i))] [] h' n' (ce + 16) (sl + 143)) : gd_LU p l e s m below meth c b E 1313 [some (.ref b), some (.ref s.heap.size), some (.ref (s.heap.size + 22)), some (.int (nI i))] [] h n ce sl := by
  obtain ⟨fx, hx⟩ := gd_SX_x hS
  obtain ⟨PX, CX, stp⟩ := st_trace (E := E) (l := l) hS (xs (i + 1))
  refine gd_lald S (pj_d pL_trace 0 rfl) (q := 1314) rfl rfl ?_
  refine gd_larg (q := 1319) S hX hbl hL4 (k := 1) (pj_d pL_trace 1 rfl) (pj_d pL_trace 2 rfl) (pj_d pL_trace 3 rfl) (pj_d pL_trace 4 rfl) (pj_d pL_trace 5 rfl) rfl (by decide) (by omega) ?_
  refine gd_lV S hW CX (pj_d pL_trace 6 rfl) (q := 1322) rfl kL_164 o_X11_trace hx rfl rfl (by rfl) (by rfl) (Nat.le_of_ble_eq_true rfl) (by decide) (by omega) (by omega) ?_
  rintro r h' n' hPX
  obtain ⟨⟨v, e0⟩, ⟨fm, hm⟩, PM, CM, stp2⟩ := stp r h' n' hPX
  subst e0
  refine gd_lald S (pj_d pL_trace 7 rfl) (q := 1323) rfl rfl ?_
  refine gd_larg (q := 1328) S hX hbl hL4 (k := 1) (pj_d pL_trace 8 rfl) (pj_d pL_trace 9 rfl) (pj_d pL_trace 10 rfl) (pj_d pL_trace 11 rfl) (pj_d pL_trace 12 rfl) rfl (by decide) (by omega) ?_
  refine gd_lV S hW CM (pj_d pL_trace 13 rfl) (q := 1331) rfl kL_167 o_X12_trace hm rfl rfl (by rfl) (by rfl) (Nat.le_of_ble_eq_true rfl) (by decide) (by omega) (by omega) ?_
  rintro r2 h2 n2 hPM
  obtain ⟨e1, hS2⟩ := stp2 r2 h2 n2 hPM
  subst e1
  refine gd_licmpeq S (pj_d pL_trace 14 rfl) (t := 1372) (by decide) ?_
  exact gd_lwid (by omega) (by omega) (kk h2 n2 hS2)
def PL_count : List (Nat × Instr × Nat) := [(1336, .aload_n 1, 1), (1337, .aload_n 0, 1), (1338, .iload_n 3, 1), (1339, .iconst 1, 1), (1340, .iadd, 1), (1341, .iaload, 1), (1342, .invokevirtual 168, 3), (1345, .aload_n 2, 1), (1346, .aload_n 0, 1), (1347, .iload_n 3, 1), (1348, .iconst 1, 1), (1349, .iadd, 1), (1350, .iaload, 1), (1351, .invokevirtual 171, 3), (1354, .if_icmp .eq 18, 3)]
theorem pL_count : pj_tab code PL_count = true := by decide +kernel
theorem lc_count (S : gd_LS p s m c b) (hX : va_X b L xs s s.heap) (hbl : b < s.heap.size) (hW : pj_WF E s) (hL4 : L ≤ 384) (hi : i + 6 ≤ L) (hS : gd_SX h s.heap.size n) (hce : ce + 16 ≤ 600000) (hsl : sl + 143 ≤ 7302250) (kk : ∀ h' n', gd_SX h' s.heap.size n' → gd_LU p l e s m below meth c b E 1372 [some (.ref b), some (.ref s.heap.size), some (.ref (s.heap.size + 22)), some (.int (nI i))] [] h' n' (ce + 16) (sl + 143)) : gd_LU p l e s m below meth c b E 1336 [some (.ref b), some (.ref s.heap.size), some (.ref (s.heap.size + 22)), some (.int (nI i))] [] h n ce sl := by
  obtain ⟨fx, hx⟩ := gd_SX_x hS
  obtain ⟨PX, CX, stp⟩ := st_count (E := E) (l := l) hS (xs (i + 1))
  refine gd_lald S (pj_d pL_count 0 rfl) (q := 1337) rfl rfl ?_
  refine gd_larg (q := 1342) S hX hbl hL4 (k := 1) (pj_d pL_count 1 rfl) (pj_d pL_count 2 rfl) (pj_d pL_count 3 rfl) (pj_d pL_count 4 rfl) (pj_d pL_count 5 rfl) rfl (by decide) (by omega) ?_
  refine gd_lV S hW CX (pj_d pL_count 6 rfl) (q := 1345) rfl kL_168 o_X11_count hx rfl rfl (by rfl) (by rfl) (Nat.le_of_ble_eq_true rfl) (by decide) (by omega) (by omega) ?_
  rintro r h' n' hPX
  obtain ⟨⟨v, e0⟩, ⟨fm, hm⟩, PM, CM, stp2⟩ := stp r h' n' hPX
  subst e0
  refine gd_lald S (pj_d pL_count 7 rfl) (q := 1346) rfl rfl ?_
  refine gd_larg (q := 1351) S hX hbl hL4 (k := 1) (pj_d pL_count 8 rfl) (pj_d pL_count 9 rfl) (pj_d pL_count 10 rfl) (pj_d pL_count 11 rfl) (pj_d pL_count 12 rfl) rfl (by decide) (by omega) ?_
  refine gd_lV S hW CM (pj_d pL_count 13 rfl) (q := 1354) rfl kL_171 o_X12_count hm rfl rfl (by rfl) (by rfl) (Nat.le_of_ble_eq_true rfl) (by decide) (by omega) (by omega) ?_
  rintro r2 h2 n2 hPM
  obtain ⟨e1, hS2⟩ := stp2 r2 h2 n2 hPM
  subst e1
  refine gd_licmpeq S (pj_d pL_count 14 rfl) (t := 1372) (by decide) ?_
  exact gd_lwid (by omega) (by omega) (kk h2 n2 hS2)
def PL_status : List (Nat × Instr × Nat) := [(1359, .aload_n 1, 1), (1360, .invokevirtual 172, 3), (1363, .aload_n 2, 1), (1364, .invokevirtual 175, 3), (1367, .if_icmp .eq 5, 3)]
theorem pL_status : pj_tab code PL_status = true := by decide +kernel
theorem lc_status (S : gd_LS p s m c b) (hX : va_X b L xs s s.heap) (hbl : b < s.heap.size) (hW : pj_WF E s) (hL4 : L ≤ 384) (hi : i + 6 ≤ L) (hS : gd_SX h s.heap.size n) (hce : ce + 16 ≤ 600000) (hsl : sl + 143 ≤ 7302250) (kk : ∀ h' n', gd_SX h' s.heap.size n' → gd_LU p l e s m below meth c b E 1372 [some (.ref b), some (.ref s.heap.size), some (.ref (s.heap.size + 22)), some (.int (nI i))] [] h' n' (ce + 16) (sl + 143)) : gd_LU p l e s m below meth c b E 1359 [some (.ref b), some (.ref s.heap.size), some (.ref (s.heap.size + 22)), some (.int (nI i))] [] h n ce sl := by
  obtain ⟨fx, hx⟩ := gd_SX_x hS
  obtain ⟨PX, CX, stp⟩ := st_status (E := E) (l := l) hS 
  refine gd_lald S (pj_d pL_status 0 rfl) (q := 1360) rfl rfl ?_
  refine gd_lV S hW CX (pj_d pL_status 1 rfl) (q := 1363) rfl kL_172 o_X11_status hx rfl rfl (by rfl) (by rfl) (Nat.le_of_ble_eq_true rfl) (by decide) (by omega) (by omega) ?_
  rintro r h' n' hPX
  obtain ⟨⟨v, e0⟩, ⟨fm, hm⟩, PM, CM, stp2⟩ := stp r h' n' hPX
  subst e0
  refine gd_lald S (pj_d pL_status 2 rfl) (q := 1364) rfl rfl ?_
  refine gd_lV S hW CM (pj_d pL_status 3 rfl) (q := 1367) rfl kL_175 o_X12_status hm rfl rfl (by rfl) (by rfl) (Nat.le_of_ble_eq_true rfl) (by decide) (by omega) (by omega) ?_
  rintro r2 h2 n2 hPM
  obtain ⟨e1, hS2⟩ := stp2 r2 h2 n2 hPM
  subst e1
  refine gd_licmpeq S (pj_d pL_status 4 rfl) (t := 1372) (by decide) ?_
  exact gd_lwid (by omega) (by omega) (kk h2 n2 hS2)
end
