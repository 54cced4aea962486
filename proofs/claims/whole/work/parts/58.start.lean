/-! ===== the law's loop, its start, the claim ===== -/
def PL_head : List (Nat × Instr × Nat) := [(0, .new 7, 3), (3, .dup, 1), (4, .invokespecial 9, 3), (7, .astore_n 1, 1), (8, .new 10, 3), (11, .dup, 1), (12, .invokespecial 12, 3), (15, .astore_n 2, 1), (16, .iconst 0, 1), (17, .istore_n 3, 1), (18, .iload_n 3, 1), (19, .aload_n 0, 1), (20, .arraylength, 1), (21, .bipush 6, 2), (23, .isub, 1), (24, .if_icmp .gt 1354, 3), (27, .aload_n 0, 1), (28, .iload_n 3, 1), (29, .iaload, 1), (30, .bipush 63, 2), (32, .iand, 1), (33, .tableswitch 1339 0 38 #[171, 214, 257, 320, 343, 366, 379, 392, 405, 428, 461, 494, 527, 550, 583, 616, 659, 692, 715, 738, 761, 784, 807, 840, 863, 896, 929, 972, 1005, 1058, 1102, 1145, 1168, 1191, 1214, 1247, 1280, 1303, 1326], 171), (1372, .iinc 3 6, 3), (1375, .goto (-1357), 3), (1378, .iconst 1, 1), (1379, .ireturn, 1)]
theorem pL_head : pj_tab code PL_head = true := by decide +kernel
section
variable {p : Program} {l : Launch} {e : Env} {s : State} {m : MethodId} {below : List Frame} {meth : Method} {c : Code} {b L : Nat} {xs : Nat → Int32} {E : pj_E}
theorem gd_loop (S : gd_LS p s m c b) (hX : va_X b L xs s s.heap) (hbl : b < s.heap.size) (hW : pj_WF E s) (hL4 : L ≤ 384) (hr : meth.sig.returnType = ret) (hk : meth.locks = false) : ∀ k i h n ce sl, L - i < k → i ≤ L → gd_SX h s.heap.size n → ce ≤ 1000 + 3 * i → sl ≤ 10000 + 24 * i → gd_LU p l e s m below meth c b E 18 [some (.ref b), some (.ref s.heap.size), some (.ref (s.heap.size + 22)), some (.int (nI i))] [] h n ce sl := by
  intro k
  induction k with
  | zero => intro i h n ce sl hi; omega
  | succ k ih =>
    intro i h n ce sl hi hle hS hc hs
    refine gd_lild S (pj_d pL_head 10 rfl) (q := 19) rfl rfl ?_
    refine gd_lald S (pj_d pL_head 11 rfl) (q := 20) rfl rfl ?_
    refine gd_lslen S hX hbl (pj_d pL_head 12 rfl) (q := 21) rfl ?_
    refine gd_lbipush S (pj_d pL_head 13 rfl) (q := 23) (v := nI 6) rfl (by decide) ?_
    refine gd_lisub S (pj_d pL_head 14 rfl) (q := 24) rfl ?_
    refine gd_licmpgt S (pj_d pL_head 15 rfl) (q := 27) (t := 1378) rfl (by decide) (fun c1 => ?_) (fun c1 => ?_)
    · refine gd_liconst S (pj_d pL_head 24 rfl) (q := 1379) (v := 1) rfl (by decide) ?_
      exact gd_lend S hr hk (pj_d pL_head 25 rfl) (by omega) (by omega)
    have hi6 : i + 6 ≤ L := by
      rw [Int32.lt_iff_toInt_lt, pk_sub_toInt (by omega) (by omega), nI_toInt (by omega)] at c1
      omega
    refine gd_lald S (pj_d pL_head 16 rfl) (q := 28) rfl rfl ?_
    refine gd_lild S (pj_d pL_head 17 rfl) (q := 29) rfl rfl ?_
    refine gd_lsld S hX hbl (j := i) (by omega) hL4 (pj_d pL_head 18 rfl) (q := 30) rfl ?_
    refine gd_lbipush S (pj_d pL_head 19 rfl) (q := 32) (v := nI 63) rfl (by decide) ?_
    refine gd_liand S (pj_d pL_head 20 rfl) (q := 33) rfl ?_
    obtain ⟨j, hj, ej⟩ := pk_andE (xs i) (m := nI 63) 6 (by decide)
    rw [ej]
    have kk : ∀ h' n', gd_SX h' s.heap.size n' → gd_LU p l e s m below meth c b E 1372 [some (.ref b), some (.ref s.heap.size), some (.ref (s.heap.size + 22)), some (.int (nI i))] [] h' n' (ce + 16) (sl + 143) := by
      intro h' n' hS'
      refine gd_liinc3 S (pj_d pL_head 22 rfl) (q := 1375) (v := nI 6) rfl rfl (by decide) ?_
      rw [nI_add]
      refine gd_lgoto S (pj_d pL_head 23 rfl) (t := 18) (by decide) ?_
      exact ih (i + 6) h' n' _ _ (by omega) hi6 hS' (by omega) (by omega)
    by_cases j38 : 38 < j
    · refine gd_ltabOut S (pj_d pL_head 21 rfl) (t := 1372) (Or.inr (by rw [nI_toInt (by omega)]; omega)) (by decide) ?_
      exact gd_lwid (by omega) (by omega) (kk h n hS)
    rcases (show j = 0 ∨ j = 1 ∨ j = 2 ∨ j = 3 ∨ j = 4 ∨ j = 5 ∨ j = 6 ∨ j = 7 ∨ j = 8 ∨ j = 9 ∨ j = 10 ∨ j = 11 ∨ j = 12 ∨ j = 13 ∨ j = 14 ∨ j = 15 ∨ j = 16 ∨ j = 17 ∨ j = 18 ∨ j = 19 ∨ j = 20 ∨ j = 21 ∨ j = 22 ∨ j = 23 ∨ j = 24 ∨ j = 25 ∨ j = 26 ∨ j = 27 ∨ j = 28 ∨ j = 29 ∨ j = 30 ∨ j = 31 ∨ j = 32 ∨ j = 33 ∨ j = 34 ∨ j = 35 ∨ j = 36 ∨ j = 37 ∨ j = 38 by omega) with rfl | rfl | rfl | rfl | rfl | rfl | rfl | rfl | rfl | rfl | rfl | rfl | rfl | rfl | rfl | rfl | rfl | rfl | rfl | rfl | rfl | rfl | rfl | rfl | rfl | rfl | rfl | rfl | rfl | rfl | rfl | rfl | rfl | rfl | rfl | rfl | rfl | rfl | rfl
    · refine gd_ltabIn S (pj_d pL_head 21 rfl) (t := 204) (off := 171) (by decide) (by decide) (by rfl) (by decide) ?_
      exact lc_row S hX hbl hW hL4 hi6 hS (by omega) (by omega) kk
    · refine gd_ltabIn S (pj_d pL_head 21 rfl) (t := 247) (off := 214) (by decide) (by decide) (by rfl) (by decide) ?_
      exact lc_set S hX hbl hW hL4 hi6 hS (by omega) (by omega) kk
    · refine gd_ltabIn S (pj_d pL_head 21 rfl) (t := 290) (off := 257) (by decide) (by decide) (by rfl) (by decide) ?_
      exact lc_copy S hX hbl hW hL4 hi6 hS (by omega) (by omega) kk
    · refine gd_ltabIn S (pj_d pL_head 21 rfl) (t := 353) (off := 320) (by decide) (by decide) (by rfl) (by decide) ?_
      exact lc_drop S hX hbl hW hL4 hi6 hS (by omega) (by omega) kk
    · refine gd_ltabIn S (pj_d pL_head 21 rfl) (t := 376) (off := 343) (by decide) (by decide) (by rfl) (by decide) ?_
      exact lc_feed S hX hbl hW hL4 hi6 hS (by omega) (by omega) kk
    · refine gd_ltabIn S (pj_d pL_head 21 rfl) (t := 399) (off := 366) (by decide) (by decide) (by rfl) (by decide) ?_
      exact lc_town S hX hbl hW hL4 hi6 hS (by omega) (by omega) kk
    · refine gd_ltabIn S (pj_d pL_head 21 rfl) (t := 412) (off := 379) (by decide) (by decide) (by rfl) (by decide) ?_
      exact lc_fault S hX hbl hW hL4 hi6 hS (by omega) (by omega) kk
    · refine gd_ltabIn S (pj_d pL_head 21 rfl) (t := 425) (off := 392) (by decide) (by decide) (by rfl) (by decide) ?_
      exact lc_undo S hX hbl hW hL4 hi6 hS (by omega) (by omega) kk
    · refine gd_ltabIn S (pj_d pL_head 21 rfl) (t := 438) (off := 405) (by decide) (by decide) (by rfl) (by decide) ?_
      exact lc_days S hX hbl hW hL4 hi6 hS (by omega) (by omega) kk
    · refine gd_ltabIn S (pj_d pL_head 21 rfl) (t := 461) (off := 428) (by decide) (by decide) (by rfl) (by decide) ?_
      exact lc_paint S hX hbl hW hL4 hi6 hS (by omega) (by omega) kk
    · refine gd_ltabIn S (pj_d pL_head 21 rfl) (t := 494) (off := 461) (by decide) (by decide) (by rfl) (by decide) ?_
      exact lc_miss S hX hbl hW hL4 hi6 hS (by omega) (by omega) kk
    · refine gd_ltabIn S (pj_d pL_head 21 rfl) (t := 527) (off := 494) (by decide) (by decide) (by rfl) (by decide) ?_
      exact lc_thing S hX hbl hW hL4 hi6 hS (by omega) (by omega) kk
    · refine gd_ltabIn S (pj_d pL_head 21 rfl) (t := 560) (off := 527) (by decide) (by decide) (by rfl) (by decide) ?_
      exact lc_missing S hX hbl hW hL4 hi6 hS (by omega) (by omega) kk
    · refine gd_ltabIn S (pj_d pL_head 21 rfl) (t := 583) (off := 550) (by decide) (by decide) (by rfl) (by decide) ?_
      exact lc_pair S hX hbl hW hL4 hi6 hS (by omega) (by omega) kk
    · refine gd_ltabIn S (pj_d pL_head 21 rfl) (t := 616) (off := 583) (by decide) (by decide) (by rfl) (by decide) ?_
      exact lc_look S hX hbl hW hL4 hi6 hS (by omega) (by omega) kk
    · refine gd_ltabIn S (pj_d pL_head 21 rfl) (t := 649) (off := 616) (by decide) (by decide) (by rfl) (by decide) ?_
      exact lc_alike S hX hbl hW hL4 hi6 hS (by omega) (by omega) kk
    · refine gd_ltabIn S (pj_d pL_head 21 rfl) (t := 692) (off := 659) (by decide) (by decide) (by rfl) (by decide) ?_
      exact lc_like S hX hbl hW hL4 hi6 hS (by omega) (by omega) kk
    · refine gd_ltabIn S (pj_d pL_head 21 rfl) (t := 725) (off := 692) (by decide) (by decide) (by rfl) (by decide) ?_
      exact lc_looks S hX hbl hW hL4 hi6 hS (by omega) (by omega) kk
    · refine gd_ltabIn S (pj_d pL_head 21 rfl) (t := 748) (off := 715) (by decide) (by decide) (by rfl) (by decide) ?_
      exact lc_harm S hX hbl hW hL4 hi6 hS (by omega) (by omega) kk
    · refine gd_ltabIn S (pj_d pL_head 21 rfl) (t := 771) (off := 738) (by decide) (by decide) (by rfl) (by decide) ?_
      exact lc_harms S hX hbl hW hL4 hi6 hS (by omega) (by omega) kk
    · refine gd_ltabIn S (pj_d pL_head 21 rfl) (t := 794) (off := 761) (by decide) (by decide) (by rfl) (by decide) ?_
      exact lc_week S hX hbl hW hL4 hi6 hS (by omega) (by omega) kk
    · refine gd_ltabIn S (pj_d pL_head 21 rfl) (t := 817) (off := 784) (by decide) (by decide) (by rfl) (by decide) ?_
      exact lc_bestPaint S hX hbl hW hL4 hi6 hS (by omega) (by omega) kk
    · refine gd_ltabIn S (pj_d pL_head 21 rfl) (t := 840) (off := 807) (by decide) (by decide) (by rfl) (by decide) ?_
      exact lc_dyes S hX hbl hW hL4 hi6 hS (by omega) (by omega) kk
    · refine gd_ltabIn S (pj_d pL_head 21 rfl) (t := 873) (off := 840) (by decide) (by decide) (by rfl) (by decide) ?_
      exact lc_thief S hX hbl hW hL4 hi6 hS (by omega) (by omega) kk
    · refine gd_ltabIn S (pj_d pL_head 21 rfl) (t := 896) (off := 863) (by decide) (by decide) (by rfl) (by decide) ?_
      exact lc_seen S hX hbl hW hL4 hi6 hS (by omega) (by omega) kk
    · refine gd_ltabIn S (pj_d pL_head 21 rfl) (t := 929) (off := 896) (by decide) (by decide) (by rfl) (by decide) ?_
      exact lc_shelf S hX hbl hW hL4 hi6 hS (by omega) (by omega) kk
    · refine gd_ltabIn S (pj_d pL_head 21 rfl) (t := 962) (off := 929) (by decide) (by decide) (by rfl) (by decide) ?_
      exact lc_parted S hX hbl hW hL4 hi6 hS (by omega) (by omega) kk
    · refine gd_ltabIn S (pj_d pL_head 21 rfl) (t := 1005) (off := 972) (by decide) (by decide) (by rfl) (by decide) ?_
      exact lc_merged S hX hbl hW hL4 hi6 hS (by omega) (by omega) kk
    · refine gd_ltabIn S (pj_d pL_head 21 rfl) (t := 1038) (off := 1005) (by decide) (by decide) (by rfl) (by decide) ?_
      exact lc_tests S hX hbl hW hL4 hi6 hS (by omega) (by omega) kk
    · refine gd_ltabIn S (pj_d pL_head 21 rfl) (t := 1091) (off := 1058) (by decide) (by decide) (by rfl) (by decide) ?_
      exact lc_bet S hX hbl hW hL4 hi6 hS (by omega) (by omega) kk
    · refine gd_ltabIn S (pj_d pL_head 21 rfl) (t := 1135) (off := 1102) (by decide) (by decide) (by rfl) (by decide) ?_
      exact lc_year S hX hbl hW hL4 hi6 hS (by omega) (by omega) kk
    · refine gd_ltabIn S (pj_d pL_head 21 rfl) (t := 1178) (off := 1145) (by decide) (by decide) (by rfl) (by decide) ?_
      exact lc_image S hX hbl hW hL4 hi6 hS (by omega) (by omega) kk
    · refine gd_ltabIn S (pj_d pL_head 21 rfl) (t := 1201) (off := 1168) (by decide) (by decide) (by rfl) (by decide) ?_
      exact lc_restore S hX hbl hW hL4 hi6 hS (by omega) (by omega) kk
    · refine gd_ltabIn S (pj_d pL_head 21 rfl) (t := 1224) (off := 1191) (by decide) (by decide) (by rfl) (by decide) ?_
      exact lc_kind S hX hbl hW hL4 hi6 hS (by omega) (by omega) kk
    · refine gd_ltabIn S (pj_d pL_head 21 rfl) (t := 1247) (off := 1214) (by decide) (by decide) (by rfl) (by decide) ?_
      exact lc_as S hX hbl hW hL4 hi6 hS (by omega) (by omega) kk
    · refine gd_ltabIn S (pj_d pL_head 21 rfl) (t := 1280) (off := 1247) (by decide) (by decide) (by rfl) (by decide) ?_
      exact lc_ask S hX hbl hW hL4 hi6 hS (by omega) (by omega) kk
    · refine gd_ltabIn S (pj_d pL_head 21 rfl) (t := 1313) (off := 1280) (by decide) (by decide) (by rfl) (by decide) ?_
      exact lc_trace S hX hbl hW hL4 hi6 hS (by omega) (by omega) kk
    · refine gd_ltabIn S (pj_d pL_head 21 rfl) (t := 1336) (off := 1303) (by decide) (by decide) (by rfl) (by decide) ?_
      exact lc_count S hX hbl hW hL4 hi6 hS (by omega) (by omega) kk
    · refine gd_ltabIn S (pj_d pL_head 21 rfl) (t := 1359) (off := 1326) (by decide) (by decide) (by rfl) (by decide) ?_
      exact lc_status S hX hbl hW hL4 hi6 hS (by omega) (by omega) kk
end
theorem whole_start {p : Program} {e : Env} {s : State} {m : MethodId} {below : List Frame} {meth : Method} {c : Code} (l : Launch) (hflags : l.flags = flags0) {b L : Nat} {xs : Nat → Int32} (hL : L ≤ 384) (C0 : lw_At p s m meth c b L xs) : W p l e room_1 s m #[Value.ref b] below meth c s.heap [] 0 0 (lw_Z below #[Value.ref b] s) (entryFrame m ([Value.ref b] : List Value).toArray 4) := by
  obtain ⟨hx, hb, hr, hml, hown, hts, hX, hbl, hlocks, hgv⟩ := id C0
  obtain ⟨E, hW⟩ := gd_WF0 C0
  have S : gd_LS p s m c b := ⟨hx, hb, hml, hown, hts⟩
  have main : gd_LU p l e s m below meth c b E 0 [some (.ref b), none, none, none] [] (fun _ => none) s.heap.size 0 0 := by
    refine gd_lnew S hW (ci := 10) (fs := [.null, .null, .null, .null, .null, .null, .int 0, .int 0]) (pj_d pL_head 0 rfl) (q := 3) rfl kL_7 iX11 zX11 rfl tyX11 tyX11_ok (fun j hj => by match j, hj with | 0, _ => rfl | 1, _ => rfl | 2, _ => rfl | 3, _ => rfl | 4, _ => rfl | 5, _ => rfl | 6, _ => rfl | 7, _ => rfl | j + 8, hj => exact absurd hj (by omega)) (Nat.le_refl _) (by omega) (by omega) ?_
    refine gd_ldup S (pj_d pL_head 1 rfl) (q := 4) rfl rfl ?_
    refine gd_lI S hW (c_X11_init (a := s.heap.size) pj_up_s rfl (Nat.le_refl _)) (pj_d pL_head 2 rfl) (q := 7) rfl kL_9 o_X11_init (by rfl) (by rfl) (Nat.le_of_ble_eq_true rfl) (by decide) (by omega) (by omega) ?_
    rintro r1 h1 n1 ⟨rfl, rfl, x0, x1, x2, x3, x4, x5, x6, xq⟩
    refine gd_last1 S (pj_d pL_head 3 rfl) (q := 8) rfl rfl ?_
    refine gd_lnew S hW (ci := 11) (fs := [.int 0, .int 0, .null, .null, .null, .null, .null, .null, .int 0, .null, .int 0, .int 0, .int 0, .int 0, .int 0, .int 0, .int 0, .int 0, .null, .null, .null, .null, .null, .int 0]) (pj_d pL_head 4 rfl) (q := 11) rfl kL_10 iX12 zX12 rfl tyX12 tyX12_ok (fun j hj => by match j, hj with | 0, _ => rfl | 1, _ => rfl | 2, _ => rfl | 3, _ => rfl | 4, _ => rfl | 5, _ => rfl | 6, _ => rfl | 7, _ => rfl | 8, _ => rfl | 9, _ => rfl | 10, _ => rfl | 11, _ => rfl | 12, _ => rfl | 13, _ => rfl | 14, _ => rfl | 15, _ => rfl | 16, _ => rfl | 17, _ => rfl | 18, _ => rfl | 19, _ => rfl | 20, _ => rfl | 21, _ => rfl | 22, _ => rfl | 23, _ => rfl | j + 24, hj => exact absurd hj (by omega)) (by omega) (by omega) (by omega) ?_
    refine gd_ldup S (pj_d pL_head 5 rfl) (q := 12) rfl rfl ?_
    refine gd_lI S hW (c_X12_init (g := s.heap.size + 22) pj_up_s rfl (by omega)) (pj_d pL_head 6 rfl) (q := 15) rfl kL_12 o_X12_init (by rfl) (by rfl) (Nat.le_of_ble_eq_true rfl) (by decide) (by omega) (by omega) ?_
    rintro r2 h2 n2 ⟨rfl, rfl, y0, y1, y4, y5, y6, y7, y8, y9, y10, y11, y12, yq⟩
    refine gd_last2 S (pj_d pL_head 7 rfl) (q := 16) rfl rfl ?_
    refine gd_liconst S (pj_d pL_head 8 rfl) (q := 17) (v := nI 0) rfl (by decide) ?_
    refine gd_list3 S (pj_d pL_head 9 rfl) (q := 18) rfl rfl ?_
    have z : (fun j => nI ((fun _ => 0 : Nat → Nat) j)) = fun _ => (0 : Int32) := funext fun _ => nI_0
    have C1 : gd_CI h1 s.heap.size (s.heap.size + 22 + 13) (0, (fun _ => -1), (fun _ => 0), (fun _ _ => 0)) ((fun _ => 0), 0) 0 ((fun _ => 0), (fun _ _ => 0), 0) (fun _ => none) ((fun _ => 0), 0) := ⟨none, (0, 0, 0), (fun _ => none), 0, x0, x1, x2, by rw [z]; exact x3, x4, x5, ⟨x6, fun i _ => Or.inl ⟨rfl, rfl⟩⟩, ⟨rfl, rfl⟩, (fun i k κ k' _ q => by cases q), by omega⟩
    have C2 := C1.out (h' := h2) (Nat.le_refl _) (fun q q1 => by rw [yq q (by omega), pj_up_n (by omega)])
    have M2 : gd_MI h2 (s.heap.size + 22) (0, (fun _ => -1), (fun _ => 0), (fun _ _ => 0)) ((fun _ => 0), 0) 0 ((fun _ => 0), (fun _ _ => 0), 0) (fun _ => none) ((fun _ => 0), 0) := ⟨fun _ => 0, y0, ⟨nI_0.symm, rfl, nI_0.symm, nI_0.symm, rfl, nI_0.symm⟩, y1, by rw [z]; exact y4, ⟨_, y5⟩, ⟨_, y6, fun j k hj => absurd hj (Nat.not_lt_zero j)⟩, by rw [z]; exact y7, ⟨_, y8⟩, ⟨_, y9⟩, ⟨_, _, y10, y11, fun i _ => Or.inl ⟨rfl, rfl⟩⟩, y12⟩
    have U2 : gd_PU (0, (fun _ => -1), (fun _ => 0), (fun _ _ => 0)) ((fun _ => 0), 0) ((fun _ => 0), (fun _ _ => 0), 0) ((fun _ => 0), 0) := ⟨fun r _ => ⟨Or.inl rfl, Nat.zero_le _⟩, Nat.zero_le _, fun _ => Nat.zero_lt_succ _, ⟨⟨Nat.zero_le _, Nat.zero_le _, Nat.zero_le _, fun _ _ => Nat.zero_le _, fun i hi => absurd hi (Nat.not_lt_zero i), fun i hi => absurd hi (Nat.not_lt_zero i), fun i j _ hi => absurd hi (Nat.not_lt_zero j)⟩, Nat.zero_le _, Nat.zero_le _, Or.inr rfl, fun j hj => absurd hj (Nat.not_lt_zero j)⟩, fun _ => ⟨rfl, rfl⟩, Nat.zero_le _⟩
    exact gd_loop S hX hbl hW hL hr hlocks (L + 1) 0 h2 _ _ _ (by omega) (Nat.zero_le _) ⟨_, _, _, _, _, _, C2, M2, U2⟩ (by omega) (by omega)
  have hl := lv_entry ([.ref b]) (n := 4) (Nat.le_of_ble_eq_true rfl)
  rw [lg_entry_eq]
  generalize (lg_sl ([.ref b]) ++ List.replicate (4 - (lg_sl ([.ref b])).length) Slot.unset).toArray = la at hl ⊢
  have hl : lv_has la 4 [(0, .ref b)] := hl
  exact main s.heap [] la ⟨rfl, fun a cc q => by cases q⟩ va_S.rf ⟨hl, rfl⟩
set_option maxHeartbeats 4000000 in
theorem lw_walk (l : Launch) (hflags : l.flags = flags0) (b : Addr) (xs : List Int32) : MetFree l x (headSpec (Jvm.Cond.code x code maxLocals ret :: tables_1) room_1) (lw_P b xs) (fun _ _ _ _ _ => True) lw_Q := by
  refine MetFree.of_bodyS (code := code) (maxLocals := maxLocals) (ret := ret) (by decide) ?_ ?_
  · intro args s m h hn
    obtain ⟨meth, c, h1, h2, h3, h4, h5, h6, -, -⟩ := Cond.code_spec hn (atoms_spec (ws := Jvm.Cond.code x code maxLocals ret :: tables_1) h _ List.mem_cons_self)
    exact ⟨meth, c, h1, h2, h3, h4, h5, h6⟩
  · intro p e s m args below meth c s₁ B hml0 hP _
    obtain ⟨rfl, hx, hbd, hgv⟩ := hP
    obtain ⟨scr, harrAt, hlist, hof, hsmall⟩ := hx
    obtain ⟨hcb, hkn, -, -⟩ := State.arrayAt?_spec harrAt
    have hown : s.vm.findClass R_law = some m.cls := findClass_of_methodNamed B.named
    have hts0 : ∀ c ∈ (Jvm.Cond.code x code maxLocals ret :: tables_1), c.before #[Value.ref b] s = true := atoms_spec (ws := Jvm.Cond.code x code maxLocals ret :: tables_1) B.pre
    have hts : ∀ w ∈ lw_tbl, w.before #[Value.ref b] s = true := k2_hts_sels lw_privs (fun w hw => hts0 w (List.mem_cons_of_mem _ hw)) lw_privs_ok
    have hml : c.maxLocals = 4 := B.maxLocals_eq (hts0 _ List.mem_cons_self)
    have X₀ : Stand p l e room_1 s m #[Value.ref b] below meth c s₁ [] 0 0 := Stand.of_body B
    have hh0 : s₁.heap = s.heap := by rw [B.state]; rfl
    have hsz : scr.slots.size = xs.length := by rw [← Array.length_toList, hlist, List.length_map]
    have hval : ∀ j : Nat, j < xs.length → scr.slots[j]? = some (.int (xs.getD j 0)) := fun j hj => by
      rw [← Array.getElem?_toList, hlist]
      simp [hj]
    have hbl : b < s.heap.size := (Array.getElem?_eq_some_iff.mp hcb).1
    have hX : va_X b xs.length (fun j => xs.getD j 0) s s.heap := ⟨scr, hcb, hof, hkn, hsz, hval⟩
    have K : W p l e room_1 s m #[Value.ref b] below meth c s₁.heap [] 0 0 (lw_Z below #[Value.ref b] s) (entryFrame m ([Value.ref b] : List Value).toArray 4) := by
      rw [hh0]
      exact whole_start l hflags hbd ⟨B.exec, B.bytes, B.returns, hml, hown, hts, hX, hbl, B.notSynchronized, hgv⟩
    obtain ⟨t, a1, o, b1, b2, b3⟩ := K s₁ rfl X₀
    exact ⟨t, o, a1, b1, b2, b3⟩
theorem lw_pre_spec {args : Array Value} {s : State} (h : (Jvm.Cond.and given_1 narrow_1).before args s = true) (hr : rest_1_c.before args s = true) : ∃ (b : Addr) (xs : List Int32), lw_P b xs args s := by
  have hs := flat_of_before _ h
  have hq := flat_of_before _ hr
  have hc : (Cond.count 1).before args s = true := hs _ (by decide +kernel)
  have harr : (Cond.arrayOf (.arg 0) .int).before args s = true := hs _ (by decide +kernel)
  have hle : (Cond.le (.length (.arg 0)) (.int 384)).before args s = true := hs _ (by decide +kernel)
  have hlen : (Cond.isInt (.length (.arg 0))).before args s = true := hq _ (by decide +kernel)
  have hall : (Cond.all (.arg 0) (.isInt (.elem (.arg 0) (.index 0)))).before args s = true := hq _ (by decide +kernel)
  obtain ⟨b, xs, hb, hx⟩ := State.ints_of_pre rfl harr hlen hall
  have hsm : xs.length < 2 ^ 31 := hx.choose_spec.2.2.2
  have hev : (Term.length (.arg 0)).eval args s none [] s = some (.int xs.length.toInt32) := hx.length_eval hb
  have hv := Cond.le_ints hev (show (Term.int 384).eval args s none [] s = some (.int 384) from rfl)
  have hd : xs.length.toInt32 ≤ 384 := by
    simpa [Cond.before, Cond.holds, hv] using hle
  have hN : xs.length ≤ 384 := (Int32.ofNat_le_ofNat hsm (by decide)).mp (show Int32.ofNat xs.length ≤ Int32.ofNat 384 from hd)
  exact ⟨b, xs, Cond.one_arg hc (show args[0]? = some (.ref b) from hb), hx, hN, h⟩
theorem lw_comes (l : Launch) (hflags : l.flags = flags0) : Comes l x (Jvm.Cond.code x code maxLocals ret :: tables_1) room_1 (fun tb e args s => Calls_1 tb e args s ∧ rest_1 tb e args s ∧ Pre_1 tb e args s)
    (fun _ _ args s o t => lw_Q args s o t) := by
  intro p e ha hc hk s m args below hf hfit hheap happ hpre
  obtain ⟨b, xs, hP⟩ := lw_pre_spec hpre.2.2 hpre.2.1
  obtain ⟨k, o, h1, h2, h3, hQ⟩ := lw_walk l hflags b xs p e ha hc hk s m args below hf ((Spec.applies_iff_loose hf).mp happ).1 hP trivial
  exact ⟨k, o, h1, h2, h3, hQ⟩
theorem lw_frame {s t : State} {o : Outcome} {args : Array Value} (h : Framed s o t [] 600000 7302250) :
    Framed s o t (fieldLocs frame_1_writes args s ++ arrayLocs frame_1_arrays args s ++ staticLocs frame_1_statics s) 600000 7302250 := h
theorem lw_limb (L : Cond) (hL : ∀ (args : Array Value) (s t : State), L.after args s (.returned (some (.int 1))) t = true) :
    ArmFor flags0 classFile x code maxLocals ret World_1 tables_1 room_1 Calls_1 rest_1 Pre_1
      (fun tb e a s o t => postC L tb e a s o t ∧ Framed s o t (fieldLocs frame_1_writes a s ++ arrayLocs frame_1_arrays a s ++ staticLocs frame_1_statics s) 600000 7302250) := by
  intro l hflags _ _ p e ha hc hk s m args below hf hfit hheap happ hpre
  obtain ⟨k, o, h1, h2, h3, rfl, hF⟩ := lw_comes l hflags p e ha hc hk s m args below hf hfit hheap happ hpre
  exact ⟨k, _, h1, h2, h3, hL args s _, lw_frame hF⟩
theorem i_vc : Claimed_1_1 ∧ Claimed_1_2 := ⟨lw_limb limb_1_1 (fun args s t => by simp [limb_1_1, Cond.after, Cond.holds, Cond.value]), lw_limb limb_1_2 (fun args s t => Cond.after_iff.mpr (by
  first | (rw [show limb_1_2 = Cond.eq .result (.int 1) from rfl, Cond.eq_ints (x := 1) (y := 1) rfl rfl]; simp; done) | (simp [limb_1_2, Cond.value, Term.eval]; done)))⟩
