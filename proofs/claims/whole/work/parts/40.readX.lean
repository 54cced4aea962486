/-! ===== how a town is read: pure words; the class's readers ===== -/
abbrev gd_RS : Type := gd_PS × (Nat → Nat)
def gd_rT1 (c : Nat → Nat) (L : Nat) (S : gd_PS) : Nat × gd_PS := gd_tn c L 0 31 (S.1 + 1, S.2)
def gd_rT2 (c : Nat → Nat) (L : Nat) (S : gd_PS) : Nat × gd_PS := gd_tn c L 0 3 (gd_tb c L 44 (gd_rT1 c L S).2)
def gd_rT3 (c : Nat → Nat) (L : Nat) (S : gd_PS) : gd_PS := gd_tb c L 59 (gd_rT2 c L S).2
def gd_rT (c : Nat → Nat) (L kd : Nat) (s : gd_RS) : gd_RS := (gd_rT3 c L s.1, if (gd_rT3 c L s.1).2.1 = 0 then gd_addT s.2 kd (gd_rT1 c L s.1).1 (gd_rT2 c L s.1).1 else s.2)
def gd_ths (c : Nat → Nat) (L : Nat) : Nat → gd_RS → gd_RS
  | 0, s => s
  | m + 1, s => if s.1.2.1 = 0 then (if gd_ks c L s.1.1 = 0 then s else if s.2 1 = 7 then (gd_fa s.1 s.1.1 3, s.2) else gd_ths c L m (gd_rT c L (gd_ks c L s.1.1) s)) else s
def gd_rP1 (c : Nat → Nat) (L : Nat) (s : gd_RS) : Nat × gd_PS := gd_tn c L 0 ((s.2 1 : Int) - 1) (s.1.1 + 1, s.1.2)
def gd_rP2 (c : Nat → Nat) (L : Nat) (s : gd_RS) : gd_PS := gd_tb c L 44 (gd_rP1 c L s).2
def gd_rP3 (c : Nat → Nat) (L : Nat) (s : gd_RS) : Nat × gd_PS := gd_tn c L 0 ((s.2 1 : Int) - 1) (gd_rP2 c L s)
def gd_rP4 (c : Nat → Nat) (L : Nat) (s : gd_RS) : gd_PS := if (gd_rP1 c L s).1 = (gd_rP3 c L s).1 ∨ gd_pair s.2 (gd_rP1 c L s).1 (gd_rP3 c L s).1 ≠ 0 then gd_fa (gd_rP3 c L s).2 (gd_rP2 c L s).1 2 else (gd_rP3 c L s).2
def gd_rP5 (c : Nat → Nat) (L : Nat) (s : gd_RS) : Nat × gd_PS := gd_tn c L 1 20 (gd_tb c L 44 (gd_rP4 c L s))
def gd_rP6 (c : Nat → Nat) (L : Nat) (s : gd_RS) : gd_PS := gd_tb c L 59 (gd_rP5 c L s).2
def gd_rP (c : Nat → Nat) (L : Nat) (s : gd_RS) : gd_RS := (gd_rP6 c L s, if (gd_rP6 c L s).2.1 = 0 then gd_addP s.2 (gd_rP1 c L s).1 (gd_rP3 c L s).1 (gd_rP5 c L s).1 else s.2)
def gd_prs (c : Nat → Nat) (L : Nat) : Nat → gd_RS → gd_RS
  | 0, s => s
  | m + 1, s => if s.1.2.1 = 0 ∧ s.1.1 < L ∧ c s.1.1 = 109 then (if s.2 2 = 8 then (gd_fa s.1 s.1.1 3, s.2) else gd_prs c L m (gd_rP c L s)) else s
def gd_wS (c : Nat → Nat) (L i : Nat) (S : gd_PS) : gd_PS := if 0 < i then gd_tb c L 44 S else S
def gd_wk (c : Nat → Nat) (L : Nat) : Nat → gd_RS → gd_RS
  | 0, s => s
  | i + 1, s => ((gd_tn c L 0 5 (gd_wS c L i (gd_wk c L i s).1)).2, gd_set (gd_wk c L i s).2 (4 + i) (gd_tn c L 0 5 (gd_wS c L i (gd_wk c L i s).1)).1)
def gd_z0 : Nat → Nat := gd_set (fun _ => 0) 0 1
def gd_p1 (c : Nat → Nat) (L : Nat) : gd_RS := gd_wk c L 7 (gd_tb c L 99 (0, 0, 0), gd_z0)
def gd_p2 (c : Nat → Nat) (L : Nat) : gd_RS := gd_ths c L 8 (gd_tb c L 59 (gd_p1 c L).1, (gd_p1 c L).2)
def gd_p3 (c : Nat → Nat) (L : Nat) : gd_RS := gd_prs c L 9 (gd_p2 c L)
def gd_parse (c : Nat → Nat) (L : Nat) : gd_RS := (if (gd_p3 c L).1.1 < L then gd_fa (gd_p3 c L).1 (gd_p3 c L).1.1 1 else (gd_p3 c L).1, (gd_p3 c L).2)
theorem gd_tb_ok {c : Nat → Nat} {L x : Nat} {S : gd_PS} (h : (gd_tb c L x S).2.1 = 0) : S.2.1 = 0 := by
  rw [gd_tb] at h
  split at h
  · assumption
  · exact h
theorem gd_tn_ok {c : Nat → Nat} {L lo : Nat} {hi : Int} {S : gd_PS} (h : (gd_tn c L lo hi S).2.2.1 = 0) : S.2.1 = 0 ∧ lo ≤ (gd_tn c L lo hi S).1 ∧ ((gd_tn c L lo hi S).1 : Int) ≤ hi := by
  rw [gd_tn] at h ⊢
  split
  · rename_i e
    rw [if_pos e] at h
    split
    · rename_i e1
      rw [if_pos e1] at h
      split
      · rename_i e2
        exact ⟨e, e2⟩
      · rename_i e2
        rw [if_neg e2] at h
        exact absurd h (by show ¬ (2 : Nat) = 0; decide)
    · rename_i e1
      rw [if_neg e1] at h
      exact absurd h (by show ¬ (1 : Nat) = 0; decide)
  · rename_i e
    rw [if_neg e] at h
    exact absurd h e
theorem gd_tn_le {c : Nat → Nat} {L lo : Nat} {hi : Int} {S : gd_PS} (h : 0 ≤ hi) : ((gd_tn c L lo hi S).1 : Int) ≤ hi := by
  rw [gd_tn]
  split
  · split
    · split
      · rename_i e; exact e.2
      · exact h
    · exact h
  · exact h
theorem gd_tn_lt {c : Nat → Nat} {L lo : Nat} {hi : Int} {S : gd_PS} (hc : ∀ j, c j < 256) : (gd_tn c L lo hi S).1 < 5000 := by
  rw [gd_tn]
  split
  · split
    · split
      · exact gd_nv_lt hc
      · exact (by show 0 < 5000; decide)
    · exact (by show 0 < 5000; decide)
  · exact (by show 0 < 5000; decide)
theorem gd_fa_ok {S : gd_PS} {w k : Nat} (hk : k ≠ 0) (h : (gd_fa S w k).2.1 = 0) : False := by
  rw [gd_fa] at h
  split at h
  · exact hk h
  · rename_i e; exact e h
theorem gd_W_addT {τ : Nat → Nat} (hW : gd_W τ) {kd mx sh : Nat} (h7 : τ 1 < 7) (hk : 1 ≤ kd ∧ kd ≤ 5) (hm : mx < 32) (hs : sh < 4) : gd_W (gd_addT τ kd mx sh) := by
  obtain ⟨w1, w2, w3, w4, w5, w6, w7⟩ := hW
  have K := gd_addT_k (τ := τ) (kd := kd) (mx := mx) (sh := sh)
  have e1 : gd_addT τ kd mx sh 1 = τ 1 + 1 := rfl
  have e2 : gd_addT τ kd mx sh 2 = τ 2 := gd_addT_n (by omega) (by omega)
  refine ⟨by omega, by omega, by rw [gd_addT_n (by omega) (by omega)]; exact w3, fun j hj => by rw [gd_addT_n (by omega) (by omega)]; exact w4 j hj, fun i hi => ?_, fun j hj => ?_, fun i j hij hj => ?_⟩
  · rw [e1] at hi
    by_cases e : i = τ 1
    · subst e
      rw [K.1, K.2.1, K.2.2]
      exact ⟨hk, hm, hs⟩
    · rw [gd_addT_n (by omega) (by omega), gd_addT_n (by omega) (by omega), gd_addT_n (by omega) (by omega)]
      exact w5 i (by omega)
  · rw [e2] at hj
    obtain ⟨x1, x2, x3, x4, x5⟩ := w6 j hj
    rw [e1, gd_addT_n (j := 32 + 3 * j) (by omega) (by omega), gd_addT_n (j := 33 + 3 * j) (by omega) (by omega), gd_addT_n (j := 34 + 3 * j) (by omega) (by omega)]
    exact ⟨by omega, by omega, x3, x4, x5⟩
  · rw [e2] at hj
    rw [gd_addT_n (by omega) (by omega), gd_addT_n (by omega) (by omega), gd_addT_n (by omega) (by omega), gd_addT_n (by omega) (by omega)]
    exact w7 i j hij hj
theorem gd_pairF_0 {τ : Nat → Nat} {a b : Nat} : ∀ m i, (∀ j, i ≤ j → j < i + m → 1 ≤ τ (34 + 3 * j)) → (gd_pairF τ a b m i = 0 ↔ ∀ j, i ≤ j → j < i + m → ¬ (gd_of τ a j && gd_of τ b j) = true)
  | 0, i, _ => ⟨fun _ j h1 h2 => by omega, fun _ => rfl⟩
  | m + 1, i, h1 => by
    rw [gd_pairF]
    split
    · rename_i e
      refine ⟨fun q => ?_, fun q => absurd e (q i (by omega) (by omega))⟩
      have := h1 i (by omega) (by omega)
      omega
    · rename_i e
      rw [gd_pairF_0 m (i + 1) (fun j a1 a2 => h1 j (by omega) (by omega))]
      refine ⟨fun q j a1 a2 => ?_, fun q j a1 a2 => q j (by omega) (by omega)⟩
      by_cases e1 : j = i
      · rw [e1]; exact e
      · exact q j (by omega) (by omega)
theorem gd_pair_0 {τ : Nat → Nat} (hW : gd_W τ) {a b : Nat} : gd_pair τ a b = 0 ↔ ∀ j, j < τ 2 → ¬ (gd_of τ a j && gd_of τ b j) = true := by
  rw [gd_pair, gd_pairF_0 _ _ (fun j _ a2 => (hW.2.2.2.2.2.1 j (by omega)).2.2.2.1)]
  exact ⟨fun q j hj => q j (by omega) (by omega), fun q j _ hj => q j (by omega)⟩
theorem gd_pairF_le {τ : Nat → Nat} {a b : Nat} : ∀ m i, (∀ j, i ≤ j → j < i + m → τ (34 + 3 * j) ≤ 20) → gd_pairF τ a b m i ≤ 20
  | 0, i, _ => Nat.zero_le _
  | m + 1, i, h => by
    rw [gd_pairF]
    split
    · exact h i (by omega) (by omega)
    · exact gd_pairF_le m (i + 1) (fun j a1 a2 => h j (by omega) (by omega))
theorem gd_pair_lt {τ : Nat → Nat} (hW : gd_W τ) {a b : Nat} : gd_pair τ a b < 2 ^ 31 := by
  have := gd_pairF_le (a := a) (b := b) (τ 2) 0 (fun j _ a2 => (hW.2.2.2.2.2.1 j (by omega)).2.2.2.2)
  rw [gd_pair]
  omega
theorem gd_W_addP {τ : Nat → Nat} (hW : gd_W τ) {a b hm : Nat} (h8 : τ 2 < 8) (ha : a < τ 1) (hb : b < τ 1) (hab : a ≠ b) (h0 : gd_pair τ a b = 0) (hh : 1 ≤ hm ∧ hm ≤ 20) : gd_W (gd_addP τ a b hm) := by
  have hno := (gd_pair_0 hW).mp h0
  obtain ⟨w1, w2, w3, w4, w5, w6, w7⟩ := hW
  have K := gd_addP_k (τ := τ) (a := a) (b := b) (hm := hm)
  have e1 : gd_addP τ a b hm 1 = τ 1 := gd_addP_n (by omega) (by omega)
  have e2 : gd_addP τ a b hm 2 = τ 2 + 1 := rfl
  refine ⟨by omega, by omega, by rw [gd_addP_n (by omega) (by omega)]; exact w3, fun j hj => by rw [gd_addP_n (by omega) (by omega)]; exact w4 j hj, fun i hi => ?_, fun j hj => ?_, fun i j hij hj => ?_⟩
  · rw [e1] at hi
    rw [gd_addP_n (by omega) (by omega), gd_addP_n (by omega) (by omega), gd_addP_n (by omega) (by omega)]
    exact w5 i hi
  · rw [e2] at hj
    rw [e1]
    by_cases e : j = τ 2
    · subst e
      rw [K.1, K.2.1, K.2.2]
      exact ⟨ha, hb, hab, hh⟩
    · rw [gd_addP_n (by omega) (by omega), gd_addP_n (by omega) (by omega), gd_addP_n (by omega) (by omega)]
      exact w6 j (by omega)
  · rw [e2] at hj
    rw [gd_addP_n (show 32 + 3 * i ≠ 2 by omega) (by omega), gd_addP_n (show 33 + 3 * i ≠ 2 by omega) (by omega)]
    by_cases e : j = τ 2
    · subst e
      rw [K.1, K.2.1]
      have := hno i (by omega)
      rw [gd_two_of hab] at this
      exact ⟨fun q => this (Or.inl q), fun q => this (Or.inr q)⟩
    · rw [gd_addP_n (by omega) (by omega), gd_addP_n (by omega) (by omega)]
      exact w7 i j hij (by omega)
/-- what holds while a town is read -/
def gd_RW (L : Nat) (s : gd_RS) : Prop := gd_PB L s.1 ∧ gd_W s.2 ∧ s.2 0 = 1 ∧ s.2 3 = 0
theorem gd_RW_rT {c : Nat → Nat} {L kd : Nat} {s : gd_RS} (h : gd_RW L s) (hp : s.1.1 < L) (h7 : s.2 1 < 7) (hk : 1 ≤ kd ∧ kd ≤ 5) : gd_RW L (gd_rT c L kd s) := by
  obtain ⟨h1, h2, h3, h4⟩ := h
  have b1 : gd_PB L (s.1.1 + 1, s.1.2) := ⟨hp, h1.2⟩
  have b3 : gd_PB L (gd_rT3 c L s.1) := gd_PB_tb (gd_PB_tn (gd_PB_tb (gd_PB_tn b1)))
  rw [gd_rT]
  refine ⟨b3, ?_⟩
  dsimp only
  split
  · rename_i e
    have e2 := gd_tn_ok (gd_tb_ok e)
    have e1 := gd_tn_ok (gd_tb_ok e2.1)
    have m1 : (gd_rT1 c L s.1).1 < 32 := by have : ((gd_rT1 c L s.1).1 : Int) ≤ 31 := e1.2.2; omega
    have m2 : (gd_rT2 c L s.1).1 < 4 := by have : ((gd_rT2 c L s.1).1 : Int) ≤ 3 := e2.2.2; omega
    exact ⟨gd_W_addT h2 h7 hk m1 m2, by rw [gd_addT_n (by omega) (by omega)]; exact h3, by rw [gd_addT_n (by omega) (by omega)]; exact h4⟩
  · exact ⟨h2, h3, h4⟩
theorem gd_RW_rP {c : Nat → Nat} {L : Nat} {s : gd_RS} (h : gd_RW L s) (hp : s.1.1 < L) (h8 : s.2 2 < 8) : gd_RW L (gd_rP c L s) := by
  obtain ⟨h1, h2, h3, h4⟩ := h
  have b1 : gd_PB L (s.1.1 + 1, s.1.2) := ⟨hp, h1.2⟩
  have b2 : gd_PB L (gd_rP2 c L s) := gd_PB_tb (gd_PB_tn b1)
  have b3 : gd_PB L (gd_rP3 c L s).2 := gd_PB_tn b2
  have b4 : gd_PB L (gd_rP4 c L s) := by
    rw [gd_rP4]
    split
    · exact gd_PB_fa b3 b2.1 (by omega)
    · exact b3
  have b6 : gd_PB L (gd_rP6 c L s) := gd_PB_tb (gd_PB_tn (gd_PB_tb b4))
  rw [gd_rP]
  refine ⟨b6, ?_⟩
  dsimp only
  split
  · rename_i e
    have e5 := gd_tn_ok (gd_tb_ok e)
    have e4 := gd_tb_ok e5.1
    rw [gd_rP4] at e4
    split at e4
    · exact absurd e4 (fun q => gd_fa_ok (by decide) q)
    · rename_i ne
      have e3 := gd_tn_ok e4
      have e1 := gd_tn_ok (gd_tb_ok e3.1)
      have m1 : (gd_rP1 c L s).1 < s.2 1 := by have : ((gd_rP1 c L s).1 : Int) ≤ (s.2 1 : Int) - 1 := e1.2.2; omega
      have m3 : (gd_rP3 c L s).1 < s.2 1 := by have : ((gd_rP3 c L s).1 : Int) ≤ (s.2 1 : Int) - 1 := e3.2.2; omega
      have m5 : 1 ≤ (gd_rP5 c L s).1 ∧ (gd_rP5 c L s).1 ≤ 20 := by
        have a1 : 1 ≤ (gd_rP5 c L s).1 := e5.2.1
        have a2 : ((gd_rP5 c L s).1 : Int) ≤ 20 := e5.2.2
        omega
      exact ⟨gd_W_addP h2 h8 m1 m3 (fun q => ne (Or.inl q)) (Classical.byContradiction fun q => ne (Or.inr q)) m5, by rw [gd_addP_n (by omega) (by omega)]; exact h3, by rw [gd_addP_n (by omega) (by omega)]; exact h4⟩
  · exact ⟨h2, h3, h4⟩
theorem gd_RW_wk {c : Nat → Nat} {L : Nat} {s : gd_RS} (h : gd_RW L s) (h1 : s.2 1 = 0) (h2 : s.2 2 = 0) : ∀ i, i ≤ 7 → gd_RW L (gd_wk c L i s) ∧ (gd_wk c L i s).2 1 = 0 ∧ (gd_wk c L i s).2 2 = 0
  | 0, _ => ⟨h, h1, h2⟩
  | i + 1, hi => by
    obtain ⟨⟨x1, x2, x3, x4⟩, y1, y2⟩ := gd_RW_wk (c := c) h h1 h2 i (by omega)
    have b1 : gd_PB L (gd_wS c L i (gd_wk c L i s).1) := by
      rw [gd_wS]
      split
      · exact gd_PB_tb x1
      · exact x1
    rw [gd_wk]
    have := gd_tn_le (c := c) (L := L) (lo := 0) (hi := 5) (S := gd_wS c L i (gd_wk c L i s).1) (by decide)
    refine ⟨⟨gd_PB_tn b1, gd_W_col x2 (by omega) (by omega), ?_, ?_⟩, ?_, ?_⟩
    · exact (gd_set_n (by omega)).trans x3
    · exact (gd_set_n (by omega)).trans x4
    · exact (gd_set_n (by omega)).trans y1
    · exact (gd_set_n (by omega)).trans y2
theorem gd_kl_le (x : Nat) : gd_kl x ≤ 5 := by
  rw [gd_kl]
  repeat (split; omega)
  omega
theorem gd_ks_in {c : Nat → Nat} {L p : Nat} (h : ¬ gd_ks c L p = 0) : p < L ∧ 1 ≤ gd_ks c L p ∧ gd_ks c L p ≤ 5 := by
  rw [gd_ks] at h ⊢
  by_cases e : p < L
  · rw [if_pos e] at h ⊢
    have := gd_kl_le (c p)
    exact ⟨e, by omega, this⟩
  · rw [if_neg e] at h
    exact absurd rfl h
def gd_Pr (s' : gd_RS) (h : pj_H) (a k L : Nat) : Option Value → pj_H → Nat → Prop := fun r h' n' => r = none ∧ n' = k + 9 + s'.2 1 ∧ h' a = some (.inr (7, gd_tpc a L s'.1)) ∧ gd_T h' k s'.2 0 ∧ ∀ q, q ≠ a → (q < k ∨ (k + 6 ≤ q ∧ q ≤ k + 8)) → h' q = h q
section
variable {E : pj_E} {B : Nat} {l : Launch} {h : pj_H} {n a k L : Nat} {c : Nat → Nat} {s : gd_RS}
theorem c_X7_readThing (h0 : h a = some (.inr (7, gd_tpc a L s.1))) (hb : h (a + 1) = some (.inl (0, 120, .inl (fun j => nI (c j))))) (hL : L ≤ 120) (hc : ∀ j, c j < 256) (hS : gd_RW L s) (hT : gd_T h k s.2 0) (hak : a + 1 < k) (hn : n = k + 9 + s.2 1) (hB : B ≤ k) (hp : s.1.1 < L) (h7 : s.2 1 < 7) {kd : Nat} (hk : 1 ≤ kd ∧ kd ≤ 5) : pj_Ct E B l Y_X7_readThing 5 1 3 [.ref a, .ref k, .int (nI kd)] h n (gd_Pr (gd_rT c L kd s) h a k L) := by
  subst hn
  have b1 : gd_PB L (s.1.1 + 1, s.1.2) := ⟨hp, hS.1.2⟩
  have b2 : gd_PB L (gd_rT1 c L s.1).2 := gd_PB_tn b1
  have b3 : gd_PB L (gd_rT2 c L s.1).2 := gd_PB_tn (gd_PB_tb b2)
  have b4 : gd_PB L (gd_rT3 c L s.1) := gd_PB_tb b3
  have hbu : ∀ cell, pj_up h a cell (a + 1) = some (.inl (0, 120, .inl (fun j => nI (c j)))) := fun cell => (pj_up_n (by omega)).trans hb
  refine pj_in rfl (ls := [some (.ref a), some (.ref k), some (.int (nI kd)), none, none]) rfl (Nat.le_of_ble_eq_true rfl) ?_
  refine pj_ald0 (q := 1) (pj_d p_X7_readThing 0 rfl) rfl ?_
  refine pj_dup (q := 2) (pj_d p_X7_readThing 1 rfl) rfl rfl ?_
  refine pj_gf (q := 5) (k := 2) (pj_d p_X7_readThing 2 rfl) rfl kX7_23 (by first | assumption | exact pj_up_s | exact (pj_up_n (by omega)).trans (by assumption)) (by rfl) (by rfl) ?_
  refine pj_iconst (q := 6) (v := nI 1) (pj_d p_X7_readThing 3 rfl) rfl (by decide) ?_
  refine pj_iadd (q := 7) (pj_d p_X7_readThing 4 rfl) rfl ?_
  rw [nI_add]
  refine pj_pf (q := 10) (k := 2) (fs' := gd_tpc a L (s.1.1 + 1, s.1.2)) (pj_d p_X7_readThing 5 rfl) rfl kX7_23 (by first | assumption | exact pj_up_s | exact (pj_up_n (by omega)).trans (by assumption)) (by rfl) (Or.inl rfl) (by rfl) (by rfl) (by rfl) (by show 2 < 5; decide) (by rfl) ?_
  refine pj_ald0 (q := 11) (pj_d p_X7_readThing 6 rfl) rfl ?_
  refine pj_iconst (q := 12) (v := nI 0) (pj_d p_X7_readThing 7 rfl) rfl (by decide) ?_
  refine pj_bipush (q := 14) (v := nI 31) (pj_d p_X7_readThing 8 rfl) rfl (by decide) ?_
  refine pj_cv (pj_rV (q := 17) (c_X7_takeNumber pj_up_s (hbu _) hL hc b1 (lo := 0) (hi := nI 31) (hiI := 31) (by omega) (by decide)) (pj_d p_X7_readThing 9 rfl) rfl kX7_51 o_X7_takeNumber (by first | assumption | exact pj_up_s | exact (pj_up_n (by omega)).trans (by assumption)) (by rfl) (by rfl) (by rfl) (by rfl) (Nat.le_of_ble_eq_true rfl) (by decide)) (by decide) (by decide) ?_
  rintro r1 h1 n1 ⟨rfl, rfl, rfl⟩
  rw [pj_up_up]
  refine pj_ist3 (q := 18) (pj_d p_X7_readThing 10 rfl) rfl (by first | rfl | assumption) ?_
  refine pj_ald0 (q := 19) (pj_d p_X7_readThing 11 rfl) rfl ?_
  refine pj_bipush (q := 21) (v := nI 44) (pj_d p_X7_readThing 12 rfl) rfl (by decide) ?_
  refine pj_cv (pj_rV (q := 24) (c_X7_takeByte pj_up_s (hbu _) hL hc b2 (x := 44) (by omega)) (pj_d p_X7_readThing 13 rfl) rfl kX7_47 o_X7_takeByte (by first | assumption | exact pj_up_s | exact (pj_up_n (by omega)).trans (by assumption)) (by rfl) (by rfl) (by rfl) (by rfl) (Nat.le_of_ble_eq_true rfl) (by decide)) (by decide) (by decide) ?_
  rintro r1 h1 n1 ⟨rfl, rfl, rfl⟩
  rw [pj_up_up]
  refine pj_ald0 (q := 25) (pj_d p_X7_readThing 14 rfl) rfl ?_
  refine pj_iconst (q := 26) (v := nI 0) (pj_d p_X7_readThing 15 rfl) rfl (by decide) ?_
  refine pj_iconst (q := 27) (v := nI 3) (pj_d p_X7_readThing 16 rfl) rfl (by decide) ?_
  refine pj_cv (pj_rV (q := 30) (c_X7_takeNumber pj_up_s (hbu _) hL hc (gd_PB_tb b2) (lo := 0) (hi := nI 3) (hiI := 3) (by omega) (by decide)) (pj_d p_X7_readThing 17 rfl) rfl kX7_51 o_X7_takeNumber (by first | assumption | exact pj_up_s | exact (pj_up_n (by omega)).trans (by assumption)) (by rfl) (by rfl) (by rfl) (by rfl) (Nat.le_of_ble_eq_true rfl) (by decide)) (by decide) (by decide) ?_
  rintro r1 h1 n1 ⟨rfl, rfl, rfl⟩
  rw [pj_up_up]
  refine pj_ist4 (q := 32) (pj_d p_X7_readThing 18 rfl) rfl (by first | rfl | assumption) ?_
  refine pj_ald0 (q := 33) (pj_d p_X7_readThing 19 rfl) rfl ?_
  refine pj_bipush (q := 35) (v := nI 59) (pj_d p_X7_readThing 20 rfl) rfl (by decide) ?_
  refine pj_cv (pj_rV (q := 38) (c_X7_takeByte pj_up_s (hbu _) hL hc b3 (x := 59) (by omega)) (pj_d p_X7_readThing 21 rfl) rfl kX7_47 o_X7_takeByte (by first | assumption | exact pj_up_s | exact (pj_up_n (by omega)).trans (by assumption)) (by rfl) (by rfl) (by rfl) (by rfl) (Nat.le_of_ble_eq_true rfl) (by decide)) (by decide) (by decide) ?_
  rintro r1 h1 n1 ⟨rfl, rfl, rfl⟩
  rw [pj_up_up]
  refine pj_ald0 (q := 39) (pj_d p_X7_readThing 22 rfl) rfl ?_
  refine pj_cp (pj_rV (q := 42) (c_X7_isSound pj_up_s b4) (pj_d p_X7_readThing 23 rfl) rfl kX7_43 o_X7_isSound (by first | assumption | exact pj_up_s | exact (pj_up_n (by omega)).trans (by assumption)) (by rfl) (by rfl) (by rfl) (by rfl) (Nat.le_of_ble_eq_true rfl) (by decide)) (by decide) (by decide) ?_
  have hT1 : gd_T (pj_up h a (.inr (7, gd_tpc a L (gd_rT3 c L s.1)))) k s.2 0 := hT.out (fun q _ _ => pj_up_n (by omega))
  have k1 := hT1.1
  refine pj_if_eq (t := 53) (q := 45) (pj_d p_X7_readThing 24 rfl) rfl (by decide) (fun c1 => ?_) (fun c1 => ?_)
  · have e : ¬ (gd_rT3 c L s.1).2.1 = 0 := gd_dec_f c1
    refine pj_vret rfl (pj_d p_X7_readThing 30 rfl) (by decide) (by decide) ?_
    rw [gd_rT, if_neg e]
    exact ⟨rfl, rfl, pj_up_s, hT1, fun q q1 _ => pj_up_n q1⟩
  · have e : (gd_rT3 c L s.1).2.1 = 0 := gd_dec_t c1
    refine pj_ald1 (q := 46) (pj_d p_X7_readThing 25 rfl) rfl ?_
    refine pj_ild2 (q := 47) (pj_d p_X7_readThing 26 rfl) rfl ?_
    refine pj_ild3 (q := 48) (pj_d p_X7_readThing 27 rfl) rfl ?_
    refine pj_ild4 (q := 50) (pj_d p_X7_readThing 28 rfl) rfl ?_
    refine pj_cv (pj_rV (q := 53) (c_X9_addThing hT1 h7 hS.2.1.2.1 rfl (by omega) hk) (pj_d p_X7_readThing 29 rfl) rfl kX7_70 o_X9_addThing (by first | assumption | exact pj_up_s | exact (pj_up_n (by omega)).trans (by assumption)) (by rfl) (by rfl) (by rfl) (by rfl) (Nat.le_of_ble_eq_true rfl) (by decide)) (by decide) (by decide) ?_
    rintro r1 h1 n1 ⟨rfl, rfl, T2, Q2⟩
    refine pj_vret rfl (pj_d p_X7_readThing 30 rfl) (by decide) (by decide) ?_
    rw [gd_rT, if_pos e]
    exact ⟨rfl, rfl, (Q2 a (by omega) (by omega) (by omega)).trans pj_up_s, T2, fun q q1 q2 => (Q2 q (by omega) (by omega) (by omega)).trans (pj_up_n q1)⟩
theorem c_X7_readPair (h0 : h a = some (.inr (7, gd_tpc a L s.1))) (hb : h (a + 1) = some (.inl (0, 120, .inl (fun j => nI (c j))))) (hL : L ≤ 120) (hc : ∀ j, c j < 256) (hS : gd_RW L s) (hT : gd_T h k s.2 0) (hak : a + 1 < k) (hn : n = k + 9 + s.2 1) (hp : s.1.1 < L) (h8 : s.2 2 < 8) : pj_Ct E B l Y_X7_readPair 4 0 0 [.ref a, .ref k] h n (gd_Pr (gd_rP c L s) h a k L) := by
  subst hn
  have h7 := hS.2.1.1
  have b1 : gd_PB L (s.1.1 + 1, s.1.2) := ⟨hp, hS.1.2⟩
  have b1' : gd_PB L (gd_rP1 c L s).2 := gd_PB_tn b1
  have b2 : gd_PB L (gd_rP2 c L s) := gd_PB_tb b1'
  have b3 : gd_PB L (gd_rP3 c L s).2 := gd_PB_tn b2
  have b4 : gd_PB L (gd_rP4 c L s) := by
    rw [gd_rP4]
    split
    · exact gd_PB_fa b3 b2.1 (by omega)
    · exact b3
  have b5 : gd_PB L (gd_rP5 c L s).2 := gd_PB_tn (gd_PB_tb b4)
  have b6 : gd_PB L (gd_rP6 c L s) := gd_PB_tb b5
  have hbu : ∀ cell, pj_up h a cell (a + 1) = some (.inl (0, 120, .inl (fun j => nI (c j)))) := fun cell => (pj_up_n (by omega)).trans hb
  have hTu : ∀ cell, gd_T (pj_up h a cell) k s.2 0 := fun cell => hT.out (fun q _ _ => pj_up_n (by omega))
  have hku : ∀ cell, pj_up h a cell k = some (.inr (8, gd_To k s.2 0)) := fun cell => (hTu cell).1
  have hi : (nI (s.2 1) - nI 1).toInt = (s.2 1 : Int) - 1 := by
    have := gd_cm1 h7
    rw [Int32.toInt_toInt64] at this
    exact this
  refine pj_in rfl (ls := [some (.ref a), some (.ref k), none, none, none, none, none]) rfl (Nat.le_of_ble_eq_true rfl) ?_
  have rest : ∀ z, pj_V E B l Y_X7_readPair 4 0 0 67 [some (.ref a), some (.ref k), some (.int (z)), some (.int (nI (gd_rP1 c L s).1)), some (.int (nI (gd_rP2 c L s).1)), some (.int (nI (gd_rP3 c L s).1)), none] [] (pj_up h a (.inr (7, gd_tpc a L (gd_rP4 c L s)))) (k + 9 + s.2 1) 0 0 (gd_Pr (gd_rP c L s) h a k L) := by
    intro z
    refine pj_ald0 (q := 68) (pj_d p_X7_readPair 39 rfl) rfl ?_
    refine pj_bipush (q := 70) (v := nI 44) (pj_d p_X7_readPair 40 rfl) rfl (by decide) ?_
    refine pj_cv (pj_rV (q := 73) (c_X7_takeByte pj_up_s (hbu _) hL hc b4 (x := 44) (by omega)) (pj_d p_X7_readPair 41 rfl) rfl kX7_47 o_X7_takeByte (by first | assumption | exact pj_up_s | exact (pj_up_n (by omega)).trans (by assumption)) (by rfl) (by rfl) (by rfl) (by rfl) (Nat.le_of_ble_eq_true rfl) (by decide)) (by decide) (by decide) ?_
    rintro r1 h1 n1 ⟨rfl, rfl, rfl⟩
    rw [pj_up_up]
    refine pj_ald0 (q := 74) (pj_d p_X7_readPair 42 rfl) rfl ?_
    refine pj_iconst (q := 75) (v := nI 1) (pj_d p_X7_readPair 43 rfl) rfl (by decide) ?_
    refine pj_bipush (q := 77) (v := nI 20) (pj_d p_X7_readPair 44 rfl) rfl (by decide) ?_
    refine pj_cv (pj_rV (q := 80) (c_X7_takeNumber pj_up_s (hbu _) hL hc (gd_PB_tb b4) (lo := 1) (hi := nI 20) (hiI := 20) (by omega) (by decide)) (pj_d p_X7_readPair 45 rfl) rfl kX7_51 o_X7_takeNumber (by first | assumption | exact pj_up_s | exact (pj_up_n (by omega)).trans (by assumption)) (by rfl) (by rfl) (by rfl) (by rfl) (Nat.le_of_ble_eq_true rfl) (by decide)) (by decide) (by decide) ?_
    rintro r1 h1 n1 ⟨rfl, rfl, rfl⟩
    rw [pj_up_up]
    refine pj_ist6 (q := 82) (pj_d p_X7_readPair 46 rfl) rfl (by first | rfl | assumption) ?_
    refine pj_ald0 (q := 83) (pj_d p_X7_readPair 47 rfl) rfl ?_
    refine pj_bipush (q := 85) (v := nI 59) (pj_d p_X7_readPair 48 rfl) rfl (by decide) ?_
    refine pj_cv (pj_rV (q := 88) (c_X7_takeByte pj_up_s (hbu _) hL hc b5 (x := 59) (by omega)) (pj_d p_X7_readPair 49 rfl) rfl kX7_47 o_X7_takeByte (by first | assumption | exact pj_up_s | exact (pj_up_n (by omega)).trans (by assumption)) (by rfl) (by rfl) (by rfl) (by rfl) (Nat.le_of_ble_eq_true rfl) (by decide)) (by decide) (by decide) ?_
    rintro r1 h1 n1 ⟨rfl, rfl, rfl⟩
    rw [pj_up_up]
    refine pj_ald0 (q := 89) (pj_d p_X7_readPair 50 rfl) rfl ?_
    refine pj_cp (pj_rV (q := 92) (c_X7_isSound pj_up_s b6) (pj_d p_X7_readPair 51 rfl) rfl kX7_43 o_X7_isSound (by first | assumption | exact pj_up_s | exact (pj_up_n (by omega)).trans (by assumption)) (by rfl) (by rfl) (by rfl) (by rfl) (Nat.le_of_ble_eq_true rfl) (by decide)) (by decide) (by decide) ?_
    have k1 := hku (.inr (7, gd_tpc a L (gd_rP6 c L s)))
    refine pj_if_eq (t := 104) (q := 95) (pj_d p_X7_readPair 52 rfl) rfl (by decide) (fun c1 => ?_) (fun c1 => ?_)
    · have e : ¬ (gd_rP6 c L s).2.1 = 0 := gd_dec_f c1
      refine pj_vret rfl (pj_d p_X7_readPair 58 rfl) (by decide) (by decide) ?_
      rw [gd_rP, if_neg e]
      exact ⟨rfl, rfl, pj_up_s, hTu _, fun q q1 _ => pj_up_n q1⟩
    · have e : (gd_rP6 c L s).2.1 = 0 := gd_dec_t c1
      refine pj_ald1 (q := 96) (pj_d p_X7_readPair 53 rfl) rfl ?_
      refine pj_ild3 (q := 97) (pj_d p_X7_readPair 54 rfl) rfl ?_
      refine pj_ild5 (q := 99) (pj_d p_X7_readPair 55 rfl) rfl ?_
      refine pj_ild6 (q := 101) (pj_d p_X7_readPair 56 rfl) rfl ?_
      refine pj_cv (pj_rV (q := 104) (c_X9_addPair (hTu (.inr (7, gd_tpc a L (gd_rP6 c L s)))) h7 h8 (gd_rP1 c L s).1 (gd_rP3 c L s).1 (gd_rP5 c L s).1) (pj_d p_X7_readPair 57 rfl) rfl kX7_83 o_X9_addPair (by first | assumption | exact pj_up_s | exact (pj_up_n (by omega)).trans (by assumption)) (by rfl) (by rfl) (by rfl) (by rfl) (Nat.le_of_ble_eq_true rfl) (by decide)) (by decide) (by decide) ?_
      rintro r1 h1 n1 ⟨rfl, rfl, T2, Q2⟩
      refine pj_vret rfl (pj_d p_X7_readPair 58 rfl) (by decide) (by decide) ?_
      rw [gd_rP, if_pos e]
      refine ⟨rfl, ?_, (Q2 a (by omega) (by omega) (by omega) (by omega)).trans pj_up_s, T2, fun q q1 q2 => (Q2 q (by omega) (by omega) (by omega) (by omega)).trans (pj_up_n q1)⟩
      show _ = k + 9 + gd_addP s.2 (gd_rP1 c L s).1 (gd_rP3 c L s).1 (gd_rP5 c L s).1 1
      rw [gd_addP_n (by omega) (by omega)]
  refine pj_ald0 (q := 1) (pj_d p_X7_readPair 0 rfl) rfl ?_
  refine pj_dup (q := 2) (pj_d p_X7_readPair 1 rfl) rfl rfl ?_
  refine pj_gf (q := 5) (k := 2) (pj_d p_X7_readPair 2 rfl) rfl kX7_23 (by first | assumption | exact pj_up_s | exact (pj_up_n (by omega)).trans (by assumption)) (by rfl) (by rfl) ?_
  refine pj_iconst (q := 6) (v := nI 1) (pj_d p_X7_readPair 3 rfl) rfl (by decide) ?_
  refine pj_iadd (q := 7) (pj_d p_X7_readPair 4 rfl) rfl ?_
  rw [nI_add]
  refine pj_pf (q := 10) (k := 2) (fs' := gd_tpc a L (s.1.1 + 1, s.1.2)) (pj_d p_X7_readPair 5 rfl) rfl kX7_23 (by first | assumption | exact pj_up_s | exact (pj_up_n (by omega)).trans (by assumption)) (by rfl) (Or.inl rfl) (by rfl) (by rfl) (by rfl) (by show 2 < 5; decide) (by rfl) ?_
  have k2 := hku (.inr (7, gd_tpc a L (s.1.1 + 1, s.1.2)))
  refine pj_ald1 (q := 11) (pj_d p_X7_readPair 6 rfl) rfl ?_
  refine pj_cp (pj_rV (q := 14) (c_X9_thingCount (hTu _)) (pj_d p_X7_readPair 7 rfl) rfl kX7_77 o_X9_thingCount (by first | assumption | exact pj_up_s | exact (pj_up_n (by omega)).trans (by assumption)) (by rfl) (by rfl) (by rfl) (by rfl) (Nat.le_of_ble_eq_true rfl) (by decide)) (by decide) (by decide) ?_
  refine pj_iconst (q := 15) (v := nI 1) (pj_d p_X7_readPair 8 rfl) rfl (by decide) ?_
  refine pj_isub (q := 16) (pj_d p_X7_readPair 9 rfl) rfl ?_
  refine pj_ist2 (q := 17) (pj_d p_X7_readPair 10 rfl) rfl (by first | rfl | assumption) ?_
  refine pj_ald0 (q := 18) (pj_d p_X7_readPair 11 rfl) rfl ?_
  refine pj_iconst (q := 19) (v := nI 0) (pj_d p_X7_readPair 12 rfl) rfl (by decide) ?_
  refine pj_ild2 (q := 20) (pj_d p_X7_readPair 13 rfl) rfl ?_
  refine pj_cv (pj_rV (q := 23) (c_X7_takeNumber pj_up_s (hbu _) hL hc b1 (lo := 0) (by omega) hi) (pj_d p_X7_readPair 14 rfl) rfl kX7_51 o_X7_takeNumber (by first | assumption | exact pj_up_s | exact (pj_up_n (by omega)).trans (by assumption)) (by rfl) (by rfl) (by rfl) (by rfl) (Nat.le_of_ble_eq_true rfl) (by decide)) (by decide) (by decide) ?_
  rintro r1 h1 n1 ⟨rfl, rfl, rfl⟩
  rw [pj_up_up]
  refine pj_ist3 (q := 24) (pj_d p_X7_readPair 15 rfl) rfl (by first | rfl | assumption) ?_
  refine pj_ald0 (q := 25) (pj_d p_X7_readPair 16 rfl) rfl ?_
  refine pj_bipush (q := 27) (v := nI 44) (pj_d p_X7_readPair 17 rfl) rfl (by decide) ?_
  refine pj_cv (pj_rV (q := 30) (c_X7_takeByte pj_up_s (hbu _) hL hc b1' (x := 44) (by omega)) (pj_d p_X7_readPair 18 rfl) rfl kX7_47 o_X7_takeByte (by first | assumption | exact pj_up_s | exact (pj_up_n (by omega)).trans (by assumption)) (by rfl) (by rfl) (by rfl) (by rfl) (Nat.le_of_ble_eq_true rfl) (by decide)) (by decide) (by decide) ?_
  rintro r1 h1 n1 ⟨rfl, rfl, rfl⟩
  rw [pj_up_up]
  refine pj_ald0 (q := 31) (pj_d p_X7_readPair 19 rfl) rfl ?_
  refine pj_gf (q := 34) (k := 2) (pj_d p_X7_readPair 20 rfl) rfl kX7_23 (by first | assumption | exact pj_up_s | exact (pj_up_n (by omega)).trans (by assumption)) (by rfl) (by rfl) ?_
  refine pj_ist4 (q := 36) (pj_d p_X7_readPair 21 rfl) rfl (by first | rfl | assumption) ?_
  refine pj_ald0 (q := 37) (pj_d p_X7_readPair 22 rfl) rfl ?_
  refine pj_iconst (q := 38) (v := nI 0) (pj_d p_X7_readPair 23 rfl) rfl (by decide) ?_
  refine pj_ild2 (q := 39) (pj_d p_X7_readPair 24 rfl) rfl ?_
  refine pj_cv (pj_rV (q := 42) (c_X7_takeNumber pj_up_s (hbu _) hL hc b2 (lo := 0) (by omega) hi) (pj_d p_X7_readPair 25 rfl) rfl kX7_51 o_X7_takeNumber (by first | assumption | exact pj_up_s | exact (pj_up_n (by omega)).trans (by assumption)) (by rfl) (by rfl) (by rfl) (by rfl) (Nat.le_of_ble_eq_true rfl) (by decide)) (by decide) (by decide) ?_
  rintro r1 h1 n1 ⟨rfl, rfl, rfl⟩
  rw [pj_up_up]
  have l1 : (gd_rP1 c L s).1 < 5000 := gd_tn_lt hc
  have l3 : (gd_rP3 c L s).1 < 5000 := gd_tn_lt hc
  have m1 : (gd_rP1 c L s).1 < 1000 := by
    by_cases e : (0 : Int) ≤ (s.2 1 : Int) - 1
    · have : ((gd_rP1 c L s).1 : Int) ≤ (s.2 1 : Int) - 1 := gd_tn_le e
      omega
    · have : (gd_rP1 c L s).1 = 0 := by
        rw [gd_rP1, gd_tn]
        split
        · split
          · split
            · rename_i q; have := q.2; omega
            · rfl
          · rfl
        · rfl
      omega
  have m3 : (gd_rP3 c L s).1 < 1000 := by
    by_cases e : (0 : Int) ≤ (s.2 1 : Int) - 1
    · have : ((gd_rP3 c L s).1 : Int) ≤ (s.2 1 : Int) - 1 := gd_tn_le e
      omega
    · have : (gd_rP3 c L s).1 = 0 := by
        rw [gd_rP3, gd_tn]
        split
        · split
          · split
            · rename_i q; have := q.2; omega
            · rfl
          · rfl
        · rfl
      omega
  have hit : ((gd_rP1 c L s).1 = (gd_rP3 c L s).1 ∨ gd_pair s.2 (gd_rP1 c L s).1 (gd_rP3 c L s).1 ≠ 0) → pj_V E B l Y_X7_readPair 4 0 0 60 [some (.ref a), some (.ref k), some (.int (nI (s.2 1) - nI 1)), some (.int (nI (gd_rP1 c L s).1)), some (.int (nI (gd_rP2 c L s).1)), some (.int (nI (gd_rP3 c L s).1)), none] [] (pj_up h a (.inr (7, gd_tpc a L (gd_rP3 c L s).2))) (k + 9 + s.2 1) 0 0 (gd_Pr (gd_rP c L s) h a k L) := by
    intro e
    refine pj_ald0 (q := 61) (pj_d p_X7_readPair 35 rfl) rfl ?_
    refine pj_ild4 (q := 63) (pj_d p_X7_readPair 36 rfl) rfl ?_
    refine pj_iconst (q := 64) (v := nI 2) (pj_d p_X7_readPair 37 rfl) rfl (by decide) ?_
    refine pj_cv (pj_rV (q := 67) (c_X7_faultAt pj_up_s b3 (gd_rP2 c L s).1 2) (pj_d p_X7_readPair 38 rfl) rfl kX7_39 o_X7_faultAt (by first | assumption | exact pj_up_s | exact (pj_up_n (by omega)).trans (by assumption)) (by rfl) (by rfl) (by rfl) (by rfl) (Nat.le_of_ble_eq_true rfl) (by decide)) (by decide) (by decide) ?_
    rintro r1 h1 n1 ⟨rfl, rfl, rfl⟩
    rw [pj_up_up]
    have := rest (nI (s.2 1) - nI 1)
    rw [show gd_rP4 c L s = gd_fa (gd_rP3 c L s).2 (gd_rP2 c L s).1 2 from if_pos e] at this
    exact this
  refine pj_ist5 (q := 44) (pj_d p_X7_readPair 26 rfl) rfl (by first | rfl | assumption) ?_
  refine pj_ild3 (q := 45) (pj_d p_X7_readPair 27 rfl) rfl ?_
  refine pj_ild5 (q := 47) (pj_d p_X7_readPair 28 rfl) rfl ?_
  refine pj_icmp_eq (t := 60) (q := 50) (pj_d p_X7_readPair 29 rfl) rfl (by decide) (fun c2 => ?_) (fun c2 => ?_)
  · exact hit (Or.inl ((nI_eq (by omega) (by omega)).mp c2))
  have ne : ¬ (gd_rP1 c L s).1 = (gd_rP3 c L s).1 := fun q => c2 (congrArg nI q)
  have k3 := hku (.inr (7, gd_tpc a L (gd_rP3 c L s).2))
  refine pj_ald1 (q := 51) (pj_d p_X7_readPair 30 rfl) rfl ?_
  refine pj_ild3 (q := 52) (pj_d p_X7_readPair 31 rfl) rfl ?_
  refine pj_ild5 (q := 54) (pj_d p_X7_readPair 32 rfl) rfl ?_
  refine pj_cp (pj_rV (q := 57) (c_X9_harmOfPair (hTu _) hS.2.1 m1 m3) (pj_d p_X7_readPair 33 rfl) rfl kX7_80 o_X9_harmOfPair (by first | assumption | exact pj_up_s | exact (pj_up_n (by omega)).trans (by assumption)) (by rfl) (by rfl) (by rfl) (by rfl) (Nat.le_of_ble_eq_true rfl) (by decide)) (by decide) (by decide) ?_
  refine pj_if_eq (t := 67) (q := 60) (pj_d p_X7_readPair 34 rfl) rfl (by decide) (fun c3 => ?_) (fun c3 => ?_)
  · have e0 : gd_pair s.2 (gd_rP1 c L s).1 (gd_rP3 c L s).1 = 0 := by
      by_cases q : gd_pair s.2 (gd_rP1 c L s).1 (gd_rP3 c L s).1 = 0
      · exact q
      · exfalso
        exact absurd ((nI_eq (gd_pair_lt hS.2.1) (by omega)).mp (c3.trans nI_0.symm)) q
    have := rest (nI (s.2 1) - nI 1)
    rw [show gd_rP4 c L s = (gd_rP3 c L s).2 from if_neg (fun q => by rcases q with q | q; exact ne q; exact q e0)] at this
    exact this
  · exact hit (Or.inr (fun q => c3 (by rw [q]; rfl)))
end
