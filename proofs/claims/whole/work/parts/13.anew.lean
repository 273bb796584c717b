/-! A bow made anew, copied -/
set_option maxRecDepth 100000 in
set_option maxHeartbeats 4000000 in
theorem c_X4_figureAtN (q : gQ3) {M : gM} {tl : Nat} {tb : Nat → Nat} (hT : cT M tl tb) {i : Nat} (hi : i < tl) (h48 : 48 ≤ tb i) : gCt (wC q) yX4_figureAt cX4_figureAt 2 (some .int) 1 [.ref (q.2.2 1), .int (nI i)] M (gR (some (.int (nI (tb i - 48)))) M) := by
  refine gMet RX4 (by decide +kernel) rfl (Nat.le_of_ble_eq_true rfl) (fun X hC => ?_)
  have hC : gC X (wC q) cX4_figureAt 2 RX4 (some .int) 1 := hC
  show gG X (wC q) _ 2 M 0 [(0, .ref (q.2.2 1)), (1, .int (nI i))] []
  have ht := hT.2.1
  refine g_aload_n hC (gDec_at DX4_figureAt_0 0 rfl) rfl ?_
  refine g_iload_n hC (gDec_at DX4_figureAt_0 1 rfl) rfl ?_
  refine g_callVd (w := wC q) hC 1 (c_X4_signAt q hT (i := i) (by omega)) vf_X4_signAt ml_X4_19 (by decide) (show 1 < 63 from by decide) rfl rfl rfl rfl rfl (Nat.le_of_ble_eq_true rfl) (gDec_at DX4_figureAt_0 2 rfl) ?_
  refine g_st (st' := [.int (nI (tb i))]) (congrArg (fun z => [Value.int z]) (if_pos hi)) ?_
  refine g_bipush hC (gDec_at DX4_figureAt_0 3 rfl) (v := nI 48) (by decide) ?_
  refine g_isubN hC h48 (gDec_at DX4_figureAt_0 4 rfl) ?_
  refine g_iret hC (gDec_at DX4_figureAt_0 5 rfl) ?_
  exact ⟨rfl, rfl⟩

set_option maxRecDepth 100000 in
set_option maxHeartbeats 4000000 in
theorem c_X0_hasW (q : gQ3) {M : gM} {m j : Nat} (hm : M.1 9 2 = nI m) (h6 : m ≤ 6) (ha : M.1 (15 + j) 1 = nI (j % 6 + 1)) (hj : j < 12) : gCt (wC q) yX0_has cX0_has 2 (some .boolean) 0 [.ref (q.2.2 9), .ref (q.2.2 (15 + j))] M (gR (some (.int (gb (j % 6 < m)))) M) := by
  refine gMet RX0 (by decide +kernel) rfl (Nat.le_of_ble_eq_true rfl) (fun X hC => ?_)
  have hC : gC X (wC q) cX0_has 2 RX0 (some .boolean) 0 := hC
  show gG X (wC q) _ 2 M 0 [(0, .ref (q.2.2 9)), (1, .ref (q.2.2 (15 + j)))] []
  refine g_aload_n hC (gDec_at DX0_has_0 0 rfl) rfl ?_
  refine g_get (w := wC q) hC (15 + j) (v := .int (nI (j % 6 + 1))) fl_X0_49 (show 15 + j < 63 from by have := hj; omega) (cC_p0 q _ _ hj) (g_sv ha) (gDec_at DX0_has_0 1 rfl) ?_
  refine g_aload_n hC (gDec_at DX0_has_0 2 rfl) rfl ?_
  refine g_get (w := wC q) hC 9 (v := .int (nI m)) fl_X0_29 (show 9 < 63 from by decide) rfl (g_sv hm) (gDec_at DX0_has_0 3 rfl) ?_
  refine g_icmp_gtN hC (by omega) (by omega) (gDec_at DX0_has_0 4 rfl) 15 (by decide) (fun h8 => ?_) (fun h8 => ?_)
  · skip
    refine g_iconst hC (gDec_at DX0_has_0 7 rfl) (v := nI 0) (by decide) ?_
    refine g_zret hC (Or.inl rfl) (gDec_at DX0_has_0 8 rfl) ?_
    exact ⟨by rw [gb_f (show ¬ j % 6 < m by omega)]; rfl, rfl⟩
  · skip
    refine g_iconst hC (gDec_at DX0_has_0 5 rfl) (v := nI 1) (by decide) ?_
    refine g_goto hC (gDec_at DX0_has_0 6 rfl) 16 (by decide) ?_
    refine g_zret hC (Or.inr rfl) (gDec_at DX0_has_0 8 rfl) ?_
    exact ⟨by rw [gb_t (show j % 6 < m by omega)]; rfl, rfl⟩

theorem cT_same {P : Nat → Prop} {M M1 : gM} {tl : Nat} {tb : Nat → Nat} (h : cT M tl tb) (hs : sameO P M M1) (h1 : ¬ P 1) (h2 : ¬ P 2) : cT M1 tl tb := by
  unfold cT
  rw [hs 1 h1, hs 2 h2]
  exact h
/-- where a Place stands in the text -/
def pos (sl j : Nat) : Nat := j / 6 * (4 * sl + 1) + 4 * (j % 6 + 1 - 1)
def mkB (B : gB) (tb : Nat → Nat) (sl : Nat) : gB := fun r j => if r = 0 then tb (pos sl j) - 48 else if r = 1 then 10 * (tb (pos sl j + 1) - 48) + (tb (pos sl j + 2) - 48) else if r = 2 then tb (pos sl j + 3) - 48 else if r < 6 then 0 else if r = 9 then (if j = 0 then sl else 0) else B r j
theorem pos_lt {sl j : Nat} (hj : j < 12) (ht : j % 6 < sl) : pos sl j + 3 < 8 * sl + 1 ∧ ((j / 6 = 0 ∧ pos sl j = 4 * (j % 6)) ∨ (j / 6 = 1 ∧ pos sl j = 4 * sl + 1 + 4 * (j % 6))) := by
  unfold pos
  rcases (show j / 6 = 0 ∨ j / 6 = 1 by omega) with e | e <;> rw [e] <;> omega
theorem mk_dig {tb : Nat → Nat} {sl j : Nat} (hall : ∀ i, i < 8 * sl + 1 → sfit tb sl i) (hj : j < 12) (ht : j % 6 < sl) :
    (49 ≤ tb (pos sl j) ∧ tb (pos sl j) ≤ 57) ∧ (48 ≤ tb (pos sl j + 1) ∧ tb (pos sl j + 1) ≤ 52) ∧ (48 ≤ tb (pos sl j + 2) ∧ tb (pos sl j + 2) ≤ 57 ∧ 532 ≤ 10 * tb (pos sl j + 1) + tb (pos sl j + 2) ∧ 10 * tb (pos sl j + 1) + tb (pos sl j + 2) ≤ 568) ∧ (48 ≤ tb (pos sl j + 3) ∧ tb (pos sl j + 3) ≤ 50) := by
  obtain ⟨hp, hpc⟩ := pos_lt hj ht
  have F : ∀ w, w < 4 → ffit w (tb (pos sl j + w - 1)) (tb (pos sl j + w)) := by
    intro w hw
    rcases hall (pos sl j + w) (by omega) with ⟨h1, -, h3⟩ | ⟨h1, h2, h3⟩
    · rw [show (pos sl j + w) % 4 = w by omega] at h3
      exact h3
    · rcases h3 with h3 | ⟨h3, h4⟩
      · omega
      · rw [show (pos sl j + w - 4 * sl - 1) % 4 = w by omega] at h4
        exact h4
  have f0 := F 0 (by omega)
  have f1 := F 1 (by omega)
  have f2 := F 2 (by omega)
  have f3 := F 3 (by omega)
  unfold ffit at f0 f1 f2 f3
  rw [show pos sl j + 2 - 1 = pos sl j + 1 from rfl] at f2
  rw [Nat.add_zero] at f0
  omega
theorem mkB_V {B : gB} (hV : bV B) {tb : Nat → Nat} {sl : Nat} (h1 : 1 ≤ sl) (h6 : sl ≤ 6) (hall : ∀ i, i < 8 * sl + 1 → sfit tb sl i) : bV (mkB B tb sl) := by
  obtain ⟨-, -, -, h4, -⟩ := hV
  refine ⟨h1, h6, Nat.zero_le _, h4, fun j hj ht => ?_⟩
  have ht : j % 6 < sl := ht
  obtain ⟨d0, d1, d2, d3⟩ := mk_dig hall hj ht
  show (1 ≤ tb (pos sl j) - 48 ∧ tb (pos sl j) - 48 ≤ 9) ∧ (4 ≤ 10 * (tb (pos sl j + 1) - 48) + (tb (pos sl j + 2) - 48) ∧ 10 * (tb (pos sl j + 1) - 48) + (tb (pos sl j + 2) - 48) ≤ 40) ∧ tb (pos sl j + 3) - 48 ≤ 2 ∧ 0 ≤ 99 ∧ 0 ≤ 1 ∧ 0 ≤ 99
  omega
/-- a bow being made anew: its first i places stand -/
def mkI (M M1 : gM) (tb : Nat → Nat) (sl i : Nat) : Prop := bK M1 ∧ M1.1 9 2 = nI sl ∧ M1.1 9 3 = -9 ∧ (∀ k, k < 3 → M1.1 (12 + k) = M.1 (12 + k)) ∧ (∀ j, j < i → j % 6 < sl → M1.1 (15 + j) 3 = nI (tb (pos sl j) - 48) ∧ M1.1 (15 + j) 4 = nI (10 * (tb (pos sl j + 1) - 48) + (tb (pos sl j + 2) - 48)) ∧ M1.1 (15 + j) 5 = nI (tb (pos sl j + 3) - 48) ∧ M1.1 (15 + j) 6 = nI 0 ∧ M1.1 (15 + j) 8 = nI 0 ∧ M1.1 (15 + j) 7 = nI 0) ∧ sameO (fun i => 9 ≤ i ∧ i < 27) M M1
theorem mkI_end {M M1 : gM} {B : gB} (hI : cI M B) {tb : Nat → Nat} {sl : Nat} (h1 : 1 ≤ sl) (h6 : sl ≤ 6) (hall : ∀ i, i < 8 * sl + 1 → sfit tb sl i) (h : mkI M M1 tb sl 12) : cI M1 (mkB B tb sl) := by
  obtain ⟨a, b, c, d, e, -⟩ := h
  refine ⟨a, ⟨b, c, fun k hk => ?_, fun j hj ht => ?_⟩, mkB_V hI.2.2 h1 h6 hall⟩
  · have := hI.2.1.2.2.1 k hk
    rw [show 12 + 18 * 0 + k = 12 + k by omega, d k hk]
    exact this
  · have := e j hj ht
    rw [show 15 + 18 * 0 + j = 15 + j by omega]
    exact this
theorem mkI_k {M M1 : gM} {tb : Nat → Nat} {sl i : Nat} (h : mkI M M1 tb sl i) (ht : ¬ i % 6 < sl) : mkI M M1 tb sl (i + 1) := by
  obtain ⟨a, b, c, d, e, f⟩ := h
  exact ⟨a, b, c, d, fun j hj hs => e j (by rcases Nat.lt_succ_iff_lt_or_eq.mp hj with z | z; exact z; subst z; exact absurd hs ht) hs, f⟩
def pl6 (M : gM) (c : Nat) (x3 x4 x5 x6 x7 x8 : Int32) : gM := gupd (gupd (gupd (gupd (gupd (gupd M c 3 x3) c 4 x4) c 5 x5) c 6 x6) c 7 x7) c 8 x8
theorem pl6_get (M : gM) (c : Nat) (x3 x4 x5 x6 x7 x8 : Int32) (i k : Nat) : (pl6 M c x3 x4 x5 x6 x7 x8).1 i k = if i = c then (if k = 3 then x3 else if k = 4 then x4 else if k = 5 then x5 else if k = 6 then x6 else if k = 7 then x7 else if k = 8 then x8 else M.1 i k) else M.1 i k := by
  unfold pl6
  simp only [gupd_get]
  by_cases h : i = c
  · simp only [h, true_and, if_true]
    by_cases h8 : k = 8
    · subst h8; simp
    · by_cases h7 : k = 7
      · subst h7; simp
      · by_cases h6 : k = 6
        · subst h6; simp
        · by_cases h5 : k = 5
          · subst h5; simp
          · by_cases h4 : k = 4
            · subst h4; simp
            · simp [h8, h7, h6, h5, h4]
  · simp [h]
theorem pl6_ne (M : gM) {c : Nat} (x3 x4 x5 x6 x7 x8 : Int32) {i : Nat} (h : i ≠ c) : (pl6 M c x3 x4 x5 x6 x7 x8).1 i = M.1 i := by
  funext k; rw [pl6_get, if_neg h]
theorem mkI_s {M M1 : gM} {tb : Nat → Nat} {sl i : Nat} (h : mkI M M1 tb sl i) (hi : i < 12) : mkI M (pl6 M1 (15 + i) (nI (tb (pos sl i) - 48)) (nI (10 * (tb (pos sl i + 1) - 48) + (tb (pos sl i + 2) - 48))) (nI (tb (pos sl i + 3) - 48)) (nI 0) (nI 0) (nI 0)) tb sl (i + 1) := by
  obtain ⟨a, b, c, d, e, f⟩ := h
  refine ⟨fun b2 hb j hj => ?_, by rw [pl6_ne _ _ _ _ _ _ _ (by omega)]; exact b, by rw [pl6_ne _ _ _ _ _ _ _ (by omega)]; exact c, fun k hk => by rw [pl6_ne _ _ _ _ _ _ _ (by omega)]; exact d k hk, fun j hj hs => ?_, fun c hc => by rw [pl6_ne _ _ _ _ _ _ _ (fun z => hc (by omega))]; exact f c hc⟩
  · obtain ⟨p, q, r, s⟩ := a b2 hb j hj
    by_cases z : 15 + 18 * b2 + j = 15 + i
    · rw [z] at p q r s ⊢
      refine ⟨?_, ?_, ?_, ?_⟩ <;> rw [pl6_get] <;> simp [p, q, r]
      exact Or.inl rfl
    · rw [pl6_ne _ _ _ _ _ _ _ z]; exact ⟨p, q, r, s⟩
  · by_cases z : j = i
    · subst z
      refine ⟨?_, ?_, ?_, ?_, ?_, ?_⟩ <;> rw [pl6_get] <;> simp
    · rw [pl6_ne _ _ _ _ _ _ _ (by omega)]
      exact e j (by omega) hs
set_option maxRecDepth 100000 in
set_option maxHeartbeats 4000000 in
theorem c_X0_makeAnew (q : gQ3) {M : gM} {B : gB} (hI : cI M B) {tl : Nat} {tb : Nat → Nat} (hT : cT M tl tb) {sl : Nat} (h0 : 1 ≤ sl) (h6 : sl ≤ 6) (htl : tl = 8 * sl + 1) (hs : 4 * sl < tl ∧ tb (4 * sl) = 47) (hmin : ∀ n, 1 ≤ n → n < sl → ¬ (4 * n < tl ∧ tb (4 * n) = 47)) (hall : ∀ i, i < tl → sfit tb sl i) : gCt (wC q) yX0_makeAnew cX0_makeAnew 9 none 2 [.ref (q.2.2 9), .ref (q.2.2 1)] M (fun v M' => v = none ∧ cI M' (mkB B tb sl) ∧ sameO (fun i => 9 ≤ i ∧ i < 27) M M') := by
  refine gMet RX0 (by decide +kernel) rfl (Nat.le_of_ble_eq_true rfl) (fun X hC => ?_)
  have hC : gC X (wC q) cX0_makeAnew 9 RX0 none 2 := hC
  show gG X (wC q) _ 9 M 0 [(0, .ref (q.2.2 9)), (1, .ref (q.2.2 1))] []
  have ht := hT.2.1
  subst htl
  refine g_aload_n hC (gDec_at DX0_makeAnew_0 0 rfl) rfl ?_
  refine g_callVd (w := wC q) hC 1 (c_X4_slashAt q hT h0 h6 hs hmin) vf_X4_slashAt ml_X0_36 (by decide) (show 1 < 63 from by decide) rfl rfl rfl rfl rfl (Nat.le_of_ble_eq_true rfl) (gDec_at DX0_makeAnew_0 1 rfl) ?_
  refine g_istore_n hC (gDec_at DX0_makeAnew_0 2 rfl) (by decide) (L' := [(2, .int (nI (4 * sl))), (0, .ref (q.2.2 9)), (1, .ref (q.2.2 1))]) rfl ?_
  refine g_aload_n hC (gDec_at DX0_makeAnew_0 3 rfl) rfl ?_
  refine g_iload_n hC (gDec_at DX0_makeAnew_0 4 rfl) rfl ?_
  refine g_iconst hC (gDec_at DX0_makeAnew_0 5 rfl) (v := nI 4) (by decide) ?_
  refine g_idiv hC (gDec_at DX0_makeAnew_0 6 rfl) (by decide) (v := (nI sl)) ((pk_div (by omega) (by decide) (by decide)).trans (congrArg nI (by omega))) ?_
  refine g_putI (w := wC q) hC 9 fl_X0_29 fp_0_2 (show 9 < 63 from by decide) rfl (Nat.le_of_ble_eq_true rfl) rfl rfl (gDec_at DX0_makeAnew_0 7 rfl) ?_
  refine g_aload_n hC (gDec_at DX0_makeAnew_0 8 rfl) rfl ?_
  refine g_bipush hC (gDec_at DX0_makeAnew_0 9 rfl) (v := -9) (by decide) ?_
  refine g_putI (w := wC q) hC 9 fl_X0_33 fp_0_3 (show 9 < 63 from by decide) rfl (Nat.le_of_ble_eq_true rfl) rfl rfl (gDec_at DX0_makeAnew_0 10 rfl) ?_
  refine g_aload_n hC (gDec_at DX0_makeAnew_0 11 rfl) rfl ?_
  refine g_get (w := wC q) hC 9 (v := .ref (q.2.2 11)) fl_X0_22 (show 9 < 63 from by decide) rfl rfl (gDec_at DX0_makeAnew_0 12 rfl) ?_
  refine g_astore_n hC (gDec_at DX0_makeAnew_0 13 rfl) (by decide) (L' := [(3, .ref (q.2.2 11)), (2, .int (nI (4 * sl))), (0, .ref (q.2.2 9)), (1, .ref (q.2.2 1))]) rfl ?_
  refine g_aload_n hC (gDec_at DX0_makeAnew_0 14 rfl) rfl ?_
  refine g_alen (w := wC q) hC 11 3 (show 11 < 63 from by decide) rfl rfl (gDec_at DX0_makeAnew_0 15 rfl) ?_
  refine g_istore hC (gDec_at DX0_makeAnew_0 16 rfl) (by decide) (L' := [(4, .int (nI 12)), (3, .ref (q.2.2 11)), (2, .int (nI (4 * sl))), (0, .ref (q.2.2 9)), (1, .ref (q.2.2 1))]) rfl ?_
  refine g_iconst hC (gDec_at DX0_makeAnew_0 17 rfl) (v := nI 0) (by decide) ?_
  refine g_istore hC (gDec_at DX0_makeAnew_0 18 rfl) (by decide) (L' := [(5, .int (nI 0)), (4, .int (nI 12)), (3, .ref (q.2.2 11)), (2, .int (nI (4 * sl))), (0, .ref (q.2.2 9)), (1, .ref (q.2.2 1))]) rfl ?_
  have loop30 : ∀ (fu i : Nat) (M1 : gM), i ≤ 12 → 12 - i < fu → mkI M M1 tb sl i → gG X (wC q) (fun v M' => v = none ∧ cI M' (mkB B tb sl) ∧ sameO (fun i => 9 ≤ i ∧ i < 27) M M') 9 M1 30 [(0, .ref (q.2.2 9)), (1, .ref (q.2.2 1)), (2, .int (nI (4 * sl))), (3, .ref (q.2.2 11)), (4, .int (nI 12)), (5, .int (nI i))] [] := by
    intro fu; induction fu with
    | zero => intro i M1 h1 h2; omega
    | succ fu ih =>
      intro i M1 hi hfu hm1
      have hsd := (hm1.1 0 (by omega))
      refine g_iload hC (gDec_at DX0_makeAnew_0 19 rfl) rfl ?_
      refine g_iload hC (gDec_at DX0_makeAnew_0 20 rfl) rfl ?_
      refine g_icmp_geN hC (by omega) (by omega) (gDec_at DX0_makeAnew_0 21 rfl) 122 (by decide) (fun h34 => ?_) (fun h34 => ?_)
      · skip
        obtain rfl : i = 12 := by omega
        refine g_vret hC (gDec_at DX0_makeAnew_1 7 rfl) ?_
        exact ⟨rfl, mkI_end hI h0 h6 hall hm1, hm1.2.2.2.2.2⟩
      · skip
        refine g_aload_n hC (gDec_at DX0_makeAnew_0 22 rfl) rfl ?_
        refine g_iload hC (gDec_at DX0_makeAnew_0 23 rfl) rfl ?_
        refine g_aald (w := wC q) hC 11 3 i (a := q.2.2 (15 + i)) (show 11 < 63 from by decide) rfl rfl (by omega) (by decide) rfl (gDec_at DX0_makeAnew_0 24 rfl) ?_
        refine g_astore hC (gDec_at DX0_makeAnew_0 25 rfl) (by decide) (L' := [(6, .ref (q.2.2 (15 + i))), (0, .ref (q.2.2 9)), (1, .ref (q.2.2 1)), (2, .int (nI (4 * sl))), (3, .ref (q.2.2 11)), (4, .int (nI 12)), (5, .int (nI i))]) rfl ?_
        refine g_aload_n hC (gDec_at DX0_makeAnew_0 26 rfl) rfl ?_
        refine g_aload hC (gDec_at DX0_makeAnew_0 27 rfl) rfl ?_
        refine g_callVd (w := wC q) hC 9 (c_X0_hasW q hm1.2.1 h6 (hm1.1 0 (by omega) i (by omega)).2.1 (by omega)) vf_X0_has ml_X0_42 (by decide) (show 9 < 63 from by decide) rfl rfl rfl rfl rfl (Nat.le_of_ble_eq_true rfl) (gDec_at DX0_makeAnew_0 28 rfl) ?_
        refine g_if_eqB hC (gDec_at DX0_makeAnew_0 29 rfl) 116 (by decide) (fun h49 => ?_) (fun h49 => ?_)
        · skip
          refine g_iincN hC (gDec_at DX0_makeAnew_1 5 rfl) rfl (by decide) (L' := [(5, .int (nI (i + 1))), (6, .ref (q.2.2 (15 + i))), (0, .ref (q.2.2 9)), (1, .ref (q.2.2 1)), (2, .int (nI (4 * sl))), (3, .ref (q.2.2 11)), (4, .int (nI 12))]) rfl ?_
          refine g_goto hC (gDec_at DX0_makeAnew_1 6 rfl) 30 (by decide) ?_
          refine g_sub [2, 3, 4, 5, 6, 0] (L' := [(0, .ref (q.2.2 9)), (1, .ref (q.2.2 1)), (2, .int (nI (4 * sl))), (3, .ref (q.2.2 11)), (4, .int (nI 12)), (5, .int (nI (i + 1)))]) rfl ?_
          have h9 := ih (i + 1) M1 (by omega) (by omega) (mkI_k hm1 h49)
          exact h9
        · skip
          have hps := pos_lt (by omega : i < 12) h49
          have hdg := mk_dig hall (by omega : i < 12) h49
          refine g_aload hC (gDec_at DX0_makeAnew_0 30 rfl) rfl ?_
          refine g_get (w := wC q) hC (15 + i) (v := .int (nI (i / 6))) fl_X0_46 (show 15 + i < 63 from by have := (by omega); omega) (cC_p0 q _ _ (by omega)) (g_sv (hm1.1 0 (by omega) i (by omega)).1) (gDec_at DX0_makeAnew_0 31 rfl) ?_
          refine g_iload_n hC (gDec_at DX0_makeAnew_0 32 rfl) rfl ?_
          refine g_iconst hC (gDec_at DX0_makeAnew_0 33 rfl) (v := nI 1) (by decide) ?_
          refine g_iaddN hC (gDec_at DX0_makeAnew_0 34 rfl) ?_
          refine g_imulN hC (gDec_at DX0_makeAnew_0 35 rfl) ?_
          refine g_iconst hC (gDec_at DX0_makeAnew_0 36 rfl) (v := nI 4) (by decide) ?_
          refine g_aload hC (gDec_at DX0_makeAnew_0 37 rfl) rfl ?_
          refine g_get (w := wC q) hC (15 + i) (v := .int (nI (i % 6 + 1))) fl_X0_49 (show 15 + i < 63 from by have := (by omega); omega) (cC_p0 q _ _ (by omega)) (g_sv (hm1.1 0 (by omega) i (by omega)).2.1) (gDec_at DX0_makeAnew_0 38 rfl) ?_
          refine g_iconst hC (gDec_at DX0_makeAnew_0 39 rfl) (v := nI 1) (by decide) ?_
          refine g_isubN hC (by omega) (gDec_at DX0_makeAnew_0 40 rfl) ?_
          refine g_imulN hC (gDec_at DX0_makeAnew_0 41 rfl) ?_
          refine g_iaddN hC (gDec_at DX0_makeAnew_0 42 rfl) ?_
          refine g_st (st' := [.int (nI (pos sl i))]) rfl ?_
          refine g_istore hC (gDec_at DX0_makeAnew_0 43 rfl) (by decide) (L' := [(7, .int (nI (pos sl i))), (6, .ref (q.2.2 (15 + i))), (0, .ref (q.2.2 9)), (1, .ref (q.2.2 1)), (2, .int (nI (4 * sl))), (3, .ref (q.2.2 11)), (4, .int (nI 12)), (5, .int (nI i))]) rfl ?_
          refine g_bipush hC (gDec_at DX0_makeAnew_0 44 rfl) (v := nI 10) (by decide) ?_
          refine g_aload_n hC (gDec_at DX0_makeAnew_0 45 rfl) rfl ?_
          refine g_iload hC (gDec_at DX0_makeAnew_0 46 rfl) rfl ?_
          refine g_iconst hC (gDec_at DX0_makeAnew_0 47 rfl) (v := nI 1) (by decide) ?_
          refine g_iaddN hC (gDec_at DX0_makeAnew_0 48 rfl) ?_
          refine g_callVd (w := wC q) hC 1 (c_X4_figureAtN q (cT_same hT hm1.2.2.2.2.2 (by omega) (by omega)) (i := ((pos sl i) + 1)) (by omega) (by omega)) vf_X4_figureAt ml_X0_52 (by decide) (show 1 < 63 from by decide) rfl rfl rfl rfl rfl (Nat.le_of_ble_eq_true rfl) (gDec_at DX0_makeAnew_0 49 rfl) ?_
          refine g_imulN hC (gDec_at DX0_makeAnew_0 50 rfl) ?_
          refine g_aload_n hC (gDec_at DX0_makeAnew_0 51 rfl) rfl ?_
          refine g_iload hC (gDec_at DX0_makeAnew_0 52 rfl) rfl ?_
          refine g_iconst hC (gDec_at DX0_makeAnew_0 53 rfl) (v := nI 2) (by decide) ?_
          refine g_iaddN hC (gDec_at DX0_makeAnew_0 54 rfl) ?_
          refine g_callVd (w := wC q) hC 1 (c_X4_figureAtN q (cT_same hT hm1.2.2.2.2.2 (by omega) (by omega)) (i := ((pos sl i) + 2)) (by omega) (by omega)) vf_X4_figureAt ml_X0_52 (by decide) (show 1 < 63 from by decide) rfl rfl rfl rfl rfl (Nat.le_of_ble_eq_true rfl) (gDec_at DX0_makeAnew_0 55 rfl) ?_
          refine g_iaddN hC (gDec_at DX0_makeAnew_0 56 rfl) ?_
          refine g_istore hC (gDec_at DX0_makeAnew_0 57 rfl) (by decide) (L' := [(8, .int (nI ((10 * (tb ((pos sl i) + 1) - 48)) + (tb ((pos sl i) + 2) - 48)))), (7, .int (nI (pos sl i))), (6, .ref (q.2.2 (15 + i))), (0, .ref (q.2.2 9)), (1, .ref (q.2.2 1)), (2, .int (nI (4 * sl))), (3, .ref (q.2.2 11)), (4, .int (nI 12)), (5, .int (nI i))]) rfl ?_
          refine g_aload hC (gDec_at DX0_makeAnew_0 58 rfl) rfl ?_
          refine g_aload_n hC (gDec_at DX0_makeAnew_0 59 rfl) rfl ?_
          refine g_iload hC (gDec_at DX0_makeAnew_0 60 rfl) rfl ?_
          refine g_callVd (w := wC q) hC 1 (c_X4_figureAtN q (cT_same hT hm1.2.2.2.2.2 (by omega) (by omega)) (i := (pos sl i)) (by omega) (by omega)) vf_X4_figureAt ml_X0_52 (by decide) (show 1 < 63 from by decide) rfl rfl rfl rfl rfl (Nat.le_of_ble_eq_true rfl) (gDec_at DX0_makeAnew_0 61 rfl) ?_
          refine g_iload hC (gDec_at DX0_makeAnew_0 62 rfl) rfl ?_
          refine g_aload_n hC (gDec_at DX0_makeAnew_0 63 rfl) rfl ?_
          refine g_iload hC (gDec_at DX0_makeAnew_1 0 rfl) rfl ?_
          refine g_iconst hC (gDec_at DX0_makeAnew_1 1 rfl) (v := nI 3) (by decide) ?_
          refine g_iaddN hC (gDec_at DX0_makeAnew_1 2 rfl) ?_
          refine g_callVd (w := wC q) hC 1 (c_X4_figureAtN q (cT_same hT hm1.2.2.2.2.2 (by omega) (by omega)) (i := ((pos sl i) + 3)) (by omega) (by omega)) vf_X4_figureAt ml_X0_52 (by decide) (show 1 < 63 from by decide) rfl rfl rfl rfl rfl (Nat.le_of_ble_eq_true rfl) (gDec_at DX0_makeAnew_1 3 rfl) ?_
          refine g_callVn (w := wC q) hC (15 + i) (c_X1_makeAnew q (by omega) _ _ _) vf_X1_makeAnew ml_X0_56 (by decide) (show 15 + i < 63 from by have := (by omega); omega) (cC_p0 q _ _ (by omega)) rfl rfl rfl rfl (Nat.le_of_ble_eq_true rfl) (gDec_at DX0_makeAnew_1 4 rfl) ?_
          refine g_iincN hC (gDec_at DX0_makeAnew_1 5 rfl) rfl (by decide) (L' := [(5, .int (nI (i + 1))), (8, .int (nI ((10 * (tb ((pos sl i) + 1) - 48)) + (tb ((pos sl i) + 2) - 48)))), (7, .int (nI (pos sl i))), (6, .ref (q.2.2 (15 + i))), (0, .ref (q.2.2 9)), (1, .ref (q.2.2 1)), (2, .int (nI (4 * sl))), (3, .ref (q.2.2 11)), (4, .int (nI 12))]) rfl ?_
          refine g_goto hC (gDec_at DX0_makeAnew_1 6 rfl) 30 (by decide) ?_
          refine g_sub [4, 5, 6, 7, 8, 0] (L' := [(0, .ref (q.2.2 9)), (1, .ref (q.2.2 1)), (2, .int (nI (4 * sl))), (3, .ref (q.2.2 11)), (4, .int (nI 12)), (5, .int (nI (i + 1)))]) rfl ?_
          have h9 := ih (i + 1) _ (by omega) (by omega) (mkI_s hm1 (by omega))
          exact h9
  exact g_sub [4, 5, 3, 2, 1, 0] rfl (loop30 (12 + 1 - 0) 0 _ (by omega) (by omega) ⟨bK_up (bK_up hI.1 (by omega) (by omega)) (by omega) (by omega), by rw [gupd_get, if_neg (by omega), gupd_get, if_pos ⟨rfl, rfl⟩], by rw [gupd_get, if_pos ⟨rfl, rfl⟩], fun k hk => by funext c; rw [gupd_get, if_neg (by omega), gupd_get, if_neg (by omega)], fun j hj => absurd hj (Nat.not_lt_zero j), sameO_up (sameO_up sameO_rf (by omega)) (by omega)⟩)
