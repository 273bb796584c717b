/-! The text: where it is at fault; a bow made anew, copied -/
theorem sgn_47 {tl : Nat} {tb : Nat → Nat} (hb : ∀ i, i < tl → tb i < 256) (i : Nat) : sgn tl tb i = nI 47 ↔ i < tl ∧ tb i = 47 := by
  unfold sgn
  by_cases h : i < tl
  · rw [if_pos h, nI_eq (by have := hb i h; omega) (by omega)]; simp [h]
  · rw [if_neg h]
    constructor
    · intro q; exact absurd q.symm (nI_n9 (by omega))
    · intro q; exact absurd q.1 h
/-- where the first limb ends: 4 sl; 0: nowhere -/
def sSl (tl : Nat) (tb : Nat → Nat) (sl : Nat) : Prop := (sl = 0 ∧ ∀ n, 1 ≤ n → n ≤ 6 → ¬ (4 * n < tl ∧ tb (4 * n) = 47)) ∨ (1 ≤ sl ∧ sl ≤ 6 ∧ (4 * sl < tl ∧ tb (4 * sl) = 47) ∧ ∀ n, 1 ≤ n → n < sl → ¬ (4 * n < tl ∧ tb (4 * n) = 47))
def sfit (tb : Nat → Nat) (sl i : Nat) : Prop := ((sl = 0 ∨ i < 4 * sl) ∧ i < 24 ∧ ffit (i % 4) (tb (i - 1)) (tb i)) ∨ (0 < sl ∧ 4 * sl ≤ i ∧ (i = 4 * sl ∨ (i ≤ 8 * sl ∧ ffit ((i - 4 * sl - 1) % 4) (tb (i - 1)) (tb i))))
def skv (sl : Nat) : Int32 := if sl = 0 then -9 else nI (4 * sl)
set_option maxRecDepth 100000 in
set_option maxHeartbeats 4000000 in
theorem c_X4_slashAt_no (q : gQ3) {M : gM} {tl : Nat} {tb : Nat → Nat} (hT : cT M tl tb) (hs : ∀ n, 1 ≤ n → n ≤ 6 → ¬ (4 * n < tl ∧ tb (4 * n) = 47)) : gCt (wC q) yX4_slashAt cX4_slashAt 2 (some .int) 1 [.ref (q.2.2 1)] M (gR (some (.int (-9))) M) := by
  refine gMet RX4 (by decide +kernel) rfl (Nat.le_of_ble_eq_true rfl) (fun X hC => ?_)
  have hC : gC X (wC q) cX4_slashAt 2 RX4 (some .int) 1 := hC
  show gG X (wC q) _ 2 M 0 [(0, .ref (q.2.2 1))] []
  have ht := hT.2.1
  have hby := fun i h => (hT.2.2 i h).2
  refine g_iconst hC (gDec_at DX4_slashAt_0 0 rfl) (v := nI 1) (by decide) ?_
  refine g_istore_n hC (gDec_at DX4_slashAt_0 1 rfl) (by decide) (L' := [(1, .int (nI 1)), (0, .ref (q.2.2 1))]) rfl ?_
  have loop2 : ∀ (fu i : Nat), i ≤ 7 → 7 - i < fu → 1 ≤ i → gG X (wC q) (gR (some (.int (-9))) M) 2 M 2 [(0, .ref (q.2.2 1)), (1, .int (nI i))] [] := by
    intro fu; induction fu with
    | zero => intro i h1 h2; omega
    | succ fu ih =>
      intro i hi hfu h1i
      refine g_iload_n hC (gDec_at DX4_slashAt_0 2 rfl) rfl ?_
      refine g_bipush hC (gDec_at DX4_slashAt_0 3 rfl) (v := nI 6) (by decide) ?_
      refine g_icmp_gtN hC (by omega) (by omega) (gDec_at DX4_slashAt_0 4 rfl) 30 (by decide) (fun h5 => ?_) (fun h5 => ?_)
      · skip
        skip
        refine g_bipush hC (gDec_at DX4_slashAt_0 18 rfl) (v := -9) (by decide) ?_
        refine g_iret hC (gDec_at DX4_slashAt_0 19 rfl) ?_
        exact ⟨rfl, rfl⟩
      · skip
        refine g_aload_n hC (gDec_at DX4_slashAt_0 5 rfl) rfl ?_
        refine g_iconst hC (gDec_at DX4_slashAt_0 6 rfl) (v := nI 4) (by decide) ?_
        refine g_iload_n hC (gDec_at DX4_slashAt_0 7 rfl) rfl ?_
        refine g_imulN hC (gDec_at DX4_slashAt_0 8 rfl) ?_
        refine g_callVd (w := wC q) hC 1 (c_X4_signAt q hT (i := (4 * i)) (by omega)) vf_X4_signAt ml_X4_19 (by decide) (show 1 < 63 from by decide) rfl rfl rfl rfl rfl (Nat.le_of_ble_eq_true rfl) (gDec_at DX4_slashAt_0 9 rfl) ?_
        refine g_bipush hC (gDec_at DX4_slashAt_0 10 rfl) (v := nI 47) (by decide) ?_
        refine g_icmp_ne hC (gDec_at DX4_slashAt_0 11 rfl) 24 (by decide) (fun h17 => ?_) (fun h17 => ?_)
        · skip
          refine g_iincN hC (gDec_at DX4_slashAt_0 16 rfl) rfl (by decide) (L' := [(1, .int (nI (i + 1))), (0, .ref (q.2.2 1))]) rfl ?_
          refine g_goto hC (gDec_at DX4_slashAt_0 17 rfl) 2 (by decide) ?_
          refine g_sub [1, 0] (L' := [(0, .ref (q.2.2 1)), (1, .int (nI (i + 1)))]) rfl ?_
          have h9 := ih (i + 1) (by omega) (by omega) (by omega)
          exact h9
        · skip
          exact absurd ((sgn_47 hby _).mp h17) (hs i (by omega) (by omega))
  exact g_sub [1, 0] rfl (loop2 (7 + 1 - 1) 1 (by omega) (by omega) (by omega))

set_option maxRecDepth 100000 in
set_option maxHeartbeats 4000000 in
theorem c_X4_slashAt (q : gQ3) {M : gM} {tl : Nat} {tb : Nat → Nat} (hT : cT M tl tb) {sl : Nat} (h1 : 1 ≤ sl) (h6 : sl ≤ 6) (hs : 4 * sl < tl ∧ tb (4 * sl) = 47) (hmin : ∀ n, 1 ≤ n → n < sl → ¬ (4 * n < tl ∧ tb (4 * n) = 47)) : gCt (wC q) yX4_slashAt cX4_slashAt 2 (some .int) 1 [.ref (q.2.2 1)] M (gR (some (.int (nI (4 * sl)))) M) := by
  refine gMet RX4 (by decide +kernel) rfl (Nat.le_of_ble_eq_true rfl) (fun X hC => ?_)
  have hC : gC X (wC q) cX4_slashAt 2 RX4 (some .int) 1 := hC
  show gG X (wC q) _ 2 M 0 [(0, .ref (q.2.2 1))] []
  have ht := hT.2.1
  have hby := fun i h => (hT.2.2 i h).2
  refine g_iconst hC (gDec_at DX4_slashAt_0 0 rfl) (v := nI 1) (by decide) ?_
  refine g_istore_n hC (gDec_at DX4_slashAt_0 1 rfl) (by decide) (L' := [(1, .int (nI 1)), (0, .ref (q.2.2 1))]) rfl ?_
  have loop2 : ∀ (fu i : Nat), i ≤ sl → sl - i < fu → 1 ≤ i → gG X (wC q) (gR (some (.int (nI (4 * sl)))) M) 2 M 2 [(0, .ref (q.2.2 1)), (1, .int (nI i))] [] := by
    intro fu; induction fu with
    | zero => intro i h1 h2; omega
    | succ fu ih =>
      intro i hi hfu h1i
      refine g_iload_n hC (gDec_at DX4_slashAt_0 2 rfl) rfl ?_
      refine g_bipush hC (gDec_at DX4_slashAt_0 3 rfl) (v := nI 6) (by decide) ?_
      refine g_icmp_gtN hC (by omega) (by omega) (gDec_at DX4_slashAt_0 4 rfl) 30 (by decide) (fun h5 => ?_) (fun h5 => ?_)
      · skip
        exact absurd h5 (by omega)
      · skip
        refine g_aload_n hC (gDec_at DX4_slashAt_0 5 rfl) rfl ?_
        refine g_iconst hC (gDec_at DX4_slashAt_0 6 rfl) (v := nI 4) (by decide) ?_
        refine g_iload_n hC (gDec_at DX4_slashAt_0 7 rfl) rfl ?_
        refine g_imulN hC (gDec_at DX4_slashAt_0 8 rfl) ?_
        refine g_callVd (w := wC q) hC 1 (c_X4_signAt q hT (i := (4 * i)) (by omega)) vf_X4_signAt ml_X4_19 (by decide) (show 1 < 63 from by decide) rfl rfl rfl rfl rfl (Nat.le_of_ble_eq_true rfl) (gDec_at DX4_slashAt_0 9 rfl) ?_
        refine g_bipush hC (gDec_at DX4_slashAt_0 10 rfl) (v := nI 47) (by decide) ?_
        refine g_icmp_ne hC (gDec_at DX4_slashAt_0 11 rfl) 24 (by decide) (fun h17 => ?_) (fun h17 => ?_)
        · skip
          have hlt : i < sl := by rcases Nat.lt_or_ge i sl with z | z; exact z; exact absurd ((sgn_47 hby _).mpr (by rw [show i = sl by omega]; exact hs)) h17
          refine g_iincN hC (gDec_at DX4_slashAt_0 16 rfl) rfl (by decide) (L' := [(1, .int (nI (i + 1))), (0, .ref (q.2.2 1))]) rfl ?_
          refine g_goto hC (gDec_at DX4_slashAt_0 17 rfl) 2 (by decide) ?_
          refine g_sub [1, 0] (L' := [(0, .ref (q.2.2 1)), (1, .int (nI (i + 1)))]) rfl ?_
          have h9 := ih (i + 1) (by omega) (by omega) (by omega)
          exact h9
        · skip
          have h17a := (sgn_47 hby _).mp h17
          obtain rfl : i = sl := by rcases Nat.lt_or_ge i sl with z | z; exact absurd h17a (hmin i (by omega) z); omega
          refine g_iconst hC (gDec_at DX4_slashAt_0 12 rfl) (v := nI 4) (by decide) ?_
          refine g_iload_n hC (gDec_at DX4_slashAt_0 13 rfl) rfl ?_
          refine g_imulN hC (gDec_at DX4_slashAt_0 14 rfl) ?_
          refine g_iret hC (gDec_at DX4_slashAt_0 15 rfl) ?_
          exact ⟨rfl, rfl⟩
  exact g_sub [1, 0] rfl (loop2 (sl + 1 - 1) 1 (by omega) (by omega) (by omega))

theorem fit_a {tb : Nat → Nat} {sl i w : Nat} (h : sl = 0 ∨ i < 4 * sl) (h24 : i < 24) (e : i % 4 = w) (hg : ffit w (tb (i - 1)) (tb i)) : sfit tb sl i := Or.inl ⟨h, h24, by rw [e]; exact hg⟩
theorem fit_an {tb : Nat → Nat} {sl i w : Nat} (h : sl = 0 ∨ i < 4 * sl) (e : i % 4 = w) (hg : ¬ ffit w (tb (i - 1)) (tb i)) : ¬ sfit tb sl i := by
  rintro (⟨-, -, q⟩ | ⟨q1, q2, -⟩)
  · rw [e] at q; exact hg q
  · omega
theorem fit_a24 {tb : Nat → Nat} {sl i : Nat} (h : sl = 0 ∨ i < 4 * sl) (h24 : 24 ≤ i) : ¬ sfit tb sl i := by
  rintro (⟨-, q, -⟩ | ⟨q1, q2, -⟩) <;> omega
theorem fit_b {tb : Nat → Nat} {sl i w : Nat} (h0 : 0 < sl) (h : 4 * sl ≤ i) (h8 : i ≤ 8 * sl) (e : (i - 4 * sl - 1) % 4 = w) (hg : ffit w (tb (i - 1)) (tb i)) : sfit tb sl i := Or.inr ⟨h0, h, Or.inr ⟨h8, by rw [e]; exact hg⟩⟩
theorem fit_bn {tb : Nat → Nat} {sl i w : Nat} (h0 : 0 < sl) (h : 4 * sl ≤ i) (hne : ¬ i = 4 * sl) (e : (i - 4 * sl - 1) % 4 = w) (hg : ¬ ffit w (tb (i - 1)) (tb i)) : ¬ sfit tb sl i := by
  rintro (⟨q1, -, -⟩ | ⟨-, -, q | ⟨-, q⟩⟩)
  · omega
  · exact hne q
  · rw [e] at q; exact hg q
theorem fit_b8 {tb : Nat → Nat} {sl i : Nat} (h0 : 0 < sl) (h : 4 * sl ≤ i) (h8 : 8 * sl < i) : ¬ sfit tb sl i := by
  rintro (⟨q1, -, -⟩ | ⟨-, -, q | ⟨q, -⟩⟩) <;> omega
theorem fit_s {tb : Nat → Nat} {sl : Nat} (h0 : 0 < sl) : sfit tb sl (4 * sl) := Or.inr ⟨h0, Nat.le_refl _, Or.inl rfl⟩
set_option maxRecDepth 100000 in
set_option maxHeartbeats 4000000 in
theorem c_X4_fits_no (q : gQ3) {M : gM} {tl : Nat} {tb : Nat → Nat} (hT : cT M tl tb) {i sl : Nat} (hi : i < tl) (h0 : sl = 0) : gCt (wC q) yX4_fits cX4_fits 3 (some .boolean) 3 [.ref (q.2.2 1), .int (nI i), .int (-9)] M (fun v M' => M' = M ∧ ((v = some (.int 1) ∧ sfit tb sl i) ∨ (v = some (.int 0) ∧ ¬ sfit tb sl i))) := by
  refine gMet RX4 (by decide +kernel) rfl (Nat.le_of_ble_eq_true rfl) (fun X hC => ?_)
  have hC : gC X (wC q) cX4_fits 3 RX4 (some .boolean) 3 := hC
  show gG X (wC q) _ 3 M 0 [(0, .ref (q.2.2 1)), (1, .int (nI i)), (2, .int (-9))] []
  have ht := hT.2.1
  refine g_iload_n hC (gDec_at DX4_fits_0 0 rfl) rfl ?_
  refine g_bipush hC (gDec_at DX4_fits_0 1 rfl) (v := -9) (by decide) ?_
  refine g_icmp_eq hC (gDec_at DX4_fits_0 2 rfl) 11 (by decide) (fun h => ?_) (fun h => absurd rfl h)
  refine g_iload_n hC (gDec_at DX4_fits_0 6 rfl) rfl ?_
  refine g_bipush hC (gDec_at DX4_fits_0 7 rfl) (v := nI 24) (by decide) ?_
  refine g_icmp_geN hC (by omega) (by omega) (gDec_at DX4_fits_0 8 rfl) 32 (by decide) (fun h14 => ?_) (fun h14 => ?_)
  · skip
    refine g_iconst hC (gDec_at DX4_fits_0 18 rfl) (v := nI 0) (by decide) ?_
    refine g_zret hC (Or.inl rfl) (gDec_at DX4_fits_0 19 rfl) ?_
    exact ⟨rfl, Or.inr ⟨rfl, fit_a24 (by omega) (by omega)⟩⟩
  · skip
    refine g_aload_n hC (gDec_at DX4_fits_0 9 rfl) rfl ?_
    refine g_iload_n hC (gDec_at DX4_fits_0 10 rfl) rfl ?_
    refine g_iload_n hC (gDec_at DX4_fits_0 11 rfl) rfl ?_
    refine g_iconst hC (gDec_at DX4_fits_0 12 rfl) (v := nI 4) (by decide) ?_
    refine g_iremN hC (by omega) (by omega) (by omega) (gDec_at DX4_fits_0 13 rfl) ?_
    rcases (show i % 4 = 0 ∨ i % 4 = 1 ∨ i % 4 = 2 ∨ i % 4 = 3 by omega) with e | e | e | e
    · skip
      refine g_st (st' := [.int (nI 0), .int (nI i), .ref (q.2.2 1)]) (by rw [e]) ?_
      refine g_callV (w := wC q) hC (i := 1) (c_X4_figureFits_0 q hT (i := i) hi) vf_X4_figureFits ml_X4_31 (by decide) (show 1 < 63 from by decide) rfl rfl rfl rfl rfl (Nat.le_of_ble_eq_true rfl) (gDec_at DX4_fits_0 14 rfl) (fun v_22 M_22 hq_22 => ?_)
      obtain ⟨rfl, hq⟩ := hq_22
      rcases hq with ⟨rfl, hg⟩ | ⟨rfl, hg⟩
      · skip
        refine g_if_eqN hC (by decide) (gDec_at DX4_fits_0 15 rfl) 32 (by decide) (fun h => absurd h (by decide)) (fun h => ?_)
        refine g_iconst hC (gDec_at DX4_fits_0 16 rfl) (v := nI 1) (by decide) ?_
        refine g_goto hC (gDec_at DX4_fits_0 17 rfl) 33 (by decide) ?_
        refine g_zret hC (Or.inr rfl) (gDec_at DX4_fits_0 19 rfl) ?_
        exact ⟨rfl, Or.inl ⟨rfl, fit_a (by omega) (by omega) e hg⟩⟩
      · skip
        refine g_if_eqN hC (by decide) (gDec_at DX4_fits_0 15 rfl) 32 (by decide) (fun h => ?_) (fun h => absurd h (by decide))
        refine g_iconst hC (gDec_at DX4_fits_0 18 rfl) (v := nI 0) (by decide) ?_
        refine g_zret hC (Or.inl rfl) (gDec_at DX4_fits_0 19 rfl) ?_
        exact ⟨rfl, Or.inr ⟨rfl, fit_an (by omega) e hg⟩⟩
    · skip
      refine g_st (st' := [.int (nI 1), .int (nI i), .ref (q.2.2 1)]) (by rw [e]) ?_
      refine g_callV (w := wC q) hC (i := 1) (c_X4_figureFits_1 q hT (i := i) hi) vf_X4_figureFits ml_X4_31 (by decide) (show 1 < 63 from by decide) rfl rfl rfl rfl rfl (Nat.le_of_ble_eq_true rfl) (gDec_at DX4_fits_0 14 rfl) (fun v_22 M_22 hq_22 => ?_)
      obtain ⟨rfl, hq⟩ := hq_22
      rcases hq with ⟨rfl, hg⟩ | ⟨rfl, hg⟩
      · skip
        refine g_if_eqN hC (by decide) (gDec_at DX4_fits_0 15 rfl) 32 (by decide) (fun h => absurd h (by decide)) (fun h => ?_)
        refine g_iconst hC (gDec_at DX4_fits_0 16 rfl) (v := nI 1) (by decide) ?_
        refine g_goto hC (gDec_at DX4_fits_0 17 rfl) 33 (by decide) ?_
        refine g_zret hC (Or.inr rfl) (gDec_at DX4_fits_0 19 rfl) ?_
        exact ⟨rfl, Or.inl ⟨rfl, fit_a (by omega) (by omega) e hg⟩⟩
      · skip
        refine g_if_eqN hC (by decide) (gDec_at DX4_fits_0 15 rfl) 32 (by decide) (fun h => ?_) (fun h => absurd h (by decide))
        refine g_iconst hC (gDec_at DX4_fits_0 18 rfl) (v := nI 0) (by decide) ?_
        refine g_zret hC (Or.inl rfl) (gDec_at DX4_fits_0 19 rfl) ?_
        exact ⟨rfl, Or.inr ⟨rfl, fit_an (by omega) e hg⟩⟩
    · skip
      refine g_st (st' := [.int (nI 2), .int (nI i), .ref (q.2.2 1)]) (by rw [e]) ?_
      refine g_callV (w := wC q) hC (i := 1) (c_X4_figureFits_2 q hT (i := i) hi (by omega)) vf_X4_figureFits ml_X4_31 (by decide) (show 1 < 63 from by decide) rfl rfl rfl rfl rfl (Nat.le_of_ble_eq_true rfl) (gDec_at DX4_fits_0 14 rfl) (fun v_22 M_22 hq_22 => ?_)
      obtain ⟨rfl, hq⟩ := hq_22
      rcases hq with ⟨rfl, hg⟩ | ⟨rfl, hg⟩
      · skip
        refine g_if_eqN hC (by decide) (gDec_at DX4_fits_0 15 rfl) 32 (by decide) (fun h => absurd h (by decide)) (fun h => ?_)
        refine g_iconst hC (gDec_at DX4_fits_0 16 rfl) (v := nI 1) (by decide) ?_
        refine g_goto hC (gDec_at DX4_fits_0 17 rfl) 33 (by decide) ?_
        refine g_zret hC (Or.inr rfl) (gDec_at DX4_fits_0 19 rfl) ?_
        exact ⟨rfl, Or.inl ⟨rfl, fit_a (by omega) (by omega) e hg⟩⟩
      · skip
        refine g_if_eqN hC (by decide) (gDec_at DX4_fits_0 15 rfl) 32 (by decide) (fun h => ?_) (fun h => absurd h (by decide))
        refine g_iconst hC (gDec_at DX4_fits_0 18 rfl) (v := nI 0) (by decide) ?_
        refine g_zret hC (Or.inl rfl) (gDec_at DX4_fits_0 19 rfl) ?_
        exact ⟨rfl, Or.inr ⟨rfl, fit_an (by omega) e hg⟩⟩
    · skip
      refine g_st (st' := [.int (nI 3), .int (nI i), .ref (q.2.2 1)]) (by rw [e]) ?_
      refine g_callV (w := wC q) hC (i := 1) (c_X4_figureFits_3 q hT (i := i) hi) vf_X4_figureFits ml_X4_31 (by decide) (show 1 < 63 from by decide) rfl rfl rfl rfl rfl (Nat.le_of_ble_eq_true rfl) (gDec_at DX4_fits_0 14 rfl) (fun v_22 M_22 hq_22 => ?_)
      obtain ⟨rfl, hq⟩ := hq_22
      rcases hq with ⟨rfl, hg⟩ | ⟨rfl, hg⟩
      · skip
        refine g_if_eqN hC (by decide) (gDec_at DX4_fits_0 15 rfl) 32 (by decide) (fun h => absurd h (by decide)) (fun h => ?_)
        refine g_iconst hC (gDec_at DX4_fits_0 16 rfl) (v := nI 1) (by decide) ?_
        refine g_goto hC (gDec_at DX4_fits_0 17 rfl) 33 (by decide) ?_
        refine g_zret hC (Or.inr rfl) (gDec_at DX4_fits_0 19 rfl) ?_
        exact ⟨rfl, Or.inl ⟨rfl, fit_a (by omega) (by omega) e hg⟩⟩
      · skip
        refine g_if_eqN hC (by decide) (gDec_at DX4_fits_0 15 rfl) 32 (by decide) (fun h => ?_) (fun h => absurd h (by decide))
        refine g_iconst hC (gDec_at DX4_fits_0 18 rfl) (v := nI 0) (by decide) ?_
        refine g_zret hC (Or.inl rfl) (gDec_at DX4_fits_0 19 rfl) ?_
        exact ⟨rfl, Or.inr ⟨rfl, fit_an (by omega) e hg⟩⟩

set_option maxRecDepth 100000 in
set_option maxHeartbeats 4000000 in
theorem c_X4_fits (q : gQ3) {M : gM} {tl : Nat} {tb : Nat → Nat} (hT : cT M tl tb) {i sl : Nat} (hi : i < tl) (h0 : 1 ≤ sl) (h6 : sl ≤ 6) : gCt (wC q) yX4_fits cX4_fits 3 (some .boolean) 3 [.ref (q.2.2 1), .int (nI i), .int (nI (4 * sl))] M (fun v M' => M' = M ∧ ((v = some (.int 1) ∧ sfit tb sl i) ∨ (v = some (.int 0) ∧ ¬ sfit tb sl i))) := by
  refine gMet RX4 (by decide +kernel) rfl (Nat.le_of_ble_eq_true rfl) (fun X hC => ?_)
  have hC : gC X (wC q) cX4_fits 3 RX4 (some .boolean) 3 := hC
  show gG X (wC q) _ 3 M 0 [(0, .ref (q.2.2 1)), (1, .int (nI i)), (2, .int (nI (4 * sl)))] []
  have ht := hT.2.1
  refine g_iload_n hC (gDec_at DX4_fits_0 0 rfl) rfl ?_
  refine g_bipush hC (gDec_at DX4_fits_0 1 rfl) (v := -9) (by decide) ?_
  refine g_icmp_eq hC (gDec_at DX4_fits_0 2 rfl) 11 (by decide) (fun h => absurd h (nI_n9 (by omega))) (fun h => ?_)
  refine g_iload_n hC (gDec_at DX4_fits_0 3 rfl) rfl ?_
  refine g_iload_n hC (gDec_at DX4_fits_0 4 rfl) rfl ?_
  refine g_icmp_geN hC (by omega) (by omega) (gDec_at DX4_fits_0 5 rfl) 34 (by decide) (fun h8 => ?_) (fun h8 => ?_)
  · skip
    refine g_iload_n hC (gDec_at DX4_fits_0 20 rfl) rfl ?_
    refine g_iload_n hC (gDec_at DX4_fits_0 21 rfl) rfl ?_
    refine g_icmp_eqN hC (by omega) (by omega) (gDec_at DX4_fits_0 22 rfl) 61 (by decide) (fun h36 => ?_) (fun h36 => ?_)
    · skip
      refine g_iconst hC (gDec_at DX4_fits_0 39 rfl) (v := nI 1) (by decide) ?_
      refine g_goto hC (gDec_at DX4_fits_0 40 rfl) 66 (by decide) ?_
      refine g_zret hC (Or.inr rfl) (gDec_at DX4_fits_0 42 rfl) ?_
      exact ⟨rfl, Or.inl ⟨rfl, by rw [h36]; exact fit_s (by omega)⟩⟩
    · skip
      have h36g : 4 * sl < i := by omega
      refine g_iload_n hC (gDec_at DX4_fits_0 23 rfl) rfl ?_
      refine g_iconst hC (gDec_at DX4_fits_0 24 rfl) (v := nI 2) (by decide) ?_
      refine g_iload_n hC (gDec_at DX4_fits_0 25 rfl) rfl ?_
      refine g_imulN hC (gDec_at DX4_fits_0 26 rfl) ?_
      refine g_icmp_gtN hC (by omega) (by omega) (gDec_at DX4_fits_0 27 rfl) 65 (by decide) (fun h43 => ?_) (fun h43 => ?_)
      · skip
        have h43g : 8 * sl < i := by omega
        refine g_iconst hC (gDec_at DX4_fits_0 41 rfl) (v := nI 0) (by decide) ?_
        refine g_zret hC (Or.inl rfl) (gDec_at DX4_fits_0 42 rfl) ?_
        exact ⟨rfl, Or.inr ⟨rfl, fit_b8 (by omega) (by omega) (by omega)⟩⟩
      · skip
        refine g_aload_n hC (gDec_at DX4_fits_0 28 rfl) rfl ?_
        refine g_iload_n hC (gDec_at DX4_fits_0 29 rfl) rfl ?_
        refine g_iload_n hC (gDec_at DX4_fits_0 30 rfl) rfl ?_
        refine g_iload_n hC (gDec_at DX4_fits_0 31 rfl) rfl ?_
        refine g_isubN hC (by omega) (gDec_at DX4_fits_0 32 rfl) ?_
        refine g_iconst hC (gDec_at DX4_fits_0 33 rfl) (v := nI 1) (by decide) ?_
        refine g_isubN hC (by omega) (gDec_at DX4_fits_0 34 rfl) ?_
        refine g_iconst hC (gDec_at DX4_fits_0 35 rfl) (v := nI 4) (by decide) ?_
        refine g_iremN hC (by omega) (by omega) (by omega) (gDec_at DX4_fits_0 36 rfl) ?_
        rcases (show (i - 4 * sl - 1) % 4 = 0 ∨ (i - 4 * sl - 1) % 4 = 1 ∨ (i - 4 * sl - 1) % 4 = 2 ∨ (i - 4 * sl - 1) % 4 = 3 by omega) with e | e | e | e
        · skip
          refine g_st (st' := [.int (nI 0), .int (nI i), .ref (q.2.2 1)]) (by rw [e]) ?_
          refine g_callV (w := wC q) hC (i := 1) (c_X4_figureFits_0 q hT (i := i) hi) vf_X4_figureFits ml_X4_31 (by decide) (show 1 < 63 from by decide) rfl rfl rfl rfl rfl (Nat.le_of_ble_eq_true rfl) (gDec_at DX4_fits_0 37 rfl) (fun v_55 M_55 hq_55 => ?_)
          obtain ⟨rfl, hq⟩ := hq_55
          rcases hq with ⟨rfl, hg⟩ | ⟨rfl, hg⟩
          · skip
            refine g_if_eqN hC (by decide) (gDec_at DX4_fits_0 38 rfl) 65 (by decide) (fun h => absurd h (by decide)) (fun h => ?_)
            refine g_iconst hC (gDec_at DX4_fits_0 39 rfl) (v := nI 1) (by decide) ?_
            refine g_goto hC (gDec_at DX4_fits_0 40 rfl) 66 (by decide) ?_
            refine g_zret hC (Or.inr rfl) (gDec_at DX4_fits_0 42 rfl) ?_
            exact ⟨rfl, Or.inl ⟨rfl, fit_b (by omega) (by omega) (by omega) e hg⟩⟩
          · skip
            refine g_if_eqN hC (by decide) (gDec_at DX4_fits_0 38 rfl) 65 (by decide) (fun h => ?_) (fun h => absurd h (by decide))
            refine g_iconst hC (gDec_at DX4_fits_0 41 rfl) (v := nI 0) (by decide) ?_
            refine g_zret hC (Or.inl rfl) (gDec_at DX4_fits_0 42 rfl) ?_
            exact ⟨rfl, Or.inr ⟨rfl, fit_bn (by omega) (by omega) (by omega) e hg⟩⟩
        · skip
          refine g_st (st' := [.int (nI 1), .int (nI i), .ref (q.2.2 1)]) (by rw [e]) ?_
          refine g_callV (w := wC q) hC (i := 1) (c_X4_figureFits_1 q hT (i := i) hi) vf_X4_figureFits ml_X4_31 (by decide) (show 1 < 63 from by decide) rfl rfl rfl rfl rfl (Nat.le_of_ble_eq_true rfl) (gDec_at DX4_fits_0 37 rfl) (fun v_55 M_55 hq_55 => ?_)
          obtain ⟨rfl, hq⟩ := hq_55
          rcases hq with ⟨rfl, hg⟩ | ⟨rfl, hg⟩
          · skip
            refine g_if_eqN hC (by decide) (gDec_at DX4_fits_0 38 rfl) 65 (by decide) (fun h => absurd h (by decide)) (fun h => ?_)
            refine g_iconst hC (gDec_at DX4_fits_0 39 rfl) (v := nI 1) (by decide) ?_
            refine g_goto hC (gDec_at DX4_fits_0 40 rfl) 66 (by decide) ?_
            refine g_zret hC (Or.inr rfl) (gDec_at DX4_fits_0 42 rfl) ?_
            exact ⟨rfl, Or.inl ⟨rfl, fit_b (by omega) (by omega) (by omega) e hg⟩⟩
          · skip
            refine g_if_eqN hC (by decide) (gDec_at DX4_fits_0 38 rfl) 65 (by decide) (fun h => ?_) (fun h => absurd h (by decide))
            refine g_iconst hC (gDec_at DX4_fits_0 41 rfl) (v := nI 0) (by decide) ?_
            refine g_zret hC (Or.inl rfl) (gDec_at DX4_fits_0 42 rfl) ?_
            exact ⟨rfl, Or.inr ⟨rfl, fit_bn (by omega) (by omega) (by omega) e hg⟩⟩
        · skip
          refine g_st (st' := [.int (nI 2), .int (nI i), .ref (q.2.2 1)]) (by rw [e]) ?_
          refine g_callV (w := wC q) hC (i := 1) (c_X4_figureFits_2 q hT (i := i) hi (by omega)) vf_X4_figureFits ml_X4_31 (by decide) (show 1 < 63 from by decide) rfl rfl rfl rfl rfl (Nat.le_of_ble_eq_true rfl) (gDec_at DX4_fits_0 37 rfl) (fun v_55 M_55 hq_55 => ?_)
          obtain ⟨rfl, hq⟩ := hq_55
          rcases hq with ⟨rfl, hg⟩ | ⟨rfl, hg⟩
          · skip
            refine g_if_eqN hC (by decide) (gDec_at DX4_fits_0 38 rfl) 65 (by decide) (fun h => absurd h (by decide)) (fun h => ?_)
            refine g_iconst hC (gDec_at DX4_fits_0 39 rfl) (v := nI 1) (by decide) ?_
            refine g_goto hC (gDec_at DX4_fits_0 40 rfl) 66 (by decide) ?_
            refine g_zret hC (Or.inr rfl) (gDec_at DX4_fits_0 42 rfl) ?_
            exact ⟨rfl, Or.inl ⟨rfl, fit_b (by omega) (by omega) (by omega) e hg⟩⟩
          · skip
            refine g_if_eqN hC (by decide) (gDec_at DX4_fits_0 38 rfl) 65 (by decide) (fun h => ?_) (fun h => absurd h (by decide))
            refine g_iconst hC (gDec_at DX4_fits_0 41 rfl) (v := nI 0) (by decide) ?_
            refine g_zret hC (Or.inl rfl) (gDec_at DX4_fits_0 42 rfl) ?_
            exact ⟨rfl, Or.inr ⟨rfl, fit_bn (by omega) (by omega) (by omega) e hg⟩⟩
        · skip
          refine g_st (st' := [.int (nI 3), .int (nI i), .ref (q.2.2 1)]) (by rw [e]) ?_
          refine g_callV (w := wC q) hC (i := 1) (c_X4_figureFits_3 q hT (i := i) hi) vf_X4_figureFits ml_X4_31 (by decide) (show 1 < 63 from by decide) rfl rfl rfl rfl rfl (Nat.le_of_ble_eq_true rfl) (gDec_at DX4_fits_0 37 rfl) (fun v_55 M_55 hq_55 => ?_)
          obtain ⟨rfl, hq⟩ := hq_55
          rcases hq with ⟨rfl, hg⟩ | ⟨rfl, hg⟩
          · skip
            refine g_if_eqN hC (by decide) (gDec_at DX4_fits_0 38 rfl) 65 (by decide) (fun h => absurd h (by decide)) (fun h => ?_)
            refine g_iconst hC (gDec_at DX4_fits_0 39 rfl) (v := nI 1) (by decide) ?_
            refine g_goto hC (gDec_at DX4_fits_0 40 rfl) 66 (by decide) ?_
            refine g_zret hC (Or.inr rfl) (gDec_at DX4_fits_0 42 rfl) ?_
            exact ⟨rfl, Or.inl ⟨rfl, fit_b (by omega) (by omega) (by omega) e hg⟩⟩
          · skip
            refine g_if_eqN hC (by decide) (gDec_at DX4_fits_0 38 rfl) 65 (by decide) (fun h => ?_) (fun h => absurd h (by decide))
            refine g_iconst hC (gDec_at DX4_fits_0 41 rfl) (v := nI 0) (by decide) ?_
            refine g_zret hC (Or.inl rfl) (gDec_at DX4_fits_0 42 rfl) ?_
            exact ⟨rfl, Or.inr ⟨rfl, fit_bn (by omega) (by omega) (by omega) e hg⟩⟩
  · skip
    refine g_iload_n hC (gDec_at DX4_fits_0 6 rfl) rfl ?_
    refine g_bipush hC (gDec_at DX4_fits_0 7 rfl) (v := nI 24) (by decide) ?_
    refine g_icmp_geN hC (by omega) (by omega) (gDec_at DX4_fits_0 8 rfl) 32 (by decide) (fun h14 => ?_) (fun h14 => ?_)
    · skip
      refine g_iconst hC (gDec_at DX4_fits_0 18 rfl) (v := nI 0) (by decide) ?_
      refine g_zret hC (Or.inl rfl) (gDec_at DX4_fits_0 19 rfl) ?_
      exact ⟨rfl, Or.inr ⟨rfl, fit_a24 (by omega) (by omega)⟩⟩
    · skip
      refine g_aload_n hC (gDec_at DX4_fits_0 9 rfl) rfl ?_
      refine g_iload_n hC (gDec_at DX4_fits_0 10 rfl) rfl ?_
      refine g_iload_n hC (gDec_at DX4_fits_0 11 rfl) rfl ?_
      refine g_iconst hC (gDec_at DX4_fits_0 12 rfl) (v := nI 4) (by decide) ?_
      refine g_iremN hC (by omega) (by omega) (by omega) (gDec_at DX4_fits_0 13 rfl) ?_
      rcases (show i % 4 = 0 ∨ i % 4 = 1 ∨ i % 4 = 2 ∨ i % 4 = 3 by omega) with e | e | e | e
      · skip
        refine g_st (st' := [.int (nI 0), .int (nI i), .ref (q.2.2 1)]) (by rw [e]) ?_
        refine g_callV (w := wC q) hC (i := 1) (c_X4_figureFits_0 q hT (i := i) hi) vf_X4_figureFits ml_X4_31 (by decide) (show 1 < 63 from by decide) rfl rfl rfl rfl rfl (Nat.le_of_ble_eq_true rfl) (gDec_at DX4_fits_0 14 rfl) (fun v_22 M_22 hq_22 => ?_)
        obtain ⟨rfl, hq⟩ := hq_22
        rcases hq with ⟨rfl, hg⟩ | ⟨rfl, hg⟩
        · skip
          refine g_if_eqN hC (by decide) (gDec_at DX4_fits_0 15 rfl) 32 (by decide) (fun h => absurd h (by decide)) (fun h => ?_)
          refine g_iconst hC (gDec_at DX4_fits_0 16 rfl) (v := nI 1) (by decide) ?_
          refine g_goto hC (gDec_at DX4_fits_0 17 rfl) 33 (by decide) ?_
          refine g_zret hC (Or.inr rfl) (gDec_at DX4_fits_0 19 rfl) ?_
          exact ⟨rfl, Or.inl ⟨rfl, fit_a (by omega) (by omega) e hg⟩⟩
        · skip
          refine g_if_eqN hC (by decide) (gDec_at DX4_fits_0 15 rfl) 32 (by decide) (fun h => ?_) (fun h => absurd h (by decide))
          refine g_iconst hC (gDec_at DX4_fits_0 18 rfl) (v := nI 0) (by decide) ?_
          refine g_zret hC (Or.inl rfl) (gDec_at DX4_fits_0 19 rfl) ?_
          exact ⟨rfl, Or.inr ⟨rfl, fit_an (by omega) e hg⟩⟩
      · skip
        refine g_st (st' := [.int (nI 1), .int (nI i), .ref (q.2.2 1)]) (by rw [e]) ?_
        refine g_callV (w := wC q) hC (i := 1) (c_X4_figureFits_1 q hT (i := i) hi) vf_X4_figureFits ml_X4_31 (by decide) (show 1 < 63 from by decide) rfl rfl rfl rfl rfl (Nat.le_of_ble_eq_true rfl) (gDec_at DX4_fits_0 14 rfl) (fun v_22 M_22 hq_22 => ?_)
        obtain ⟨rfl, hq⟩ := hq_22
        rcases hq with ⟨rfl, hg⟩ | ⟨rfl, hg⟩
        · skip
          refine g_if_eqN hC (by decide) (gDec_at DX4_fits_0 15 rfl) 32 (by decide) (fun h => absurd h (by decide)) (fun h => ?_)
          refine g_iconst hC (gDec_at DX4_fits_0 16 rfl) (v := nI 1) (by decide) ?_
          refine g_goto hC (gDec_at DX4_fits_0 17 rfl) 33 (by decide) ?_
          refine g_zret hC (Or.inr rfl) (gDec_at DX4_fits_0 19 rfl) ?_
          exact ⟨rfl, Or.inl ⟨rfl, fit_a (by omega) (by omega) e hg⟩⟩
        · skip
          refine g_if_eqN hC (by decide) (gDec_at DX4_fits_0 15 rfl) 32 (by decide) (fun h => ?_) (fun h => absurd h (by decide))
          refine g_iconst hC (gDec_at DX4_fits_0 18 rfl) (v := nI 0) (by decide) ?_
          refine g_zret hC (Or.inl rfl) (gDec_at DX4_fits_0 19 rfl) ?_
          exact ⟨rfl, Or.inr ⟨rfl, fit_an (by omega) e hg⟩⟩
      · skip
        refine g_st (st' := [.int (nI 2), .int (nI i), .ref (q.2.2 1)]) (by rw [e]) ?_
        refine g_callV (w := wC q) hC (i := 1) (c_X4_figureFits_2 q hT (i := i) hi (by omega)) vf_X4_figureFits ml_X4_31 (by decide) (show 1 < 63 from by decide) rfl rfl rfl rfl rfl (Nat.le_of_ble_eq_true rfl) (gDec_at DX4_fits_0 14 rfl) (fun v_22 M_22 hq_22 => ?_)
        obtain ⟨rfl, hq⟩ := hq_22
        rcases hq with ⟨rfl, hg⟩ | ⟨rfl, hg⟩
        · skip
          refine g_if_eqN hC (by decide) (gDec_at DX4_fits_0 15 rfl) 32 (by decide) (fun h => absurd h (by decide)) (fun h => ?_)
          refine g_iconst hC (gDec_at DX4_fits_0 16 rfl) (v := nI 1) (by decide) ?_
          refine g_goto hC (gDec_at DX4_fits_0 17 rfl) 33 (by decide) ?_
          refine g_zret hC (Or.inr rfl) (gDec_at DX4_fits_0 19 rfl) ?_
          exact ⟨rfl, Or.inl ⟨rfl, fit_a (by omega) (by omega) e hg⟩⟩
        · skip
          refine g_if_eqN hC (by decide) (gDec_at DX4_fits_0 15 rfl) 32 (by decide) (fun h => ?_) (fun h => absurd h (by decide))
          refine g_iconst hC (gDec_at DX4_fits_0 18 rfl) (v := nI 0) (by decide) ?_
          refine g_zret hC (Or.inl rfl) (gDec_at DX4_fits_0 19 rfl) ?_
          exact ⟨rfl, Or.inr ⟨rfl, fit_an (by omega) e hg⟩⟩
      · skip
        refine g_st (st' := [.int (nI 3), .int (nI i), .ref (q.2.2 1)]) (by rw [e]) ?_
        refine g_callV (w := wC q) hC (i := 1) (c_X4_figureFits_3 q hT (i := i) hi) vf_X4_figureFits ml_X4_31 (by decide) (show 1 < 63 from by decide) rfl rfl rfl rfl rfl (Nat.le_of_ble_eq_true rfl) (gDec_at DX4_fits_0 14 rfl) (fun v_22 M_22 hq_22 => ?_)
        obtain ⟨rfl, hq⟩ := hq_22
        rcases hq with ⟨rfl, hg⟩ | ⟨rfl, hg⟩
        · skip
          refine g_if_eqN hC (by decide) (gDec_at DX4_fits_0 15 rfl) 32 (by decide) (fun h => absurd h (by decide)) (fun h => ?_)
          refine g_iconst hC (gDec_at DX4_fits_0 16 rfl) (v := nI 1) (by decide) ?_
          refine g_goto hC (gDec_at DX4_fits_0 17 rfl) 33 (by decide) ?_
          refine g_zret hC (Or.inr rfl) (gDec_at DX4_fits_0 19 rfl) ?_
          exact ⟨rfl, Or.inl ⟨rfl, fit_a (by omega) (by omega) e hg⟩⟩
        · skip
          refine g_if_eqN hC (by decide) (gDec_at DX4_fits_0 15 rfl) 32 (by decide) (fun h => ?_) (fun h => absurd h (by decide))
          refine g_iconst hC (gDec_at DX4_fits_0 18 rfl) (v := nI 0) (by decide) ?_
          refine g_zret hC (Or.inl rfl) (gDec_at DX4_fits_0 19 rfl) ?_
          exact ⟨rfl, Or.inr ⟨rfl, fit_an (by omega) e hg⟩⟩

set_option maxRecDepth 100000 in
set_option maxHeartbeats 4000000 in
theorem c_X4_firstFault_no_at (q : gQ3) {M : gM} {tl : Nat} {tb : Nat → Nat} (hT : cT M tl tb) {sl : Nat} (h0 : sl = 0) (hs : ∀ n, 1 ≤ n → n ≤ 6 → ¬ (4 * n < tl ∧ tb (4 * n) = 47)) {k : Nat} (hkt : k < tl) (hk : ¬ sfit tb sl k) (hall : ∀ i, i < k → sfit tb sl i) : gCt (wC q) yX4_firstFault cX4_firstFault 3 (some .int) 4 [.ref (q.2.2 1)] M (gR (some (.int (nI k))) M) := by
  refine gMet RX4 (by decide +kernel) rfl (Nat.le_of_ble_eq_true rfl) (fun X hC => ?_)
  have hC : gC X (wC q) cX4_firstFault 3 RX4 (some .int) 4 := hC
  show gG X (wC q) _ 3 M 0 [(0, .ref (q.2.2 1))] []
  have ht := hT.2.1
  refine g_aload_n hC (gDec_at DX4_firstFault_0 0 rfl) rfl ?_
  refine g_callVd (w := wC q) hC 1 (c_X4_slashAt_no q hT hs) vf_X4_slashAt ml_X4_23 (by decide) (show 1 < 63 from by decide) rfl rfl rfl rfl rfl (Nat.le_of_ble_eq_true rfl) (gDec_at DX4_firstFault_0 1 rfl) ?_
  refine g_istore_n hC (gDec_at DX4_firstFault_0 2 rfl) (by decide) (L' := [(1, .int (-9)), (0, .ref (q.2.2 1))]) rfl ?_
  refine g_iconst hC (gDec_at DX4_firstFault_0 3 rfl) (v := nI 0) (by decide) ?_
  refine g_istore_n hC (gDec_at DX4_firstFault_0 4 rfl) (by decide) (L' := [(2, .int (nI 0)), (1, .int (-9)), (0, .ref (q.2.2 1))]) rfl ?_
  have loop7 : ∀ (fu i : Nat), i ≤ k → k - i < fu → gG X (wC q) (gR (some (.int (nI k))) M) 3 M 7 [(0, .ref (q.2.2 1)), (1, .int (-9)), (2, .int (nI i))] [] := by
    intro fu; induction fu with
    | zero => intro i h1 h2; omega
    | succ fu ih =>
      intro i hi hfu 
      refine g_iload_n hC (gDec_at DX4_firstFault_0 5 rfl) rfl ?_
      refine g_aload_n hC (gDec_at DX4_firstFault_0 6 rfl) rfl ?_
      refine g_get (w := wC q) hC 1 (v := .int (nI tl)) fl_X4_15 (show 1 < 63 from by decide) rfl (g_sv hT.1) (gDec_at DX4_firstFault_0 7 rfl) ?_
      refine g_icmp_geN hC (by omega) (by omega) (gDec_at DX4_firstFault_0 8 rfl) 32 (by decide) (fun h12 => ?_) (fun h12 => ?_)
      · skip
        exact absurd h12 (by omega)
      · skip
        refine g_aload_n hC (gDec_at DX4_firstFault_0 9 rfl) rfl ?_
        refine g_iload_n hC (gDec_at DX4_firstFault_0 10 rfl) rfl ?_
        refine g_iload_n hC (gDec_at DX4_firstFault_0 11 rfl) rfl ?_
        refine g_callV (w := wC q) hC (i := 1) (c_X4_fits_no q hT (i := i) (sl := sl) (by omega) h0) vf_X4_fits ml_X4_27 (by decide) (show 1 < 63 from by decide) rfl rfl rfl rfl rfl (Nat.le_of_ble_eq_true rfl) (gDec_at DX4_firstFault_0 12 rfl) (fun v_18 M_18 hq_18 => ?_)
        obtain ⟨rfl, hq⟩ := hq_18
        rcases hq with ⟨rfl, hg⟩ | ⟨rfl, hg⟩
        · skip
          have hlt : i < k := by rcases Nat.lt_or_ge i k with z | z; exact z; exact absurd (by rw [show k = i by omega]; exact hg) hk
          refine g_if_neN hC (by decide) (gDec_at DX4_firstFault_0 13 rfl) 26 (by decide) (fun h => ?_) (fun h => absurd h (by decide))
          refine g_iincN hC (gDec_at DX4_firstFault_0 16 rfl) rfl (by decide) (L' := [(2, .int (nI (i + 1))), (0, .ref (q.2.2 1)), (1, .int (-9))]) rfl ?_
          refine g_goto hC (gDec_at DX4_firstFault_0 17 rfl) 7 (by decide) ?_
          refine g_sub [1, 2, 0] (L' := [(0, .ref (q.2.2 1)), (1, .int (-9)), (2, .int (nI (i + 1)))]) rfl ?_
          have h9 := ih (i + 1) (by omega) (by omega)
          exact h9
        · skip
          obtain rfl : i = k := by rcases Nat.lt_or_ge i k with z | z; exact absurd (hall i z) hg; omega
          refine g_if_neN hC (by decide) (gDec_at DX4_firstFault_0 13 rfl) 26 (by decide) (fun h => absurd h (by decide)) (fun h => ?_)
          refine g_iload_n hC (gDec_at DX4_firstFault_0 14 rfl) rfl ?_
          refine g_iret hC (gDec_at DX4_firstFault_0 15 rfl) ?_
          exact ⟨rfl, rfl⟩
  exact g_sub [2, 1, 0] rfl (loop7 (k + 1 - 0) 0 (by omega) (by omega))

set_option maxRecDepth 100000 in
set_option maxHeartbeats 4000000 in
theorem c_X4_firstFault_no (q : gQ3) {M : gM} {tl : Nat} {tb : Nat → Nat} (hT : cT M tl tb) {sl : Nat} (h0 : sl = 0) (hs : ∀ n, 1 ≤ n → n ≤ 6 → ¬ (4 * n < tl ∧ tb (4 * n) = 47)) (hall : ∀ i, i < tl → sfit tb sl i) : gCt (wC q) yX4_firstFault cX4_firstFault 3 (some .int) 4 [.ref (q.2.2 1)] M (gR (some (.int (nI tl))) M) := by
  refine gMet RX4 (by decide +kernel) rfl (Nat.le_of_ble_eq_true rfl) (fun X hC => ?_)
  have hC : gC X (wC q) cX4_firstFault 3 RX4 (some .int) 4 := hC
  show gG X (wC q) _ 3 M 0 [(0, .ref (q.2.2 1))] []
  have ht := hT.2.1
  refine g_aload_n hC (gDec_at DX4_firstFault_0 0 rfl) rfl ?_
  refine g_callVd (w := wC q) hC 1 (c_X4_slashAt_no q hT hs) vf_X4_slashAt ml_X4_23 (by decide) (show 1 < 63 from by decide) rfl rfl rfl rfl rfl (Nat.le_of_ble_eq_true rfl) (gDec_at DX4_firstFault_0 1 rfl) ?_
  refine g_istore_n hC (gDec_at DX4_firstFault_0 2 rfl) (by decide) (L' := [(1, .int (-9)), (0, .ref (q.2.2 1))]) rfl ?_
  refine g_iconst hC (gDec_at DX4_firstFault_0 3 rfl) (v := nI 0) (by decide) ?_
  refine g_istore_n hC (gDec_at DX4_firstFault_0 4 rfl) (by decide) (L' := [(2, .int (nI 0)), (1, .int (-9)), (0, .ref (q.2.2 1))]) rfl ?_
  have loop7 : ∀ (fu i : Nat), i ≤ tl → tl - i < fu → gG X (wC q) (gR (some (.int (nI tl))) M) 3 M 7 [(0, .ref (q.2.2 1)), (1, .int (-9)), (2, .int (nI i))] [] := by
    intro fu; induction fu with
    | zero => intro i h1 h2; omega
    | succ fu ih =>
      intro i hi hfu 
      refine g_iload_n hC (gDec_at DX4_firstFault_0 5 rfl) rfl ?_
      refine g_aload_n hC (gDec_at DX4_firstFault_0 6 rfl) rfl ?_
      refine g_get (w := wC q) hC 1 (v := .int (nI tl)) fl_X4_15 (show 1 < 63 from by decide) rfl (g_sv hT.1) (gDec_at DX4_firstFault_0 7 rfl) ?_
      refine g_icmp_geN hC (by omega) (by omega) (gDec_at DX4_firstFault_0 8 rfl) 32 (by decide) (fun h12 => ?_) (fun h12 => ?_)
      · skip
        skip
        refine g_iload_n hC (gDec_at DX4_firstFault_0 18 rfl) rfl ?_
        refine g_bipush hC (gDec_at DX4_firstFault_0 19 rfl) (v := -9) (by decide) ?_
        refine g_icmp_eq hC (gDec_at DX4_firstFault_0 20 rfl) 55 (by decide) (fun h => ?_) (fun h => absurd rfl h)
        refine g_aload_n hC (gDec_at DX4_firstFault_0 31 rfl) rfl ?_
        refine g_get (w := wC q) hC 1 (v := .int (nI tl)) fl_X4_15 (show 1 < 63 from by decide) rfl (g_sv hT.1) (gDec_at DX4_firstFault_0 32 rfl) ?_
        refine g_iret hC (gDec_at DX4_firstFault_0 33 rfl) ?_
        exact ⟨rfl, rfl⟩
      · skip
        refine g_aload_n hC (gDec_at DX4_firstFault_0 9 rfl) rfl ?_
        refine g_iload_n hC (gDec_at DX4_firstFault_0 10 rfl) rfl ?_
        refine g_iload_n hC (gDec_at DX4_firstFault_0 11 rfl) rfl ?_
        refine g_callV (w := wC q) hC (i := 1) (c_X4_fits_no q hT (i := i) (sl := sl) (by omega) h0) vf_X4_fits ml_X4_27 (by decide) (show 1 < 63 from by decide) rfl rfl rfl rfl rfl (Nat.le_of_ble_eq_true rfl) (gDec_at DX4_firstFault_0 12 rfl) (fun v_18 M_18 hq_18 => ?_)
        obtain ⟨rfl, hq⟩ := hq_18
        rcases hq with ⟨rfl, hg⟩ | ⟨rfl, hg⟩
        · skip
          refine g_if_neN hC (by decide) (gDec_at DX4_firstFault_0 13 rfl) 26 (by decide) (fun h => ?_) (fun h => absurd h (by decide))
          refine g_iincN hC (gDec_at DX4_firstFault_0 16 rfl) rfl (by decide) (L' := [(2, .int (nI (i + 1))), (0, .ref (q.2.2 1)), (1, .int (-9))]) rfl ?_
          refine g_goto hC (gDec_at DX4_firstFault_0 17 rfl) 7 (by decide) ?_
          refine g_sub [1, 2, 0] (L' := [(0, .ref (q.2.2 1)), (1, .int (-9)), (2, .int (nI (i + 1)))]) rfl ?_
          have h9 := ih (i + 1) (by omega) (by omega)
          exact h9
        · skip
          exact absurd (hall i (by omega)) hg
  exact g_sub [2, 1, 0] rfl (loop7 (tl + 1 - 0) 0 (by omega) (by omega))

set_option maxRecDepth 100000 in
set_option maxHeartbeats 4000000 in
theorem c_X4_firstFault_at (q : gQ3) {M : gM} {tl : Nat} {tb : Nat → Nat} (hT : cT M tl tb) {sl : Nat} (h0 : 1 ≤ sl) (h6 : sl ≤ 6) (hs : 4 * sl < tl ∧ tb (4 * sl) = 47) (hmin : ∀ n, 1 ≤ n → n < sl → ¬ (4 * n < tl ∧ tb (4 * n) = 47)) {k : Nat} (hkt : k < tl) (hk : ¬ sfit tb sl k) (hall : ∀ i, i < k → sfit tb sl i) : gCt (wC q) yX4_firstFault cX4_firstFault 3 (some .int) 4 [.ref (q.2.2 1)] M (gR (some (.int (nI k))) M) := by
  refine gMet RX4 (by decide +kernel) rfl (Nat.le_of_ble_eq_true rfl) (fun X hC => ?_)
  have hC : gC X (wC q) cX4_firstFault 3 RX4 (some .int) 4 := hC
  show gG X (wC q) _ 3 M 0 [(0, .ref (q.2.2 1))] []
  have ht := hT.2.1
  refine g_aload_n hC (gDec_at DX4_firstFault_0 0 rfl) rfl ?_
  refine g_callVd (w := wC q) hC 1 (c_X4_slashAt q hT h0 h6 hs hmin) vf_X4_slashAt ml_X4_23 (by decide) (show 1 < 63 from by decide) rfl rfl rfl rfl rfl (Nat.le_of_ble_eq_true rfl) (gDec_at DX4_firstFault_0 1 rfl) ?_
  refine g_istore_n hC (gDec_at DX4_firstFault_0 2 rfl) (by decide) (L' := [(1, .int (nI (4 * sl))), (0, .ref (q.2.2 1))]) rfl ?_
  refine g_iconst hC (gDec_at DX4_firstFault_0 3 rfl) (v := nI 0) (by decide) ?_
  refine g_istore_n hC (gDec_at DX4_firstFault_0 4 rfl) (by decide) (L' := [(2, .int (nI 0)), (1, .int (nI (4 * sl))), (0, .ref (q.2.2 1))]) rfl ?_
  have loop7 : ∀ (fu i : Nat), i ≤ k → k - i < fu → gG X (wC q) (gR (some (.int (nI k))) M) 3 M 7 [(0, .ref (q.2.2 1)), (1, .int (nI (4 * sl))), (2, .int (nI i))] [] := by
    intro fu; induction fu with
    | zero => intro i h1 h2; omega
    | succ fu ih =>
      intro i hi hfu 
      refine g_iload_n hC (gDec_at DX4_firstFault_0 5 rfl) rfl ?_
      refine g_aload_n hC (gDec_at DX4_firstFault_0 6 rfl) rfl ?_
      refine g_get (w := wC q) hC 1 (v := .int (nI tl)) fl_X4_15 (show 1 < 63 from by decide) rfl (g_sv hT.1) (gDec_at DX4_firstFault_0 7 rfl) ?_
      refine g_icmp_geN hC (by omega) (by omega) (gDec_at DX4_firstFault_0 8 rfl) 32 (by decide) (fun h12 => ?_) (fun h12 => ?_)
      · skip
        exact absurd h12 (by omega)
      · skip
        refine g_aload_n hC (gDec_at DX4_firstFault_0 9 rfl) rfl ?_
        refine g_iload_n hC (gDec_at DX4_firstFault_0 10 rfl) rfl ?_
        refine g_iload_n hC (gDec_at DX4_firstFault_0 11 rfl) rfl ?_
        refine g_callV (w := wC q) hC (i := 1) (c_X4_fits q hT (i := i) (sl := sl) (by omega) h0 h6) vf_X4_fits ml_X4_27 (by decide) (show 1 < 63 from by decide) rfl rfl rfl rfl rfl (Nat.le_of_ble_eq_true rfl) (gDec_at DX4_firstFault_0 12 rfl) (fun v_18 M_18 hq_18 => ?_)
        obtain ⟨rfl, hq⟩ := hq_18
        rcases hq with ⟨rfl, hg⟩ | ⟨rfl, hg⟩
        · skip
          have hlt : i < k := by rcases Nat.lt_or_ge i k with z | z; exact z; exact absurd (by rw [show k = i by omega]; exact hg) hk
          refine g_if_neN hC (by decide) (gDec_at DX4_firstFault_0 13 rfl) 26 (by decide) (fun h => ?_) (fun h => absurd h (by decide))
          refine g_iincN hC (gDec_at DX4_firstFault_0 16 rfl) rfl (by decide) (L' := [(2, .int (nI (i + 1))), (0, .ref (q.2.2 1)), (1, .int (nI (4 * sl)))]) rfl ?_
          refine g_goto hC (gDec_at DX4_firstFault_0 17 rfl) 7 (by decide) ?_
          refine g_sub [1, 2, 0] (L' := [(0, .ref (q.2.2 1)), (1, .int (nI (4 * sl))), (2, .int (nI (i + 1)))]) rfl ?_
          have h9 := ih (i + 1) (by omega) (by omega)
          exact h9
        · skip
          obtain rfl : i = k := by rcases Nat.lt_or_ge i k with z | z; exact absurd (hall i z) hg; omega
          refine g_if_neN hC (by decide) (gDec_at DX4_firstFault_0 13 rfl) 26 (by decide) (fun h => absurd h (by decide)) (fun h => ?_)
          refine g_iload_n hC (gDec_at DX4_firstFault_0 14 rfl) rfl ?_
          refine g_iret hC (gDec_at DX4_firstFault_0 15 rfl) ?_
          exact ⟨rfl, rfl⟩
  exact g_sub [2, 1, 0] rfl (loop7 (k + 1 - 0) 0 (by omega) (by omega))

set_option maxRecDepth 100000 in
set_option maxHeartbeats 4000000 in
theorem c_X4_firstFault_good (q : gQ3) {M : gM} {tl : Nat} {tb : Nat → Nat} (hT : cT M tl tb) {sl : Nat} (h0 : 1 ≤ sl) (h6 : sl ≤ 6) (hs : 4 * sl < tl ∧ tb (4 * sl) = 47) (hmin : ∀ n, 1 ≤ n → n < sl → ¬ (4 * n < tl ∧ tb (4 * n) = 47)) (hall : ∀ i, i < tl → sfit tb sl i) (htl : tl = 8 * sl + 1) : gCt (wC q) yX4_firstFault cX4_firstFault 3 (some .int) 4 [.ref (q.2.2 1)] M (gR (some (.int (-9))) M) := by
  refine gMet RX4 (by decide +kernel) rfl (Nat.le_of_ble_eq_true rfl) (fun X hC => ?_)
  have hC : gC X (wC q) cX4_firstFault 3 RX4 (some .int) 4 := hC
  show gG X (wC q) _ 3 M 0 [(0, .ref (q.2.2 1))] []
  have ht := hT.2.1
  refine g_aload_n hC (gDec_at DX4_firstFault_0 0 rfl) rfl ?_
  refine g_callVd (w := wC q) hC 1 (c_X4_slashAt q hT h0 h6 hs hmin) vf_X4_slashAt ml_X4_23 (by decide) (show 1 < 63 from by decide) rfl rfl rfl rfl rfl (Nat.le_of_ble_eq_true rfl) (gDec_at DX4_firstFault_0 1 rfl) ?_
  refine g_istore_n hC (gDec_at DX4_firstFault_0 2 rfl) (by decide) (L' := [(1, .int (nI (4 * sl))), (0, .ref (q.2.2 1))]) rfl ?_
  refine g_iconst hC (gDec_at DX4_firstFault_0 3 rfl) (v := nI 0) (by decide) ?_
  refine g_istore_n hC (gDec_at DX4_firstFault_0 4 rfl) (by decide) (L' := [(2, .int (nI 0)), (1, .int (nI (4 * sl))), (0, .ref (q.2.2 1))]) rfl ?_
  have loop7 : ∀ (fu i : Nat), i ≤ tl → tl - i < fu → gG X (wC q) (gR (some (.int (-9))) M) 3 M 7 [(0, .ref (q.2.2 1)), (1, .int (nI (4 * sl))), (2, .int (nI i))] [] := by
    intro fu; induction fu with
    | zero => intro i h1 h2; omega
    | succ fu ih =>
      intro i hi hfu 
      refine g_iload_n hC (gDec_at DX4_firstFault_0 5 rfl) rfl ?_
      refine g_aload_n hC (gDec_at DX4_firstFault_0 6 rfl) rfl ?_
      refine g_get (w := wC q) hC 1 (v := .int (nI tl)) fl_X4_15 (show 1 < 63 from by decide) rfl (g_sv hT.1) (gDec_at DX4_firstFault_0 7 rfl) ?_
      refine g_icmp_geN hC (by omega) (by omega) (gDec_at DX4_firstFault_0 8 rfl) 32 (by decide) (fun h12 => ?_) (fun h12 => ?_)
      · skip
        skip
        refine g_iload_n hC (gDec_at DX4_firstFault_0 18 rfl) rfl ?_
        refine g_bipush hC (gDec_at DX4_firstFault_0 19 rfl) (v := -9) (by decide) ?_
        refine g_icmp_eq hC (gDec_at DX4_firstFault_0 20 rfl) 55 (by decide) (fun h => absurd h (nI_n9 (by omega))) (fun h => ?_)
        refine g_aload_n hC (gDec_at DX4_firstFault_0 21 rfl) rfl ?_
        refine g_get (w := wC q) hC 1 (v := .int (nI tl)) fl_X4_15 (show 1 < 63 from by decide) rfl (g_sv hT.1) (gDec_at DX4_firstFault_0 22 rfl) ?_
        refine g_iconst hC (gDec_at DX4_firstFault_0 23 rfl) (v := nI 2) (by decide) ?_
        refine g_iload_n hC (gDec_at DX4_firstFault_0 24 rfl) rfl ?_
        refine g_imulN hC (gDec_at DX4_firstFault_0 25 rfl) ?_
        refine g_iconst hC (gDec_at DX4_firstFault_0 26 rfl) (v := nI 1) (by decide) ?_
        refine g_iaddN hC (gDec_at DX4_firstFault_0 27 rfl) ?_
        refine g_icmp_neN hC (by omega) (by omega) (gDec_at DX4_firstFault_0 28 rfl) 55 (by decide) (fun h47 => ?_) (fun h47 => ?_)
        · skip
          exact absurd h47 (by omega)
        · skip
          refine g_bipush hC (gDec_at DX4_firstFault_0 29 rfl) (v := -9) (by decide) ?_
          refine g_goto hC (gDec_at DX4_firstFault_0 30 rfl) 59 (by decide) ?_
          refine g_iret hC (gDec_at DX4_firstFault_0 33 rfl) ?_
          exact ⟨rfl, rfl⟩
      · skip
        refine g_aload_n hC (gDec_at DX4_firstFault_0 9 rfl) rfl ?_
        refine g_iload_n hC (gDec_at DX4_firstFault_0 10 rfl) rfl ?_
        refine g_iload_n hC (gDec_at DX4_firstFault_0 11 rfl) rfl ?_
        refine g_callV (w := wC q) hC (i := 1) (c_X4_fits q hT (i := i) (sl := sl) (by omega) h0 h6) vf_X4_fits ml_X4_27 (by decide) (show 1 < 63 from by decide) rfl rfl rfl rfl rfl (Nat.le_of_ble_eq_true rfl) (gDec_at DX4_firstFault_0 12 rfl) (fun v_18 M_18 hq_18 => ?_)
        obtain ⟨rfl, hq⟩ := hq_18
        rcases hq with ⟨rfl, hg⟩ | ⟨rfl, hg⟩
        · skip
          refine g_if_neN hC (by decide) (gDec_at DX4_firstFault_0 13 rfl) 26 (by decide) (fun h => ?_) (fun h => absurd h (by decide))
          refine g_iincN hC (gDec_at DX4_firstFault_0 16 rfl) rfl (by decide) (L' := [(2, .int (nI (i + 1))), (0, .ref (q.2.2 1)), (1, .int (nI (4 * sl)))]) rfl ?_
          refine g_goto hC (gDec_at DX4_firstFault_0 17 rfl) 7 (by decide) ?_
          refine g_sub [1, 2, 0] (L' := [(0, .ref (q.2.2 1)), (1, .int (nI (4 * sl))), (2, .int (nI (i + 1)))]) rfl ?_
          have h9 := ih (i + 1) (by omega) (by omega)
          exact h9
        · skip
          exact absurd (hall i (by omega)) hg
  exact g_sub [2, 1, 0] rfl (loop7 (tl + 1 - 0) 0 (by omega) (by omega))

set_option maxRecDepth 100000 in
set_option maxHeartbeats 4000000 in
theorem c_X4_firstFault_short (q : gQ3) {M : gM} {tl : Nat} {tb : Nat → Nat} (hT : cT M tl tb) {sl : Nat} (h0 : 1 ≤ sl) (h6 : sl ≤ 6) (hs : 4 * sl < tl ∧ tb (4 * sl) = 47) (hmin : ∀ n, 1 ≤ n → n < sl → ¬ (4 * n < tl ∧ tb (4 * n) = 47)) (hall : ∀ i, i < tl → sfit tb sl i) (htl : ¬ tl = 8 * sl + 1) : gCt (wC q) yX4_firstFault cX4_firstFault 3 (some .int) 4 [.ref (q.2.2 1)] M (gR (some (.int (nI tl))) M) := by
  refine gMet RX4 (by decide +kernel) rfl (Nat.le_of_ble_eq_true rfl) (fun X hC => ?_)
  have hC : gC X (wC q) cX4_firstFault 3 RX4 (some .int) 4 := hC
  show gG X (wC q) _ 3 M 0 [(0, .ref (q.2.2 1))] []
  have ht := hT.2.1
  refine g_aload_n hC (gDec_at DX4_firstFault_0 0 rfl) rfl ?_
  refine g_callVd (w := wC q) hC 1 (c_X4_slashAt q hT h0 h6 hs hmin) vf_X4_slashAt ml_X4_23 (by decide) (show 1 < 63 from by decide) rfl rfl rfl rfl rfl (Nat.le_of_ble_eq_true rfl) (gDec_at DX4_firstFault_0 1 rfl) ?_
  refine g_istore_n hC (gDec_at DX4_firstFault_0 2 rfl) (by decide) (L' := [(1, .int (nI (4 * sl))), (0, .ref (q.2.2 1))]) rfl ?_
  refine g_iconst hC (gDec_at DX4_firstFault_0 3 rfl) (v := nI 0) (by decide) ?_
  refine g_istore_n hC (gDec_at DX4_firstFault_0 4 rfl) (by decide) (L' := [(2, .int (nI 0)), (1, .int (nI (4 * sl))), (0, .ref (q.2.2 1))]) rfl ?_
  have loop7 : ∀ (fu i : Nat), i ≤ tl → tl - i < fu → gG X (wC q) (gR (some (.int (nI tl))) M) 3 M 7 [(0, .ref (q.2.2 1)), (1, .int (nI (4 * sl))), (2, .int (nI i))] [] := by
    intro fu; induction fu with
    | zero => intro i h1 h2; omega
    | succ fu ih =>
      intro i hi hfu 
      refine g_iload_n hC (gDec_at DX4_firstFault_0 5 rfl) rfl ?_
      refine g_aload_n hC (gDec_at DX4_firstFault_0 6 rfl) rfl ?_
      refine g_get (w := wC q) hC 1 (v := .int (nI tl)) fl_X4_15 (show 1 < 63 from by decide) rfl (g_sv hT.1) (gDec_at DX4_firstFault_0 7 rfl) ?_
      refine g_icmp_geN hC (by omega) (by omega) (gDec_at DX4_firstFault_0 8 rfl) 32 (by decide) (fun h12 => ?_) (fun h12 => ?_)
      · skip
        skip
        refine g_iload_n hC (gDec_at DX4_firstFault_0 18 rfl) rfl ?_
        refine g_bipush hC (gDec_at DX4_firstFault_0 19 rfl) (v := -9) (by decide) ?_
        refine g_icmp_eq hC (gDec_at DX4_firstFault_0 20 rfl) 55 (by decide) (fun h => absurd h (nI_n9 (by omega))) (fun h => ?_)
        refine g_aload_n hC (gDec_at DX4_firstFault_0 21 rfl) rfl ?_
        refine g_get (w := wC q) hC 1 (v := .int (nI tl)) fl_X4_15 (show 1 < 63 from by decide) rfl (g_sv hT.1) (gDec_at DX4_firstFault_0 22 rfl) ?_
        refine g_iconst hC (gDec_at DX4_firstFault_0 23 rfl) (v := nI 2) (by decide) ?_
        refine g_iload_n hC (gDec_at DX4_firstFault_0 24 rfl) rfl ?_
        refine g_imulN hC (gDec_at DX4_firstFault_0 25 rfl) ?_
        refine g_iconst hC (gDec_at DX4_firstFault_0 26 rfl) (v := nI 1) (by decide) ?_
        refine g_iaddN hC (gDec_at DX4_firstFault_0 27 rfl) ?_
        refine g_icmp_neN hC (by omega) (by omega) (gDec_at DX4_firstFault_0 28 rfl) 55 (by decide) (fun h47 => ?_) (fun h47 => ?_)
        · skip
          refine g_aload_n hC (gDec_at DX4_firstFault_0 31 rfl) rfl ?_
          refine g_get (w := wC q) hC 1 (v := .int (nI tl)) fl_X4_15 (show 1 < 63 from by decide) rfl (g_sv hT.1) (gDec_at DX4_firstFault_0 32 rfl) ?_
          refine g_iret hC (gDec_at DX4_firstFault_0 33 rfl) ?_
          exact ⟨rfl, rfl⟩
        · skip
          exact absurd h47 (by omega)
      · skip
        refine g_aload_n hC (gDec_at DX4_firstFault_0 9 rfl) rfl ?_
        refine g_iload_n hC (gDec_at DX4_firstFault_0 10 rfl) rfl ?_
        refine g_iload_n hC (gDec_at DX4_firstFault_0 11 rfl) rfl ?_
        refine g_callV (w := wC q) hC (i := 1) (c_X4_fits q hT (i := i) (sl := sl) (by omega) h0 h6) vf_X4_fits ml_X4_27 (by decide) (show 1 < 63 from by decide) rfl rfl rfl rfl rfl (Nat.le_of_ble_eq_true rfl) (gDec_at DX4_firstFault_0 12 rfl) (fun v_18 M_18 hq_18 => ?_)
        obtain ⟨rfl, hq⟩ := hq_18
        rcases hq with ⟨rfl, hg⟩ | ⟨rfl, hg⟩
        · skip
          refine g_if_neN hC (by decide) (gDec_at DX4_firstFault_0 13 rfl) 26 (by decide) (fun h => ?_) (fun h => absurd h (by decide))
          refine g_iincN hC (gDec_at DX4_firstFault_0 16 rfl) rfl (by decide) (L' := [(2, .int (nI (i + 1))), (0, .ref (q.2.2 1)), (1, .int (nI (4 * sl)))]) rfl ?_
          refine g_goto hC (gDec_at DX4_firstFault_0 17 rfl) 7 (by decide) ?_
          refine g_sub [1, 2, 0] (L' := [(0, .ref (q.2.2 1)), (1, .int (nI (4 * sl))), (2, .int (nI (i + 1)))]) rfl ?_
          have h9 := ih (i + 1) (by omega) (by omega)
          exact h9
        · skip
          exact absurd (hall i (by omega)) hg
  exact g_sub [2, 1, 0] rfl (loop7 (tl + 1 - 0) 0 (by omega) (by omega))
