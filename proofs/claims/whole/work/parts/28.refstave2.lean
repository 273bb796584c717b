/-! THE REFERENCE: the stave read, two limbs; fault, stave -/
theorem sf_1 {tb : Nat → Nat} {sl i : Nat} (h : sfit tb sl i) (hi : i < 4 * sl) : ffit (i % 4) (tb (i - 1)) (tb i) := by
  rcases h with h | h
  · exact h.2.2
  · exact absurd h.2.1 (by omega)
theorem sf_2 {tb : Nat → Nat} {sl j u : Nat} (h : sfit tb sl (4 * sl + 1 + 4 * j + u)) (h0 : 1 ≤ sl) (hu : u < 4) : ffit u (tb (4 * sl + 1 + 4 * j + u - 1)) (tb (4 * sl + 1 + 4 * j + u)) := by
  rcases h with h | h
  · exact absurd h.1 (by omega)
  · rcases h.2.2 with z | z
    · exact absurd z (by omega)
    · have z2 := z.2
      rwa [show (4 * sl + 1 + 4 * j + u - 4 * sl - 1) % 4 = u by omega] at z2
theorem sf_3 {tb : Nat → Nat} {sl i : Nat} (h : sfit tb sl i) (h0 : 1 ≤ sl) : i ≤ 8 * sl := by
  rcases h with h | h
  · have := h.1; omega
  · rcases h.2.2 with z | z
    · omega
    · exact z.1
theorem sf_m {tb : Nat → Nat} {sl : Nat} (h0 : 1 ≤ sl) : sfit tb sl (4 * sl) := Or.inr ⟨h0, Nat.le_refl _, Or.inl rfl⟩
theorem sf_t1 {tb : Nat → Nat} {sl i u : Nat} (hi : i < sl) (h6 : sl ≤ 6) (hu : u < 4) (h : ffit u (tb (4 * i + u - 1)) (tb (4 * i + u))) : sfit tb sl (4 * i + u) := Or.inl ⟨Or.inr (by omega), by omega, ff_to hu h⟩
theorem sf_t2 {tb : Nat → Nat} {sl j u : Nat} (hj : j < sl) (hu : u < 4) (h : ffit u (tb (4 * sl + 1 + 4 * j + u - 1)) (tb (4 * sl + 1 + 4 * j + u))) : sfit tb sl (4 * sl + 1 + 4 * j + u) := Or.inr ⟨by omega, by omega, Or.inr ⟨by omega, by rwa [show (4 * sl + 1 + 4 * j + u - 4 * sl - 1) % 4 = u by omega]⟩⟩
theorem pos_1 {sl j : Nat} (hj : j < 6) : pos sl (6 + j) = 4 * sl + 1 + 4 * j := by
  unfold pos; rw [show (6 + j) / 6 = 1 by omega, show (6 + j) % 6 = j by omega]; omega
theorem rdI_c {M M1 : gM} {tb : Nat → Nat} {sl p n p' n' : Nat} {P Q : Nat → Prop} (h : rdI M M1 tb sl P p n) (hQ : ∀ j, Q j → P j) (hp : p = p') (hn : n = n') : rdI M M1 tb sl Q p' n' := by
  subst hp; subst hn
  exact ⟨h.1, h.2.1, h.2.2.1, fun j hj => h.2.2.2 j (hQ j hj)⟩
set_option maxRecDepth 100000 in
set_option maxHeartbeats 4000000 in
theorem c_X7_readStave_sl (q : gQ3) {M : gM} {tl : Nat} {tb : Nat → Nat} (hT : mT M tl tb) {sl : Nat} (h0 : 1 ≤ sl) (h6 : sl ≤ 6) (hs : 4 * sl < tl ∧ tb (4 * sl) = 47) (hmin : ∀ n, 1 ≤ n → n < sl → ¬ (4 * n < tl ∧ tb (4 * n) = 47)) {K : Nat} (hKt : K ≤ tl) (hall : ∀ i, i < K → sfit tb sl i) (hx : K < tl → ¬ sfit tb sl K) (hg : ¬ (K = tl ∧ tl = 8 * sl + 1)) : gCt (wM q) yX7_readStave cX7_readStave 3 (some .int) 3 [.ref (q.2.2 0)] M (fun v M' => v = some (.int (nI K)) ∧ mR M M') := by
  refine gMet RX7 (by decide +kernel) rfl (Nat.le_of_ble_eq_true rfl) (fun X hC => ?_)
  have hC : gC X (wM q) cX7_readStave 3 RX7 (some .int) 3 := hC
  show gG X (wM q) _ 3 M 0 [(0, .ref (q.2.2 0))] []
  have ht := hT.2.1
  have hK8 : K ≤ 8 * sl + 1 := by rcases Nat.lt_or_ge (8 * sl + 1) K with z | z; have := sf_3 (hall (8 * sl + 1) z) h0; omega; exact z
  have hKs : 4 * sl ≤ K → 4 * sl + 1 ≤ K := fun z => by rcases Nat.eq_or_lt_of_le z with e | e; exact absurd (sf_m (tb := tb) h0) (by have h9 := hx (by omega); rw [← e] at h9; exact h9); omega
  refine g_aload_n hC (gDec_at DX7_readStave_0 0 rfl) rfl ?_
  refine g_iconst hC (gDec_at DX7_readStave_0 1 rfl) (v := nI 0) (by decide) ?_
  refine g_putI (w := wM q) hC 0 fl_X7_83 fp_7_3 (show 0 < 17 from by decide) rfl (Nat.le_of_ble_eq_true rfl) rfl rfl (gDec_at DX7_readStave_0 2 rfl) ?_
  refine g_aload_n hC (gDec_at DX7_readStave_0 3 rfl) rfl ?_
  refine g_iconst hC (gDec_at DX7_readStave_0 4 rfl) (v := nI 0) (by decide) ?_
  refine g_putI (w := wM q) hC 0 fl_X7_90 fp_7_12 (show 0 < 17 from by decide) rfl (Nat.le_of_ble_eq_true rfl) rfl rfl (gDec_at DX7_readStave_0 5 rfl) ?_
  refine g_iconst hC (gDec_at DX7_readStave_0 6 rfl) (v := nI 1) (by decide) ?_
  refine g_istore_n hC (gDec_at DX7_readStave_0 7 rfl) (by decide) (L' := [(1, .int (nI 1)), (0, .ref (q.2.2 0))]) rfl ?_
  have loop12 : ∀ (fu i : Nat) (M1 : gM), i ≤ sl → sl - i < fu → rdI M M1 tb sl (fun j => j < i) (4 * i) i → 4 * i ≤ K → i < sl → gG X (wM q) (fun v M' => v = some (.int (nI K)) ∧ mR M M') 3 M1 12 [(0, .ref (q.2.2 0)), (1, .int (nI 1))] [] := by
    intro fu; induction fu with
    | zero => intro i M1 h1 h2; omega
    | succ fu ih =>
      intro i M1 hi hfu hr hiK his
      rcases (show K = 4 * i ∨ K = 4 * i + 1 ∨ K = 4 * i + 2 ∨ K = 4 * i + 3 ∨ 4 * i + 4 ≤ K by omega) with hw | hw | hw | hw | hw
      · skip
        refine g_iload_n hC (gDec_at DX7_readStave_0 8 rfl) rfl ?_
        refine g_if_eqN hC (by decide) (gDec_at DX7_readStave_0 9 rfl) 85 (by decide) (fun h => absurd h (by decide)) (fun h => ?_)
        refine g_aload_n hC (gDec_at DX7_readStave_0 10 rfl) rfl ?_
        refine g_get (w := wM q) hC 0 (v := .int (nI i)) fl_X7_90 (show 0 < 17 from by decide) rfl (g_sv hr.2.2.1) (gDec_at DX7_readStave_0 11 rfl) ?_
        refine g_bipush hC (gDec_at DX7_readStave_0 12 rfl) (v := nI 6) (by decide) ?_
        refine g_icmp_eqN hC (by omega) (by omega) (gDec_at DX7_readStave_0 13 rfl) 36 (by decide) (fun h22 => ?_) (fun h22 => ?_)
        · skip
          exact absurd h22 (by omega)
        · skip
          refine g_aload_n hC (gDec_at DX7_readStave_0 14 rfl) rfl ?_
          refine g_aload_n hC (gDec_at DX7_readStave_0 15 rfl) rfl ?_
          refine g_get (w := wM q) hC 0 (v := .int (nI i)) fl_X7_90 (show 0 < 17 from by decide) rfl (g_sv hr.2.2.1) (gDec_at DX7_readStave_0 16 rfl) ?_
          refine g_callVd (w := wM q) hC 0 (c_X7_readPlace_0 q (mT_R hT hr.1) (p := 4 * i) (i := i) (by omega) hr.2.1 (by omega)  (fun h z => by rw [hw] at hx; exact hx h (sf_t1 (u := 0) (by omega) h6 (by omega) z))) vf_X7_readPlace ml_X7_93 (by decide) (show 0 < 17 from by decide) rfl rfl rfl rfl rfl (Nat.le_of_ble_eq_true rfl) (gDec_at DX7_readStave_0 17 rfl) ?_
          refine g_if_neN hC (by decide) (gDec_at DX7_readStave_0 18 rfl) 41 (by decide) (fun h => absurd h (by decide)) (fun h => ?_)
          refine g_aload_n hC (gDec_at DX7_readStave_0 19 rfl) rfl ?_
          refine g_get (w := wM q) hC 0 (v := .int (nI (4 * i))) fl_X7_83 (show 0 < 17 from by decide) rfl (g_sv hr.2.1) (gDec_at DX7_readStave_0 20 rfl) ?_
          refine g_iret hC (gDec_at DX7_readStave_0 21 rfl) ?_
          exact ⟨congrArg (fun z => some (Value.int (nI z))) (by omega), hr.1⟩
      · skip
        refine g_iload_n hC (gDec_at DX7_readStave_0 8 rfl) rfl ?_
        refine g_if_eqN hC (by decide) (gDec_at DX7_readStave_0 9 rfl) 85 (by decide) (fun h => absurd h (by decide)) (fun h => ?_)
        refine g_aload_n hC (gDec_at DX7_readStave_0 10 rfl) rfl ?_
        refine g_get (w := wM q) hC 0 (v := .int (nI i)) fl_X7_90 (show 0 < 17 from by decide) rfl (g_sv hr.2.2.1) (gDec_at DX7_readStave_0 11 rfl) ?_
        refine g_bipush hC (gDec_at DX7_readStave_0 12 rfl) (v := nI 6) (by decide) ?_
        refine g_icmp_eqN hC (by omega) (by omega) (gDec_at DX7_readStave_0 13 rfl) 36 (by decide) (fun h22_1 => ?_) (fun h22_1 => ?_)
        · skip
          exact absurd h22_1 (by omega)
        · skip
          refine g_aload_n hC (gDec_at DX7_readStave_0 14 rfl) rfl ?_
          refine g_aload_n hC (gDec_at DX7_readStave_0 15 rfl) rfl ?_
          refine g_get (w := wM q) hC 0 (v := .int (nI i)) fl_X7_90 (show 0 < 17 from by decide) rfl (g_sv hr.2.2.1) (gDec_at DX7_readStave_0 16 rfl) ?_
          refine g_callVd (w := wM q) hC 0 (c_X7_readPlace_1 q (mT_R hT hr.1) (p := 4 * i) (i := i) (by omega) hr.2.1 (by omega) (by omega) (ff_at (i := i) (by omega) (sf_1 (hall (4 * i + 0) (by omega)) (by omega))) (fun h z => by rw [hw] at hx; exact hx h (sf_t1 (u := 1) (by omega) h6 (by omega) z))) vf_X7_readPlace ml_X7_93 (by decide) (show 0 < 17 from by decide) rfl rfl rfl rfl rfl (Nat.le_of_ble_eq_true rfl) (gDec_at DX7_readStave_0 17 rfl) ?_
          refine g_if_neN hC (by decide) (gDec_at DX7_readStave_0 18 rfl) 41 (by decide) (fun h => absurd h (by decide)) (fun h => ?_)
          refine g_aload_n hC (gDec_at DX7_readStave_0 19 rfl) rfl ?_
          refine g_get (w := wM q) hC 0 (v := .int (nI (4 * i + 1))) fl_X7_83 (show 0 < 17 from by decide) rfl (g_sv pl_at) (gDec_at DX7_readStave_0 20 rfl) ?_
          refine g_iret hC (gDec_at DX7_readStave_0 21 rfl) ?_
          exact ⟨congrArg (fun z => some (Value.int (nI z))) (by omega), (mR_0 hr.1 (by omega))⟩
      · skip
        refine g_iload_n hC (gDec_at DX7_readStave_0 8 rfl) rfl ?_
        refine g_if_eqN hC (by decide) (gDec_at DX7_readStave_0 9 rfl) 85 (by decide) (fun h => absurd h (by decide)) (fun h => ?_)
        refine g_aload_n hC (gDec_at DX7_readStave_0 10 rfl) rfl ?_
        refine g_get (w := wM q) hC 0 (v := .int (nI i)) fl_X7_90 (show 0 < 17 from by decide) rfl (g_sv hr.2.2.1) (gDec_at DX7_readStave_0 11 rfl) ?_
        refine g_bipush hC (gDec_at DX7_readStave_0 12 rfl) (v := nI 6) (by decide) ?_
        refine g_icmp_eqN hC (by omega) (by omega) (gDec_at DX7_readStave_0 13 rfl) 36 (by decide) (fun h22_2 => ?_) (fun h22_2 => ?_)
        · skip
          exact absurd h22_2 (by omega)
        · skip
          refine g_aload_n hC (gDec_at DX7_readStave_0 14 rfl) rfl ?_
          refine g_aload_n hC (gDec_at DX7_readStave_0 15 rfl) rfl ?_
          refine g_get (w := wM q) hC 0 (v := .int (nI i)) fl_X7_90 (show 0 < 17 from by decide) rfl (g_sv hr.2.2.1) (gDec_at DX7_readStave_0 16 rfl) ?_
          refine g_callVd (w := wM q) hC 0 (c_X7_readPlace_2 q (mT_R hT hr.1) (p := 4 * i) (i := i) (by omega) hr.2.1 (by omega) (by omega) (ff_at (i := i) (by omega) (sf_1 (hall (4 * i + 0) (by omega)) (by omega))) (by omega) (ff_at (i := i) (by omega) (sf_1 (hall (4 * i + 1) (by omega)) (by omega))) (fun h z => by rw [hw] at hx; exact hx h (sf_t1 (u := 2) (by omega) h6 (by omega) z))) vf_X7_readPlace ml_X7_93 (by decide) (show 0 < 17 from by decide) rfl rfl rfl rfl rfl (Nat.le_of_ble_eq_true rfl) (gDec_at DX7_readStave_0 17 rfl) ?_
          refine g_if_neN hC (by decide) (gDec_at DX7_readStave_0 18 rfl) 41 (by decide) (fun h => absurd h (by decide)) (fun h => ?_)
          refine g_aload_n hC (gDec_at DX7_readStave_0 19 rfl) rfl ?_
          refine g_get (w := wM q) hC 0 (v := .int (nI (4 * i + 2))) fl_X7_83 (show 0 < 17 from by decide) rfl (g_sv pl_at) (gDec_at DX7_readStave_0 20 rfl) ?_
          refine g_iret hC (gDec_at DX7_readStave_0 21 rfl) ?_
          exact ⟨congrArg (fun z => some (Value.int (nI z))) (by omega), (mR_0 hr.1 (by omega))⟩
      · skip
        refine g_iload_n hC (gDec_at DX7_readStave_0 8 rfl) rfl ?_
        refine g_if_eqN hC (by decide) (gDec_at DX7_readStave_0 9 rfl) 85 (by decide) (fun h => absurd h (by decide)) (fun h => ?_)
        refine g_aload_n hC (gDec_at DX7_readStave_0 10 rfl) rfl ?_
        refine g_get (w := wM q) hC 0 (v := .int (nI i)) fl_X7_90 (show 0 < 17 from by decide) rfl (g_sv hr.2.2.1) (gDec_at DX7_readStave_0 11 rfl) ?_
        refine g_bipush hC (gDec_at DX7_readStave_0 12 rfl) (v := nI 6) (by decide) ?_
        refine g_icmp_eqN hC (by omega) (by omega) (gDec_at DX7_readStave_0 13 rfl) 36 (by decide) (fun h22_3 => ?_) (fun h22_3 => ?_)
        · skip
          exact absurd h22_3 (by omega)
        · skip
          refine g_aload_n hC (gDec_at DX7_readStave_0 14 rfl) rfl ?_
          refine g_aload_n hC (gDec_at DX7_readStave_0 15 rfl) rfl ?_
          refine g_get (w := wM q) hC 0 (v := .int (nI i)) fl_X7_90 (show 0 < 17 from by decide) rfl (g_sv hr.2.2.1) (gDec_at DX7_readStave_0 16 rfl) ?_
          refine g_callVd (w := wM q) hC 0 (c_X7_readPlace_3 q (mT_R hT hr.1) (p := 4 * i) (i := i) (by omega) hr.2.1 (by omega) (by omega) (ff_at (i := i) (by omega) (sf_1 (hall (4 * i + 0) (by omega)) (by omega))) (by omega) (ff_at (i := i) (by omega) (sf_1 (hall (4 * i + 1) (by omega)) (by omega))) (by omega) (ff_at (i := i) (by omega) (sf_1 (hall (4 * i + 2) (by omega)) (by omega))) (fun h z => by rw [hw] at hx; exact hx h (sf_t1 (u := 3) (by omega) h6 (by omega) z))) vf_X7_readPlace ml_X7_93 (by decide) (show 0 < 17 from by decide) rfl rfl rfl rfl rfl (Nat.le_of_ble_eq_true rfl) (gDec_at DX7_readStave_0 17 rfl) ?_
          refine g_if_neN hC (by decide) (gDec_at DX7_readStave_0 18 rfl) 41 (by decide) (fun h => absurd h (by decide)) (fun h => ?_)
          refine g_aload_n hC (gDec_at DX7_readStave_0 19 rfl) rfl ?_
          refine g_get (w := wM q) hC 0 (v := .int (nI (4 * i + 3))) fl_X7_83 (show 0 < 17 from by decide) rfl (g_sv pl_at) (gDec_at DX7_readStave_0 20 rfl) ?_
          refine g_iret hC (gDec_at DX7_readStave_0 21 rfl) ?_
          exact ⟨congrArg (fun z => some (Value.int (nI z))) (by omega), (mR_0 hr.1 (by omega))⟩
      · skip
        refine g_iload_n hC (gDec_at DX7_readStave_0 8 rfl) rfl ?_
        refine g_if_eqN hC (by decide) (gDec_at DX7_readStave_0 9 rfl) 85 (by decide) (fun h => absurd h (by decide)) (fun h => ?_)
        refine g_aload_n hC (gDec_at DX7_readStave_0 10 rfl) rfl ?_
        refine g_get (w := wM q) hC 0 (v := .int (nI i)) fl_X7_90 (show 0 < 17 from by decide) rfl (g_sv hr.2.2.1) (gDec_at DX7_readStave_0 11 rfl) ?_
        refine g_bipush hC (gDec_at DX7_readStave_0 12 rfl) (v := nI 6) (by decide) ?_
        refine g_icmp_eqN hC (by omega) (by omega) (gDec_at DX7_readStave_0 13 rfl) 36 (by decide) (fun h22_4 => ?_) (fun h22_4 => ?_)
        · skip
          exact absurd h22_4 (by omega)
        · skip
          refine g_aload_n hC (gDec_at DX7_readStave_0 14 rfl) rfl ?_
          refine g_aload_n hC (gDec_at DX7_readStave_0 15 rfl) rfl ?_
          refine g_get (w := wM q) hC 0 (v := .int (nI i)) fl_X7_90 (show 0 < 17 from by decide) rfl (g_sv hr.2.2.1) (gDec_at DX7_readStave_0 16 rfl) ?_
          refine g_callVd (w := wM q) hC 0 (c_X7_readPlace_4 q (mT_R hT hr.1) (p := 4 * i) (i := i) (by omega) hr.2.1 (by omega) (ff_at (i := i) (by omega) (sf_1 (hall (4 * i + 0) (by omega)) (by omega))) (by omega) (ff_at (i := i) (by omega) (sf_1 (hall (4 * i + 1) (by omega)) (by omega))) (by omega) (ff_at (i := i) (by omega) (sf_1 (hall (4 * i + 2) (by omega)) (by omega))) (by omega) (ff_at (i := i) (by omega) (sf_1 (hall (4 * i + 3) (by omega)) (by omega)))) vf_X7_readPlace ml_X7_93 (by decide) (show 0 < 17 from by decide) rfl rfl rfl rfl rfl (Nat.le_of_ble_eq_true rfl) (gDec_at DX7_readStave_0 17 rfl) ?_
          have hr2 := rdI_s (Q := (fun j => j < (i + 1))) hr (pos_0 (sl := sl) (show i < 6 by omega)) (fun j hj => by omega)
          show gG X _ _ _ (r4 M1 tb (4 * i) i) _ _ _
          generalize hM2 : r4 M1 tb (4 * i) i = M2 at hr2 ⊢
          refine g_if_neN hC (by decide) (gDec_at DX7_readStave_0 18 rfl) 41 (by decide) (fun h => ?_) (fun h => absurd h (by decide))
          refine g_aload_n hC (gDec_at DX7_readStave_0 22 rfl) rfl ?_
          refine g_dup hC (gDec_at DX7_readStave_0 23 rfl) rfl ?_
          refine g_get (w := wM q) hC 0 (v := .int (nI i)) fl_X7_90 (show 0 < 17 from by decide) rfl (g_sv hr2.2.2.1) (gDec_at DX7_readStave_0 24 rfl) ?_
          refine g_iconst hC (gDec_at DX7_readStave_0 25 rfl) (v := nI 1) (by decide) ?_
          refine g_iaddN hC (gDec_at DX7_readStave_0 26 rfl) ?_
          refine g_putI (w := wM q) hC 0 fl_X7_90 fp_7_12 (show 0 < 17 from by decide) rfl (Nat.le_of_ble_eq_true rfl) rfl rfl (gDec_at DX7_readStave_0 27 rfl) ?_
          have hr3 := rdI_n (m := i + 1) hr2
          generalize hM3 : gupd M2 0 12 (nI (i + 1)) = M3 at hr3 ⊢
          have hT3 := mT_R hT hr3.1
          refine g_aload_n hC (gDec_at DX7_readStave_0 28 rfl) rfl ?_
          refine g_get (w := wM q) hC 0 (v := .int (nI (4 * i + 4))) fl_X7_83 (show 0 < 17 from by decide) rfl (g_sv hr3.2.1) (gDec_at DX7_readStave_0 29 rfl) ?_
          refine g_aload_n hC (gDec_at DX7_readStave_0 30 rfl) rfl ?_
          refine g_get (w := wM q) hC 0 (v := .int (nI tl)) fl_X7_80 (show 0 < 17 from by decide) rfl (g_sv hT3.1) (gDec_at DX7_readStave_0 31 rfl) ?_
          refine g_icmp_eqN hC (by omega) (by omega) (gDec_at DX7_readStave_0 32 rfl) 76 (by decide) (fun h59 => ?_) (fun h59 => ?_)
          · skip
            have hsl : i + 1 < sl := by omega
            refine g_iconst hC (gDec_at DX7_readStave_0 40 rfl) (v := nI 1) (by decide) ?_
            refine g_goto hC (gDec_at DX7_readStave_0 41 rfl) 81 (by decide) ?_
            refine g_istore_n hC (gDec_at DX7_readStave_0 43 rfl) (by decide) (L' := [(1, .int (nI 1)), (0, .ref (q.2.2 0))]) rfl ?_
            refine g_goto hC (gDec_at DX7_readStave_0 44 rfl) 12 (by decide) ?_
            refine g_sub [1, 0] (L' := [(0, .ref (q.2.2 0)), (1, .int (nI 1))]) rfl ?_
            have h9 := ih (i + 1) M3 (by omega) (by omega) (hr3) (by omega) (by omega)
            exact h9
          · skip
            have hby := (hT.2.2 (4 * i + 4) (by omega)).2
            refine g_aload_n hC (gDec_at DX7_readStave_0 33 rfl) rfl ?_
            refine g_get (w := wM q) hC 0 (v := .ref (q.2.2 1)) fl_X7_7 (show 0 < 17 from by decide) rfl rfl (gDec_at DX7_readStave_0 34 rfl) ?_
            refine g_aload_n hC (gDec_at DX7_readStave_0 35 rfl) rfl ?_
            refine g_get (w := wM q) hC 0 (v := .int (nI (4 * i + 4))) fl_X7_83 (show 0 < 17 from by decide) rfl (g_sv hr3.2.1) (gDec_at DX7_readStave_0 36 rfl) ?_
            refine g_iald (w := wM q) hC 1 0 (4 * i + 4) (x := (nI (tb (4 * i + 4)))) (show 1 < 17 from by decide) rfl rfl (by omega) (by decide) (hT3.2.2 _ (by omega)).1 (gDec_at DX7_readStave_0 37 rfl) ?_
            refine g_bipush hC (gDec_at DX7_readStave_0 38 rfl) (v := nI 47) (by decide) ?_
            refine g_icmp_eqN hC (by omega) (by omega) (gDec_at DX7_readStave_0 39 rfl) 80 (by decide) (fun h73 => ?_) (fun h73 => ?_)
            · skip
              have hsl : i + 1 = sl := by rcases Nat.lt_or_ge (i + 1) sl with z | z; exact absurd ⟨by omega, h73⟩ (hmin (i + 1) (by omega) z); omega
              refine g_iconst hC (gDec_at DX7_readStave_0 42 rfl) (v := nI 0) (by decide) ?_
              refine g_istore_n hC (gDec_at DX7_readStave_0 43 rfl) (by decide) (L' := [(1, .int (nI 0)), (0, .ref (q.2.2 0))]) rfl ?_
              refine g_goto hC (gDec_at DX7_readStave_0 44 rfl) 12 (by decide) ?_
              refine g_iload_n hC (gDec_at DX7_readStave_0 8 rfl) rfl ?_
              refine g_if_eqN hC (by decide) (gDec_at DX7_readStave_0 9 rfl) 85 (by decide) (fun h => ?_) (fun h => absurd h (by decide))
              refine g_aload_n hC (gDec_at DX7_readStave_0 45 rfl) rfl ?_
              refine g_dup hC (gDec_at DX7_readStave_0 46 rfl) rfl ?_
              refine g_get (w := wM q) hC 0 (v := .int (nI (4 * i + 4))) fl_X7_83 (show 0 < 17 from by decide) rfl (g_sv hr3.2.1) (gDec_at DX7_readStave_0 47 rfl) ?_
              refine g_iconst hC (gDec_at DX7_readStave_0 48 rfl) (v := nI 1) (by decide) ?_
              refine g_iaddN hC (gDec_at DX7_readStave_0 49 rfl) ?_
              refine g_putI (w := wM q) hC 0 fl_X7_83 fp_7_3 (show 0 < 17 from by decide) rfl (Nat.le_of_ble_eq_true rfl) rfl rfl (gDec_at DX7_readStave_0 50 rfl) ?_
              have hr4 := rdI_p (m := 4 * i + 4 + 1) hr3
              generalize hM4 : gupd M3 0 3 (nI (4 * i + 4 + 1)) = M4 at hr4 ⊢
              refine g_iconst hC (gDec_at DX7_readStave_0 51 rfl) (v := nI 0) (by decide) ?_
              refine g_istore_n hC (gDec_at DX7_readStave_0 52 rfl) (by decide) (L' := [(2, .int (nI 0)), (1, .int (nI 0)), (0, .ref (q.2.2 0))]) rfl ?_
              have lp2 : ∀ (fu j : Nat) (M5 : gM), j ≤ sl → sl - j < fu → rdI M M5 tb sl (fun z => z < sl ∨ (6 ≤ z ∧ z < 6 + j)) (4 * sl + 1 + 4 * j) sl → 4 * sl + 1 + 4 * j ≤ K → gG X (wM q) (fun v M' => v = some (.int (nI K)) ∧ mR M M') 3 M5 97 [(0, .ref (q.2.2 0)), (2, .int (nI j))] [] := by
                intro fu; induction fu with
                | zero => intro j M5 h1 h2; omega
                | succ fu ih_lp2 =>
                  intro j M5 hjs hfu hr5 hjK
                  rcases (show K = 4 * sl + 1 + 4 * j ∨ K = 4 * sl + 1 + 4 * j + 1 ∨ K = 4 * sl + 1 + 4 * j + 2 ∨ K = 4 * sl + 1 + 4 * j + 3 ∨ 4 * sl + 1 + 4 * j + 4 ≤ K by omega) with hv | hv | hv | hv | hv
                  · skip
                    refine g_iload_n hC (gDec_at DX7_readStave_0 53 rfl) rfl ?_
                    refine g_aload_n hC (gDec_at DX7_readStave_0 54 rfl) rfl ?_
                    refine g_get (w := wM q) hC 0 (v := .int (nI sl)) fl_X7_90 (show 0 < 17 from by decide) rfl (g_sv hr5.2.2.1) (gDec_at DX7_readStave_0 55 rfl) ?_
                    refine g_icmp_geN hC (by omega) (by omega) (gDec_at DX7_readStave_0 56 rfl) 127 (by decide) (fun h102 => ?_) (fun h102 => ?_)
                    · skip
                      refine g_aload_n hC (gDec_at DX7_readStave_1 4 rfl) rfl ?_
                      refine g_get (w := wM q) hC 0 (v := .int (nI (4 * sl + 1 + 4 * j))) fl_X7_83 (show 0 < 17 from by decide) rfl (g_sv hr5.2.1) (gDec_at DX7_readStave_1 5 rfl) ?_
                      refine g_aload_n hC (gDec_at DX7_readStave_1 6 rfl) rfl ?_
                      refine g_get (w := wM q) hC 0 (v := .int (nI tl)) fl_X7_80 (show 0 < 17 from by decide) rfl (g_sv (mT_R hT hr5.1).1) (gDec_at DX7_readStave_1 7 rfl) ?_
                      refine g_icmp_geN hC (by omega) (by omega) (gDec_at DX7_readStave_1 8 rfl) 145 (by decide) (fun h135 => ?_) (fun h135 => ?_)
                      · skip
                        exact absurd h135 (by omega)
                      · skip
                        refine g_aload_n hC (gDec_at DX7_readStave_1 9 rfl) rfl ?_
                        refine g_get (w := wM q) hC 0 (v := .int (nI (4 * sl + 1 + 4 * j))) fl_X7_83 (show 0 < 17 from by decide) rfl (g_sv hr5.2.1) (gDec_at DX7_readStave_1 10 rfl) ?_
                        refine g_goto hC (gDec_at DX7_readStave_1 11 rfl) 147 (by decide) ?_
                        refine g_iret hC (gDec_at DX7_readStave_1 13 rfl) ?_
                        exact ⟨congrArg (fun z => some (Value.int (nI z))) (by omega), hr5.1⟩
                    · skip
                      refine g_aload_n hC (gDec_at DX7_readStave_0 57 rfl) rfl ?_
                      refine g_bipush hC (gDec_at DX7_readStave_0 58 rfl) (v := nI 6) (by decide) ?_
                      refine g_iload_n hC (gDec_at DX7_readStave_0 59 rfl) rfl ?_
                      refine g_iaddN hC (gDec_at DX7_readStave_0 60 rfl) ?_
                      refine g_callVd (w := wM q) hC 0 (c_X7_readPlace_0 q (mT_R hT hr5.1) (p := 4 * sl + 1 + 4 * j) (i := 6 + j) (by omega) hr5.2.1 (by omega)  (fun h z => by rw [hv] at hx; exact hx h (sf_t2 (u := 0) (by omega) (by omega) z))) vf_X7_readPlace ml_X7_93 (by decide) (show 0 < 17 from by decide) rfl rfl rfl rfl rfl (Nat.le_of_ble_eq_true rfl) (gDec_at DX7_readStave_0 61 rfl) ?_
                      refine g_if_neN hC (by decide) (gDec_at DX7_readStave_0 62 rfl) 121 (by decide) (fun h => absurd h (by decide)) (fun h => ?_)
                      refine g_aload_n hC (gDec_at DX7_readStave_0 63 rfl) rfl ?_
                      refine g_get (w := wM q) hC 0 (v := .int (nI (4 * sl + 1 + 4 * j))) fl_X7_83 (show 0 < 17 from by decide) rfl (g_sv hr5.2.1) (gDec_at DX7_readStave_1 0 rfl) ?_
                      refine g_iret hC (gDec_at DX7_readStave_1 1 rfl) ?_
                      exact ⟨congrArg (fun z => some (Value.int (nI z))) (by omega), hr5.1⟩
                  · skip
                    refine g_iload_n hC (gDec_at DX7_readStave_0 53 rfl) rfl ?_
                    refine g_aload_n hC (gDec_at DX7_readStave_0 54 rfl) rfl ?_
                    refine g_get (w := wM q) hC 0 (v := .int (nI sl)) fl_X7_90 (show 0 < 17 from by decide) rfl (g_sv hr5.2.2.1) (gDec_at DX7_readStave_0 55 rfl) ?_
                    refine g_icmp_geN hC (by omega) (by omega) (gDec_at DX7_readStave_0 56 rfl) 127 (by decide) (fun h102_1 => ?_) (fun h102_1 => ?_)
                    · skip
                      refine g_aload_n hC (gDec_at DX7_readStave_1 4 rfl) rfl ?_
                      refine g_get (w := wM q) hC 0 (v := .int (nI (4 * sl + 1 + 4 * j))) fl_X7_83 (show 0 < 17 from by decide) rfl (g_sv hr5.2.1) (gDec_at DX7_readStave_1 5 rfl) ?_
                      refine g_aload_n hC (gDec_at DX7_readStave_1 6 rfl) rfl ?_
                      refine g_get (w := wM q) hC 0 (v := .int (nI tl)) fl_X7_80 (show 0 < 17 from by decide) rfl (g_sv (mT_R hT hr5.1).1) (gDec_at DX7_readStave_1 7 rfl) ?_
                      refine g_icmp_geN hC (by omega) (by omega) (gDec_at DX7_readStave_1 8 rfl) 145 (by decide) (fun h135_1 => ?_) (fun h135_1 => ?_)
                      · skip
                        exact absurd h135_1 (by omega)
                      · skip
                        refine g_aload_n hC (gDec_at DX7_readStave_1 9 rfl) rfl ?_
                        refine g_get (w := wM q) hC 0 (v := .int (nI (4 * sl + 1 + 4 * j))) fl_X7_83 (show 0 < 17 from by decide) rfl (g_sv hr5.2.1) (gDec_at DX7_readStave_1 10 rfl) ?_
                        refine g_goto hC (gDec_at DX7_readStave_1 11 rfl) 147 (by decide) ?_
                        refine g_iret hC (gDec_at DX7_readStave_1 13 rfl) ?_
                        exact ⟨congrArg (fun z => some (Value.int (nI z))) (by omega), hr5.1⟩
                    · skip
                      refine g_aload_n hC (gDec_at DX7_readStave_0 57 rfl) rfl ?_
                      refine g_bipush hC (gDec_at DX7_readStave_0 58 rfl) (v := nI 6) (by decide) ?_
                      refine g_iload_n hC (gDec_at DX7_readStave_0 59 rfl) rfl ?_
                      refine g_iaddN hC (gDec_at DX7_readStave_0 60 rfl) ?_
                      refine g_callVd (w := wM q) hC 0 (c_X7_readPlace_1 q (mT_R hT hr5.1) (p := 4 * sl + 1 + 4 * j) (i := 6 + j) (by omega) hr5.2.1 (by omega) (by omega) (sf_2 (hall (4 * sl + 1 + 4 * j + 0) (by omega)) h0 (by omega)) (fun h z => by rw [hv] at hx; exact hx h (sf_t2 (u := 1) (by omega) (by omega) z))) vf_X7_readPlace ml_X7_93 (by decide) (show 0 < 17 from by decide) rfl rfl rfl rfl rfl (Nat.le_of_ble_eq_true rfl) (gDec_at DX7_readStave_0 61 rfl) ?_
                      refine g_if_neN hC (by decide) (gDec_at DX7_readStave_0 62 rfl) 121 (by decide) (fun h => absurd h (by decide)) (fun h => ?_)
                      refine g_aload_n hC (gDec_at DX7_readStave_0 63 rfl) rfl ?_
                      refine g_get (w := wM q) hC 0 (v := .int (nI (4 * sl + 1 + 4 * j + 1))) fl_X7_83 (show 0 < 17 from by decide) rfl (g_sv pl_at) (gDec_at DX7_readStave_1 0 rfl) ?_
                      refine g_iret hC (gDec_at DX7_readStave_1 1 rfl) ?_
                      exact ⟨congrArg (fun z => some (Value.int (nI z))) (by omega), (mR_0 hr5.1 (by omega))⟩
                  · skip
                    refine g_iload_n hC (gDec_at DX7_readStave_0 53 rfl) rfl ?_
                    refine g_aload_n hC (gDec_at DX7_readStave_0 54 rfl) rfl ?_
                    refine g_get (w := wM q) hC 0 (v := .int (nI sl)) fl_X7_90 (show 0 < 17 from by decide) rfl (g_sv hr5.2.2.1) (gDec_at DX7_readStave_0 55 rfl) ?_
                    refine g_icmp_geN hC (by omega) (by omega) (gDec_at DX7_readStave_0 56 rfl) 127 (by decide) (fun h102_2 => ?_) (fun h102_2 => ?_)
                    · skip
                      refine g_aload_n hC (gDec_at DX7_readStave_1 4 rfl) rfl ?_
                      refine g_get (w := wM q) hC 0 (v := .int (nI (4 * sl + 1 + 4 * j))) fl_X7_83 (show 0 < 17 from by decide) rfl (g_sv hr5.2.1) (gDec_at DX7_readStave_1 5 rfl) ?_
                      refine g_aload_n hC (gDec_at DX7_readStave_1 6 rfl) rfl ?_
                      refine g_get (w := wM q) hC 0 (v := .int (nI tl)) fl_X7_80 (show 0 < 17 from by decide) rfl (g_sv (mT_R hT hr5.1).1) (gDec_at DX7_readStave_1 7 rfl) ?_
                      refine g_icmp_geN hC (by omega) (by omega) (gDec_at DX7_readStave_1 8 rfl) 145 (by decide) (fun h135_2 => ?_) (fun h135_2 => ?_)
                      · skip
                        exact absurd h135_2 (by omega)
                      · skip
                        refine g_aload_n hC (gDec_at DX7_readStave_1 9 rfl) rfl ?_
                        refine g_get (w := wM q) hC 0 (v := .int (nI (4 * sl + 1 + 4 * j))) fl_X7_83 (show 0 < 17 from by decide) rfl (g_sv hr5.2.1) (gDec_at DX7_readStave_1 10 rfl) ?_
                        refine g_goto hC (gDec_at DX7_readStave_1 11 rfl) 147 (by decide) ?_
                        refine g_iret hC (gDec_at DX7_readStave_1 13 rfl) ?_
                        exact ⟨congrArg (fun z => some (Value.int (nI z))) (by omega), hr5.1⟩
                    · skip
                      refine g_aload_n hC (gDec_at DX7_readStave_0 57 rfl) rfl ?_
                      refine g_bipush hC (gDec_at DX7_readStave_0 58 rfl) (v := nI 6) (by decide) ?_
                      refine g_iload_n hC (gDec_at DX7_readStave_0 59 rfl) rfl ?_
                      refine g_iaddN hC (gDec_at DX7_readStave_0 60 rfl) ?_
                      refine g_callVd (w := wM q) hC 0 (c_X7_readPlace_2 q (mT_R hT hr5.1) (p := 4 * sl + 1 + 4 * j) (i := 6 + j) (by omega) hr5.2.1 (by omega) (by omega) (sf_2 (hall (4 * sl + 1 + 4 * j + 0) (by omega)) h0 (by omega)) (by omega) (sf_2 (hall (4 * sl + 1 + 4 * j + 1) (by omega)) h0 (by omega)) (fun h z => by rw [hv] at hx; exact hx h (sf_t2 (u := 2) (by omega) (by omega) z))) vf_X7_readPlace ml_X7_93 (by decide) (show 0 < 17 from by decide) rfl rfl rfl rfl rfl (Nat.le_of_ble_eq_true rfl) (gDec_at DX7_readStave_0 61 rfl) ?_
                      refine g_if_neN hC (by decide) (gDec_at DX7_readStave_0 62 rfl) 121 (by decide) (fun h => absurd h (by decide)) (fun h => ?_)
                      refine g_aload_n hC (gDec_at DX7_readStave_0 63 rfl) rfl ?_
                      refine g_get (w := wM q) hC 0 (v := .int (nI (4 * sl + 1 + 4 * j + 2))) fl_X7_83 (show 0 < 17 from by decide) rfl (g_sv pl_at) (gDec_at DX7_readStave_1 0 rfl) ?_
                      refine g_iret hC (gDec_at DX7_readStave_1 1 rfl) ?_
                      exact ⟨congrArg (fun z => some (Value.int (nI z))) (by omega), (mR_0 hr5.1 (by omega))⟩
                  · skip
                    refine g_iload_n hC (gDec_at DX7_readStave_0 53 rfl) rfl ?_
                    refine g_aload_n hC (gDec_at DX7_readStave_0 54 rfl) rfl ?_
                    refine g_get (w := wM q) hC 0 (v := .int (nI sl)) fl_X7_90 (show 0 < 17 from by decide) rfl (g_sv hr5.2.2.1) (gDec_at DX7_readStave_0 55 rfl) ?_
                    refine g_icmp_geN hC (by omega) (by omega) (gDec_at DX7_readStave_0 56 rfl) 127 (by decide) (fun h102_3 => ?_) (fun h102_3 => ?_)
                    · skip
                      refine g_aload_n hC (gDec_at DX7_readStave_1 4 rfl) rfl ?_
                      refine g_get (w := wM q) hC 0 (v := .int (nI (4 * sl + 1 + 4 * j))) fl_X7_83 (show 0 < 17 from by decide) rfl (g_sv hr5.2.1) (gDec_at DX7_readStave_1 5 rfl) ?_
                      refine g_aload_n hC (gDec_at DX7_readStave_1 6 rfl) rfl ?_
                      refine g_get (w := wM q) hC 0 (v := .int (nI tl)) fl_X7_80 (show 0 < 17 from by decide) rfl (g_sv (mT_R hT hr5.1).1) (gDec_at DX7_readStave_1 7 rfl) ?_
                      refine g_icmp_geN hC (by omega) (by omega) (gDec_at DX7_readStave_1 8 rfl) 145 (by decide) (fun h135_3 => ?_) (fun h135_3 => ?_)
                      · skip
                        exact absurd h135_3 (by omega)
                      · skip
                        refine g_aload_n hC (gDec_at DX7_readStave_1 9 rfl) rfl ?_
                        refine g_get (w := wM q) hC 0 (v := .int (nI (4 * sl + 1 + 4 * j))) fl_X7_83 (show 0 < 17 from by decide) rfl (g_sv hr5.2.1) (gDec_at DX7_readStave_1 10 rfl) ?_
                        refine g_goto hC (gDec_at DX7_readStave_1 11 rfl) 147 (by decide) ?_
                        refine g_iret hC (gDec_at DX7_readStave_1 13 rfl) ?_
                        exact ⟨congrArg (fun z => some (Value.int (nI z))) (by omega), hr5.1⟩
                    · skip
                      refine g_aload_n hC (gDec_at DX7_readStave_0 57 rfl) rfl ?_
                      refine g_bipush hC (gDec_at DX7_readStave_0 58 rfl) (v := nI 6) (by decide) ?_
                      refine g_iload_n hC (gDec_at DX7_readStave_0 59 rfl) rfl ?_
                      refine g_iaddN hC (gDec_at DX7_readStave_0 60 rfl) ?_
                      refine g_callVd (w := wM q) hC 0 (c_X7_readPlace_3 q (mT_R hT hr5.1) (p := 4 * sl + 1 + 4 * j) (i := 6 + j) (by omega) hr5.2.1 (by omega) (by omega) (sf_2 (hall (4 * sl + 1 + 4 * j + 0) (by omega)) h0 (by omega)) (by omega) (sf_2 (hall (4 * sl + 1 + 4 * j + 1) (by omega)) h0 (by omega)) (by omega) (sf_2 (hall (4 * sl + 1 + 4 * j + 2) (by omega)) h0 (by omega)) (fun h z => by rw [hv] at hx; exact hx h (sf_t2 (u := 3) (by omega) (by omega) z))) vf_X7_readPlace ml_X7_93 (by decide) (show 0 < 17 from by decide) rfl rfl rfl rfl rfl (Nat.le_of_ble_eq_true rfl) (gDec_at DX7_readStave_0 61 rfl) ?_
                      refine g_if_neN hC (by decide) (gDec_at DX7_readStave_0 62 rfl) 121 (by decide) (fun h => absurd h (by decide)) (fun h => ?_)
                      refine g_aload_n hC (gDec_at DX7_readStave_0 63 rfl) rfl ?_
                      refine g_get (w := wM q) hC 0 (v := .int (nI (4 * sl + 1 + 4 * j + 3))) fl_X7_83 (show 0 < 17 from by decide) rfl (g_sv pl_at) (gDec_at DX7_readStave_1 0 rfl) ?_
                      refine g_iret hC (gDec_at DX7_readStave_1 1 rfl) ?_
                      exact ⟨congrArg (fun z => some (Value.int (nI z))) (by omega), (mR_0 hr5.1 (by omega))⟩
                  · skip
                    refine g_iload_n hC (gDec_at DX7_readStave_0 53 rfl) rfl ?_
                    refine g_aload_n hC (gDec_at DX7_readStave_0 54 rfl) rfl ?_
                    refine g_get (w := wM q) hC 0 (v := .int (nI sl)) fl_X7_90 (show 0 < 17 from by decide) rfl (g_sv hr5.2.2.1) (gDec_at DX7_readStave_0 55 rfl) ?_
                    refine g_icmp_geN hC (by omega) (by omega) (gDec_at DX7_readStave_0 56 rfl) 127 (by decide) (fun h102_4 => ?_) (fun h102_4 => ?_)
                    · skip
                      refine g_aload_n hC (gDec_at DX7_readStave_1 4 rfl) rfl ?_
                      refine g_get (w := wM q) hC 0 (v := .int (nI (4 * sl + 1 + 4 * j))) fl_X7_83 (show 0 < 17 from by decide) rfl (g_sv hr5.2.1) (gDec_at DX7_readStave_1 5 rfl) ?_
                      refine g_aload_n hC (gDec_at DX7_readStave_1 6 rfl) rfl ?_
                      refine g_get (w := wM q) hC 0 (v := .int (nI tl)) fl_X7_80 (show 0 < 17 from by decide) rfl (g_sv (mT_R hT hr5.1).1) (gDec_at DX7_readStave_1 7 rfl) ?_
                      refine g_icmp_geN hC (by omega) (by omega) (gDec_at DX7_readStave_1 8 rfl) 145 (by decide) (fun h135_4 => ?_) (fun h135_4 => ?_)
                      · skip
                        exact absurd h135_4 (by omega)
                      · skip
                        refine g_aload_n hC (gDec_at DX7_readStave_1 9 rfl) rfl ?_
                        refine g_get (w := wM q) hC 0 (v := .int (nI (4 * sl + 1 + 4 * j))) fl_X7_83 (show 0 < 17 from by decide) rfl (g_sv hr5.2.1) (gDec_at DX7_readStave_1 10 rfl) ?_
                        refine g_goto hC (gDec_at DX7_readStave_1 11 rfl) 147 (by decide) ?_
                        refine g_iret hC (gDec_at DX7_readStave_1 13 rfl) ?_
                        exact ⟨congrArg (fun z => some (Value.int (nI z))) (by omega), hr5.1⟩
                    · skip
                      refine g_aload_n hC (gDec_at DX7_readStave_0 57 rfl) rfl ?_
                      refine g_bipush hC (gDec_at DX7_readStave_0 58 rfl) (v := nI 6) (by decide) ?_
                      refine g_iload_n hC (gDec_at DX7_readStave_0 59 rfl) rfl ?_
                      refine g_iaddN hC (gDec_at DX7_readStave_0 60 rfl) ?_
                      refine g_callVd (w := wM q) hC 0 (c_X7_readPlace_4 q (mT_R hT hr5.1) (p := 4 * sl + 1 + 4 * j) (i := 6 + j) (by omega) hr5.2.1 (by omega) (sf_2 (hall (4 * sl + 1 + 4 * j + 0) (by omega)) h0 (by omega)) (by omega) (sf_2 (hall (4 * sl + 1 + 4 * j + 1) (by omega)) h0 (by omega)) (by omega) (sf_2 (hall (4 * sl + 1 + 4 * j + 2) (by omega)) h0 (by omega)) (by omega) (sf_2 (hall (4 * sl + 1 + 4 * j + 3) (by omega)) h0 (by omega))) vf_X7_readPlace ml_X7_93 (by decide) (show 0 < 17 from by decide) rfl rfl rfl rfl rfl (Nat.le_of_ble_eq_true rfl) (gDec_at DX7_readStave_0 61 rfl) ?_
                      have hr6 := rdI_s (Q := (fun z => z < sl ∨ (6 ≤ z ∧ z < 6 + (j + 1)))) hr5 (pos_1 (sl := sl) (show j < 6 by omega)) (fun z hz => by omega)
                      show gG X _ _ _ (r4 M5 tb (4 * sl + 1 + 4 * j) (6 + j)) _ _ _
                      generalize hM6 : r4 M5 tb (4 * sl + 1 + 4 * j) (6 + j) = M6 at hr6 ⊢
                      refine g_if_neN hC (by decide) (gDec_at DX7_readStave_0 62 rfl) 121 (by decide) (fun h => ?_) (fun h => absurd h (by decide))
                      refine g_iincN hC (gDec_at DX7_readStave_1 2 rfl) rfl (by decide) (L' := [(2, .int (nI (j + 1))), (0, .ref (q.2.2 0))]) rfl ?_
                      refine g_goto hC (gDec_at DX7_readStave_1 3 rfl) 97 (by decide) ?_
                      refine g_sub [1, 0] (L' := [(0, .ref (q.2.2 0)), (2, .int (nI (j + 1)))]) rfl ?_
                      have h9 := ih_lp2 (j + 1) M6 (by omega) (by omega) (rdI_c hr6 (fun z hz => hz) (by omega) rfl) (by omega)
                      exact h9
              exact g_sub [2, 0] rfl (lp2 (sl + 1 - 0) 0 M4 (by omega) (by omega) (rdI_c hr4 (fun z hz => by omega) (by omega) (by omega)) (by omega))
            · skip
              have hsl : i + 1 < sl := by rcases Nat.lt_or_ge (i + 1) sl with z | z; exact z; exact absurd (show tb (4 * i + 4) = 47 from by rw [show 4 * i + 4 = 4 * sl by omega]; exact hs.2) h73
              refine g_iconst hC (gDec_at DX7_readStave_0 40 rfl) (v := nI 1) (by decide) ?_
              refine g_goto hC (gDec_at DX7_readStave_0 41 rfl) 81 (by decide) ?_
              refine g_istore_n hC (gDec_at DX7_readStave_0 43 rfl) (by decide) (L' := [(1, .int (nI 1)), (0, .ref (q.2.2 0))]) rfl ?_
              refine g_goto hC (gDec_at DX7_readStave_0 44 rfl) 12 (by decide) ?_
              refine g_sub [1, 0] (L' := [(0, .ref (q.2.2 0)), (1, .int (nI 1))]) rfl ?_
              have h9 := ih (i + 1) M3 (by omega) (by omega) (hr3) (by omega) (by omega)
              exact h9
  exact g_sub [1, 0] rfl (loop12 (sl + 1 - 0) 0 _ (by omega) (by omega) ⟨mR_0 (mR_0 mR_rf (by omega)) (by omega), by rw [gupd_get, if_neg (by omega), gupd_get, if_pos ⟨rfl, rfl⟩], by rw [gupd_get, if_pos ⟨rfl, rfl⟩], fun j hj => absurd hj (Nat.not_lt_zero j)⟩ (by omega) (by omega))

set_option maxRecDepth 100000 in
set_option maxHeartbeats 4000000 in
theorem c_X7_readStave_good (q : gQ3) {M : gM} {tl : Nat} {tb : Nat → Nat} (hT : mT M tl tb) {sl : Nat} (h0 : 1 ≤ sl) (h6 : sl ≤ 6) (hs : 4 * sl < tl ∧ tb (4 * sl) = 47) (hmin : ∀ n, 1 ≤ n → n < sl → ¬ (4 * n < tl ∧ tb (4 * n) = 47)) {K : Nat} (hKt : K ≤ tl) (hall : ∀ i, i < K → sfit tb sl i) (hx : K < tl → ¬ sfit tb sl K) (hg : K = tl ∧ tl = 8 * sl + 1) : gCt (wM q) yX7_readStave cX7_readStave 3 (some .int) 3 [.ref (q.2.2 0)] M (fun v M' => v = some (.int (-9)) ∧ rdI M M' tb sl (fun z => z < sl ∨ (6 ≤ z ∧ z < 6 + sl)) tl sl) := by
  refine gMet RX7 (by decide +kernel) rfl (Nat.le_of_ble_eq_true rfl) (fun X hC => ?_)
  have hC : gC X (wM q) cX7_readStave 3 RX7 (some .int) 3 := hC
  show gG X (wM q) _ 3 M 0 [(0, .ref (q.2.2 0))] []
  have ht := hT.2.1
  have hK8 : K ≤ 8 * sl + 1 := by rcases Nat.lt_or_ge (8 * sl + 1) K with z | z; have := sf_3 (hall (8 * sl + 1) z) h0; omega; exact z
  have hKs : 4 * sl ≤ K → 4 * sl + 1 ≤ K := fun z => by rcases Nat.eq_or_lt_of_le z with e | e; exact absurd (sf_m (tb := tb) h0) (by have h9 := hx (by omega); rw [← e] at h9; exact h9); omega
  refine g_aload_n hC (gDec_at DX7_readStave_0 0 rfl) rfl ?_
  refine g_iconst hC (gDec_at DX7_readStave_0 1 rfl) (v := nI 0) (by decide) ?_
  refine g_putI (w := wM q) hC 0 fl_X7_83 fp_7_3 (show 0 < 17 from by decide) rfl (Nat.le_of_ble_eq_true rfl) rfl rfl (gDec_at DX7_readStave_0 2 rfl) ?_
  refine g_aload_n hC (gDec_at DX7_readStave_0 3 rfl) rfl ?_
  refine g_iconst hC (gDec_at DX7_readStave_0 4 rfl) (v := nI 0) (by decide) ?_
  refine g_putI (w := wM q) hC 0 fl_X7_90 fp_7_12 (show 0 < 17 from by decide) rfl (Nat.le_of_ble_eq_true rfl) rfl rfl (gDec_at DX7_readStave_0 5 rfl) ?_
  refine g_iconst hC (gDec_at DX7_readStave_0 6 rfl) (v := nI 1) (by decide) ?_
  refine g_istore_n hC (gDec_at DX7_readStave_0 7 rfl) (by decide) (L' := [(1, .int (nI 1)), (0, .ref (q.2.2 0))]) rfl ?_
  have loop12 : ∀ (fu i : Nat) (M1 : gM), i ≤ sl → sl - i < fu → rdI M M1 tb sl (fun j => j < i) (4 * i) i → 4 * i ≤ K → i < sl → gG X (wM q) (fun v M' => v = some (.int (-9)) ∧ rdI M M' tb sl (fun z => z < sl ∨ (6 ≤ z ∧ z < 6 + sl)) tl sl) 3 M1 12 [(0, .ref (q.2.2 0)), (1, .int (nI 1))] [] := by
    intro fu; induction fu with
    | zero => intro i M1 h1 h2; omega
    | succ fu ih =>
      intro i M1 hi hfu hr hiK his
      rcases (show K = 4 * i ∨ K = 4 * i + 1 ∨ K = 4 * i + 2 ∨ K = 4 * i + 3 ∨ 4 * i + 4 ≤ K by omega) with hw | hw | hw | hw | hw
      · skip
        refine g_iload_n hC (gDec_at DX7_readStave_0 8 rfl) rfl ?_
        refine g_if_eqN hC (by decide) (gDec_at DX7_readStave_0 9 rfl) 85 (by decide) (fun h => absurd h (by decide)) (fun h => ?_)
        refine g_aload_n hC (gDec_at DX7_readStave_0 10 rfl) rfl ?_
        refine g_get (w := wM q) hC 0 (v := .int (nI i)) fl_X7_90 (show 0 < 17 from by decide) rfl (g_sv hr.2.2.1) (gDec_at DX7_readStave_0 11 rfl) ?_
        refine g_bipush hC (gDec_at DX7_readStave_0 12 rfl) (v := nI 6) (by decide) ?_
        refine g_icmp_eqN hC (by omega) (by omega) (gDec_at DX7_readStave_0 13 rfl) 36 (by decide) (fun h22 => ?_) (fun h22 => ?_)
        · skip
          exact absurd h22 (by omega)
        · skip
          exact absurd hw (by omega)
      · skip
        refine g_iload_n hC (gDec_at DX7_readStave_0 8 rfl) rfl ?_
        refine g_if_eqN hC (by decide) (gDec_at DX7_readStave_0 9 rfl) 85 (by decide) (fun h => absurd h (by decide)) (fun h => ?_)
        refine g_aload_n hC (gDec_at DX7_readStave_0 10 rfl) rfl ?_
        refine g_get (w := wM q) hC 0 (v := .int (nI i)) fl_X7_90 (show 0 < 17 from by decide) rfl (g_sv hr.2.2.1) (gDec_at DX7_readStave_0 11 rfl) ?_
        refine g_bipush hC (gDec_at DX7_readStave_0 12 rfl) (v := nI 6) (by decide) ?_
        refine g_icmp_eqN hC (by omega) (by omega) (gDec_at DX7_readStave_0 13 rfl) 36 (by decide) (fun h22_1 => ?_) (fun h22_1 => ?_)
        · skip
          exact absurd h22_1 (by omega)
        · skip
          exact absurd hw (by omega)
      · skip
        refine g_iload_n hC (gDec_at DX7_readStave_0 8 rfl) rfl ?_
        refine g_if_eqN hC (by decide) (gDec_at DX7_readStave_0 9 rfl) 85 (by decide) (fun h => absurd h (by decide)) (fun h => ?_)
        refine g_aload_n hC (gDec_at DX7_readStave_0 10 rfl) rfl ?_
        refine g_get (w := wM q) hC 0 (v := .int (nI i)) fl_X7_90 (show 0 < 17 from by decide) rfl (g_sv hr.2.2.1) (gDec_at DX7_readStave_0 11 rfl) ?_
        refine g_bipush hC (gDec_at DX7_readStave_0 12 rfl) (v := nI 6) (by decide) ?_
        refine g_icmp_eqN hC (by omega) (by omega) (gDec_at DX7_readStave_0 13 rfl) 36 (by decide) (fun h22_2 => ?_) (fun h22_2 => ?_)
        · skip
          exact absurd h22_2 (by omega)
        · skip
          exact absurd hw (by omega)
      · skip
        refine g_iload_n hC (gDec_at DX7_readStave_0 8 rfl) rfl ?_
        refine g_if_eqN hC (by decide) (gDec_at DX7_readStave_0 9 rfl) 85 (by decide) (fun h => absurd h (by decide)) (fun h => ?_)
        refine g_aload_n hC (gDec_at DX7_readStave_0 10 rfl) rfl ?_
        refine g_get (w := wM q) hC 0 (v := .int (nI i)) fl_X7_90 (show 0 < 17 from by decide) rfl (g_sv hr.2.2.1) (gDec_at DX7_readStave_0 11 rfl) ?_
        refine g_bipush hC (gDec_at DX7_readStave_0 12 rfl) (v := nI 6) (by decide) ?_
        refine g_icmp_eqN hC (by omega) (by omega) (gDec_at DX7_readStave_0 13 rfl) 36 (by decide) (fun h22_3 => ?_) (fun h22_3 => ?_)
        · skip
          exact absurd h22_3 (by omega)
        · skip
          exact absurd hw (by omega)
      · skip
        refine g_iload_n hC (gDec_at DX7_readStave_0 8 rfl) rfl ?_
        refine g_if_eqN hC (by decide) (gDec_at DX7_readStave_0 9 rfl) 85 (by decide) (fun h => absurd h (by decide)) (fun h => ?_)
        refine g_aload_n hC (gDec_at DX7_readStave_0 10 rfl) rfl ?_
        refine g_get (w := wM q) hC 0 (v := .int (nI i)) fl_X7_90 (show 0 < 17 from by decide) rfl (g_sv hr.2.2.1) (gDec_at DX7_readStave_0 11 rfl) ?_
        refine g_bipush hC (gDec_at DX7_readStave_0 12 rfl) (v := nI 6) (by decide) ?_
        refine g_icmp_eqN hC (by omega) (by omega) (gDec_at DX7_readStave_0 13 rfl) 36 (by decide) (fun h22_4 => ?_) (fun h22_4 => ?_)
        · skip
          exact absurd h22_4 (by omega)
        · skip
          refine g_aload_n hC (gDec_at DX7_readStave_0 14 rfl) rfl ?_
          refine g_aload_n hC (gDec_at DX7_readStave_0 15 rfl) rfl ?_
          refine g_get (w := wM q) hC 0 (v := .int (nI i)) fl_X7_90 (show 0 < 17 from by decide) rfl (g_sv hr.2.2.1) (gDec_at DX7_readStave_0 16 rfl) ?_
          refine g_callVd (w := wM q) hC 0 (c_X7_readPlace_4 q (mT_R hT hr.1) (p := 4 * i) (i := i) (by omega) hr.2.1 (by omega) (ff_at (i := i) (by omega) (sf_1 (hall (4 * i + 0) (by omega)) (by omega))) (by omega) (ff_at (i := i) (by omega) (sf_1 (hall (4 * i + 1) (by omega)) (by omega))) (by omega) (ff_at (i := i) (by omega) (sf_1 (hall (4 * i + 2) (by omega)) (by omega))) (by omega) (ff_at (i := i) (by omega) (sf_1 (hall (4 * i + 3) (by omega)) (by omega)))) vf_X7_readPlace ml_X7_93 (by decide) (show 0 < 17 from by decide) rfl rfl rfl rfl rfl (Nat.le_of_ble_eq_true rfl) (gDec_at DX7_readStave_0 17 rfl) ?_
          have hr2 := rdI_s (Q := (fun j => j < (i + 1))) hr (pos_0 (sl := sl) (show i < 6 by omega)) (fun j hj => by omega)
          show gG X _ _ _ (r4 M1 tb (4 * i) i) _ _ _
          generalize hM2 : r4 M1 tb (4 * i) i = M2 at hr2 ⊢
          refine g_if_neN hC (by decide) (gDec_at DX7_readStave_0 18 rfl) 41 (by decide) (fun h => ?_) (fun h => absurd h (by decide))
          refine g_aload_n hC (gDec_at DX7_readStave_0 22 rfl) rfl ?_
          refine g_dup hC (gDec_at DX7_readStave_0 23 rfl) rfl ?_
          refine g_get (w := wM q) hC 0 (v := .int (nI i)) fl_X7_90 (show 0 < 17 from by decide) rfl (g_sv hr2.2.2.1) (gDec_at DX7_readStave_0 24 rfl) ?_
          refine g_iconst hC (gDec_at DX7_readStave_0 25 rfl) (v := nI 1) (by decide) ?_
          refine g_iaddN hC (gDec_at DX7_readStave_0 26 rfl) ?_
          refine g_putI (w := wM q) hC 0 fl_X7_90 fp_7_12 (show 0 < 17 from by decide) rfl (Nat.le_of_ble_eq_true rfl) rfl rfl (gDec_at DX7_readStave_0 27 rfl) ?_
          have hr3 := rdI_n (m := i + 1) hr2
          generalize hM3 : gupd M2 0 12 (nI (i + 1)) = M3 at hr3 ⊢
          have hT3 := mT_R hT hr3.1
          refine g_aload_n hC (gDec_at DX7_readStave_0 28 rfl) rfl ?_
          refine g_get (w := wM q) hC 0 (v := .int (nI (4 * i + 4))) fl_X7_83 (show 0 < 17 from by decide) rfl (g_sv hr3.2.1) (gDec_at DX7_readStave_0 29 rfl) ?_
          refine g_aload_n hC (gDec_at DX7_readStave_0 30 rfl) rfl ?_
          refine g_get (w := wM q) hC 0 (v := .int (nI tl)) fl_X7_80 (show 0 < 17 from by decide) rfl (g_sv hT3.1) (gDec_at DX7_readStave_0 31 rfl) ?_
          refine g_icmp_eqN hC (by omega) (by omega) (gDec_at DX7_readStave_0 32 rfl) 76 (by decide) (fun h59 => ?_) (fun h59 => ?_)
          · skip
            have hsl : i + 1 < sl := by omega
            refine g_iconst hC (gDec_at DX7_readStave_0 40 rfl) (v := nI 1) (by decide) ?_
            refine g_goto hC (gDec_at DX7_readStave_0 41 rfl) 81 (by decide) ?_
            refine g_istore_n hC (gDec_at DX7_readStave_0 43 rfl) (by decide) (L' := [(1, .int (nI 1)), (0, .ref (q.2.2 0))]) rfl ?_
            refine g_goto hC (gDec_at DX7_readStave_0 44 rfl) 12 (by decide) ?_
            refine g_sub [1, 0] (L' := [(0, .ref (q.2.2 0)), (1, .int (nI 1))]) rfl ?_
            have h9 := ih (i + 1) M3 (by omega) (by omega) (hr3) (by omega) (by omega)
            exact h9
          · skip
            have hby := (hT.2.2 (4 * i + 4) (by omega)).2
            refine g_aload_n hC (gDec_at DX7_readStave_0 33 rfl) rfl ?_
            refine g_get (w := wM q) hC 0 (v := .ref (q.2.2 1)) fl_X7_7 (show 0 < 17 from by decide) rfl rfl (gDec_at DX7_readStave_0 34 rfl) ?_
            refine g_aload_n hC (gDec_at DX7_readStave_0 35 rfl) rfl ?_
            refine g_get (w := wM q) hC 0 (v := .int (nI (4 * i + 4))) fl_X7_83 (show 0 < 17 from by decide) rfl (g_sv hr3.2.1) (gDec_at DX7_readStave_0 36 rfl) ?_
            refine g_iald (w := wM q) hC 1 0 (4 * i + 4) (x := (nI (tb (4 * i + 4)))) (show 1 < 17 from by decide) rfl rfl (by omega) (by decide) (hT3.2.2 _ (by omega)).1 (gDec_at DX7_readStave_0 37 rfl) ?_
            refine g_bipush hC (gDec_at DX7_readStave_0 38 rfl) (v := nI 47) (by decide) ?_
            refine g_icmp_eqN hC (by omega) (by omega) (gDec_at DX7_readStave_0 39 rfl) 80 (by decide) (fun h73 => ?_) (fun h73 => ?_)
            · skip
              have hsl : i + 1 = sl := by rcases Nat.lt_or_ge (i + 1) sl with z | z; exact absurd ⟨by omega, h73⟩ (hmin (i + 1) (by omega) z); omega
              refine g_iconst hC (gDec_at DX7_readStave_0 42 rfl) (v := nI 0) (by decide) ?_
              refine g_istore_n hC (gDec_at DX7_readStave_0 43 rfl) (by decide) (L' := [(1, .int (nI 0)), (0, .ref (q.2.2 0))]) rfl ?_
              refine g_goto hC (gDec_at DX7_readStave_0 44 rfl) 12 (by decide) ?_
              refine g_iload_n hC (gDec_at DX7_readStave_0 8 rfl) rfl ?_
              refine g_if_eqN hC (by decide) (gDec_at DX7_readStave_0 9 rfl) 85 (by decide) (fun h => ?_) (fun h => absurd h (by decide))
              refine g_aload_n hC (gDec_at DX7_readStave_0 45 rfl) rfl ?_
              refine g_dup hC (gDec_at DX7_readStave_0 46 rfl) rfl ?_
              refine g_get (w := wM q) hC 0 (v := .int (nI (4 * i + 4))) fl_X7_83 (show 0 < 17 from by decide) rfl (g_sv hr3.2.1) (gDec_at DX7_readStave_0 47 rfl) ?_
              refine g_iconst hC (gDec_at DX7_readStave_0 48 rfl) (v := nI 1) (by decide) ?_
              refine g_iaddN hC (gDec_at DX7_readStave_0 49 rfl) ?_
              refine g_putI (w := wM q) hC 0 fl_X7_83 fp_7_3 (show 0 < 17 from by decide) rfl (Nat.le_of_ble_eq_true rfl) rfl rfl (gDec_at DX7_readStave_0 50 rfl) ?_
              have hr4 := rdI_p (m := 4 * i + 4 + 1) hr3
              generalize hM4 : gupd M3 0 3 (nI (4 * i + 4 + 1)) = M4 at hr4 ⊢
              refine g_iconst hC (gDec_at DX7_readStave_0 51 rfl) (v := nI 0) (by decide) ?_
              refine g_istore_n hC (gDec_at DX7_readStave_0 52 rfl) (by decide) (L' := [(2, .int (nI 0)), (1, .int (nI 0)), (0, .ref (q.2.2 0))]) rfl ?_
              have lp2 : ∀ (fu j : Nat) (M5 : gM), j ≤ sl → sl - j < fu → rdI M M5 tb sl (fun z => z < sl ∨ (6 ≤ z ∧ z < 6 + j)) (4 * sl + 1 + 4 * j) sl → 4 * sl + 1 + 4 * j ≤ K → gG X (wM q) (fun v M' => v = some (.int (-9)) ∧ rdI M M' tb sl (fun z => z < sl ∨ (6 ≤ z ∧ z < 6 + sl)) tl sl) 3 M5 97 [(0, .ref (q.2.2 0)), (2, .int (nI j))] [] := by
                intro fu; induction fu with
                | zero => intro j M5 h1 h2; omega
                | succ fu ih_lp2 =>
                  intro j M5 hjs hfu hr5 hjK
                  rcases (show K = 4 * sl + 1 + 4 * j ∨ K = 4 * sl + 1 + 4 * j + 1 ∨ K = 4 * sl + 1 + 4 * j + 2 ∨ K = 4 * sl + 1 + 4 * j + 3 ∨ 4 * sl + 1 + 4 * j + 4 ≤ K by omega) with hv | hv | hv | hv | hv
                  · skip
                    refine g_iload_n hC (gDec_at DX7_readStave_0 53 rfl) rfl ?_
                    refine g_aload_n hC (gDec_at DX7_readStave_0 54 rfl) rfl ?_
                    refine g_get (w := wM q) hC 0 (v := .int (nI sl)) fl_X7_90 (show 0 < 17 from by decide) rfl (g_sv hr5.2.2.1) (gDec_at DX7_readStave_0 55 rfl) ?_
                    refine g_icmp_geN hC (by omega) (by omega) (gDec_at DX7_readStave_0 56 rfl) 127 (by decide) (fun h102 => ?_) (fun h102 => ?_)
                    · skip
                      refine g_aload_n hC (gDec_at DX7_readStave_1 4 rfl) rfl ?_
                      refine g_get (w := wM q) hC 0 (v := .int (nI (4 * sl + 1 + 4 * j))) fl_X7_83 (show 0 < 17 from by decide) rfl (g_sv hr5.2.1) (gDec_at DX7_readStave_1 5 rfl) ?_
                      refine g_aload_n hC (gDec_at DX7_readStave_1 6 rfl) rfl ?_
                      refine g_get (w := wM q) hC 0 (v := .int (nI tl)) fl_X7_80 (show 0 < 17 from by decide) rfl (g_sv (mT_R hT hr5.1).1) (gDec_at DX7_readStave_1 7 rfl) ?_
                      refine g_icmp_geN hC (by omega) (by omega) (gDec_at DX7_readStave_1 8 rfl) 145 (by decide) (fun h135 => ?_) (fun h135 => ?_)
                      · skip
                        refine g_bipush hC (gDec_at DX7_readStave_1 12 rfl) (v := -9) (by decide) ?_
                        refine g_iret hC (gDec_at DX7_readStave_1 13 rfl) ?_
                        exact ⟨rfl, rdI_c hr5 (fun z hz => by omega) (by omega) rfl⟩
                      · skip
                        exact absurd h135 (by omega)
                    · skip
                      exact absurd hv (by omega)
                  · skip
                    refine g_iload_n hC (gDec_at DX7_readStave_0 53 rfl) rfl ?_
                    refine g_aload_n hC (gDec_at DX7_readStave_0 54 rfl) rfl ?_
                    refine g_get (w := wM q) hC 0 (v := .int (nI sl)) fl_X7_90 (show 0 < 17 from by decide) rfl (g_sv hr5.2.2.1) (gDec_at DX7_readStave_0 55 rfl) ?_
                    refine g_icmp_geN hC (by omega) (by omega) (gDec_at DX7_readStave_0 56 rfl) 127 (by decide) (fun h102_1 => ?_) (fun h102_1 => ?_)
                    · skip
                      refine g_aload_n hC (gDec_at DX7_readStave_1 4 rfl) rfl ?_
                      refine g_get (w := wM q) hC 0 (v := .int (nI (4 * sl + 1 + 4 * j))) fl_X7_83 (show 0 < 17 from by decide) rfl (g_sv hr5.2.1) (gDec_at DX7_readStave_1 5 rfl) ?_
                      refine g_aload_n hC (gDec_at DX7_readStave_1 6 rfl) rfl ?_
                      refine g_get (w := wM q) hC 0 (v := .int (nI tl)) fl_X7_80 (show 0 < 17 from by decide) rfl (g_sv (mT_R hT hr5.1).1) (gDec_at DX7_readStave_1 7 rfl) ?_
                      refine g_icmp_geN hC (by omega) (by omega) (gDec_at DX7_readStave_1 8 rfl) 145 (by decide) (fun h135_1 => ?_) (fun h135_1 => ?_)
                      · skip
                        refine g_bipush hC (gDec_at DX7_readStave_1 12 rfl) (v := -9) (by decide) ?_
                        refine g_iret hC (gDec_at DX7_readStave_1 13 rfl) ?_
                        exact ⟨rfl, rdI_c hr5 (fun z hz => by omega) (by omega) rfl⟩
                      · skip
                        exact absurd h135_1 (by omega)
                    · skip
                      exact absurd hv (by omega)
                  · skip
                    refine g_iload_n hC (gDec_at DX7_readStave_0 53 rfl) rfl ?_
                    refine g_aload_n hC (gDec_at DX7_readStave_0 54 rfl) rfl ?_
                    refine g_get (w := wM q) hC 0 (v := .int (nI sl)) fl_X7_90 (show 0 < 17 from by decide) rfl (g_sv hr5.2.2.1) (gDec_at DX7_readStave_0 55 rfl) ?_
                    refine g_icmp_geN hC (by omega) (by omega) (gDec_at DX7_readStave_0 56 rfl) 127 (by decide) (fun h102_2 => ?_) (fun h102_2 => ?_)
                    · skip
                      refine g_aload_n hC (gDec_at DX7_readStave_1 4 rfl) rfl ?_
                      refine g_get (w := wM q) hC 0 (v := .int (nI (4 * sl + 1 + 4 * j))) fl_X7_83 (show 0 < 17 from by decide) rfl (g_sv hr5.2.1) (gDec_at DX7_readStave_1 5 rfl) ?_
                      refine g_aload_n hC (gDec_at DX7_readStave_1 6 rfl) rfl ?_
                      refine g_get (w := wM q) hC 0 (v := .int (nI tl)) fl_X7_80 (show 0 < 17 from by decide) rfl (g_sv (mT_R hT hr5.1).1) (gDec_at DX7_readStave_1 7 rfl) ?_
                      refine g_icmp_geN hC (by omega) (by omega) (gDec_at DX7_readStave_1 8 rfl) 145 (by decide) (fun h135_2 => ?_) (fun h135_2 => ?_)
                      · skip
                        refine g_bipush hC (gDec_at DX7_readStave_1 12 rfl) (v := -9) (by decide) ?_
                        refine g_iret hC (gDec_at DX7_readStave_1 13 rfl) ?_
                        exact ⟨rfl, rdI_c hr5 (fun z hz => by omega) (by omega) rfl⟩
                      · skip
                        exact absurd h135_2 (by omega)
                    · skip
                      exact absurd hv (by omega)
                  · skip
                    refine g_iload_n hC (gDec_at DX7_readStave_0 53 rfl) rfl ?_
                    refine g_aload_n hC (gDec_at DX7_readStave_0 54 rfl) rfl ?_
                    refine g_get (w := wM q) hC 0 (v := .int (nI sl)) fl_X7_90 (show 0 < 17 from by decide) rfl (g_sv hr5.2.2.1) (gDec_at DX7_readStave_0 55 rfl) ?_
                    refine g_icmp_geN hC (by omega) (by omega) (gDec_at DX7_readStave_0 56 rfl) 127 (by decide) (fun h102_3 => ?_) (fun h102_3 => ?_)
                    · skip
                      refine g_aload_n hC (gDec_at DX7_readStave_1 4 rfl) rfl ?_
                      refine g_get (w := wM q) hC 0 (v := .int (nI (4 * sl + 1 + 4 * j))) fl_X7_83 (show 0 < 17 from by decide) rfl (g_sv hr5.2.1) (gDec_at DX7_readStave_1 5 rfl) ?_
                      refine g_aload_n hC (gDec_at DX7_readStave_1 6 rfl) rfl ?_
                      refine g_get (w := wM q) hC 0 (v := .int (nI tl)) fl_X7_80 (show 0 < 17 from by decide) rfl (g_sv (mT_R hT hr5.1).1) (gDec_at DX7_readStave_1 7 rfl) ?_
                      refine g_icmp_geN hC (by omega) (by omega) (gDec_at DX7_readStave_1 8 rfl) 145 (by decide) (fun h135_3 => ?_) (fun h135_3 => ?_)
                      · skip
                        refine g_bipush hC (gDec_at DX7_readStave_1 12 rfl) (v := -9) (by decide) ?_
                        refine g_iret hC (gDec_at DX7_readStave_1 13 rfl) ?_
                        exact ⟨rfl, rdI_c hr5 (fun z hz => by omega) (by omega) rfl⟩
                      · skip
                        exact absurd h135_3 (by omega)
                    · skip
                      exact absurd hv (by omega)
                  · skip
                    refine g_iload_n hC (gDec_at DX7_readStave_0 53 rfl) rfl ?_
                    refine g_aload_n hC (gDec_at DX7_readStave_0 54 rfl) rfl ?_
                    refine g_get (w := wM q) hC 0 (v := .int (nI sl)) fl_X7_90 (show 0 < 17 from by decide) rfl (g_sv hr5.2.2.1) (gDec_at DX7_readStave_0 55 rfl) ?_
                    refine g_icmp_geN hC (by omega) (by omega) (gDec_at DX7_readStave_0 56 rfl) 127 (by decide) (fun h102_4 => ?_) (fun h102_4 => ?_)
                    · skip
                      refine g_aload_n hC (gDec_at DX7_readStave_1 4 rfl) rfl ?_
                      refine g_get (w := wM q) hC 0 (v := .int (nI (4 * sl + 1 + 4 * j))) fl_X7_83 (show 0 < 17 from by decide) rfl (g_sv hr5.2.1) (gDec_at DX7_readStave_1 5 rfl) ?_
                      refine g_aload_n hC (gDec_at DX7_readStave_1 6 rfl) rfl ?_
                      refine g_get (w := wM q) hC 0 (v := .int (nI tl)) fl_X7_80 (show 0 < 17 from by decide) rfl (g_sv (mT_R hT hr5.1).1) (gDec_at DX7_readStave_1 7 rfl) ?_
                      refine g_icmp_geN hC (by omega) (by omega) (gDec_at DX7_readStave_1 8 rfl) 145 (by decide) (fun h135_4 => ?_) (fun h135_4 => ?_)
                      · skip
                        refine g_bipush hC (gDec_at DX7_readStave_1 12 rfl) (v := -9) (by decide) ?_
                        refine g_iret hC (gDec_at DX7_readStave_1 13 rfl) ?_
                        exact ⟨rfl, rdI_c hr5 (fun z hz => by omega) (by omega) rfl⟩
                      · skip
                        exact absurd h135_4 (by omega)
                    · skip
                      refine g_aload_n hC (gDec_at DX7_readStave_0 57 rfl) rfl ?_
                      refine g_bipush hC (gDec_at DX7_readStave_0 58 rfl) (v := nI 6) (by decide) ?_
                      refine g_iload_n hC (gDec_at DX7_readStave_0 59 rfl) rfl ?_
                      refine g_iaddN hC (gDec_at DX7_readStave_0 60 rfl) ?_
                      refine g_callVd (w := wM q) hC 0 (c_X7_readPlace_4 q (mT_R hT hr5.1) (p := 4 * sl + 1 + 4 * j) (i := 6 + j) (by omega) hr5.2.1 (by omega) (sf_2 (hall (4 * sl + 1 + 4 * j + 0) (by omega)) h0 (by omega)) (by omega) (sf_2 (hall (4 * sl + 1 + 4 * j + 1) (by omega)) h0 (by omega)) (by omega) (sf_2 (hall (4 * sl + 1 + 4 * j + 2) (by omega)) h0 (by omega)) (by omega) (sf_2 (hall (4 * sl + 1 + 4 * j + 3) (by omega)) h0 (by omega))) vf_X7_readPlace ml_X7_93 (by decide) (show 0 < 17 from by decide) rfl rfl rfl rfl rfl (Nat.le_of_ble_eq_true rfl) (gDec_at DX7_readStave_0 61 rfl) ?_
                      have hr6 := rdI_s (Q := (fun z => z < sl ∨ (6 ≤ z ∧ z < 6 + (j + 1)))) hr5 (pos_1 (sl := sl) (show j < 6 by omega)) (fun z hz => by omega)
                      show gG X _ _ _ (r4 M5 tb (4 * sl + 1 + 4 * j) (6 + j)) _ _ _
                      generalize hM6 : r4 M5 tb (4 * sl + 1 + 4 * j) (6 + j) = M6 at hr6 ⊢
                      refine g_if_neN hC (by decide) (gDec_at DX7_readStave_0 62 rfl) 121 (by decide) (fun h => ?_) (fun h => absurd h (by decide))
                      refine g_iincN hC (gDec_at DX7_readStave_1 2 rfl) rfl (by decide) (L' := [(2, .int (nI (j + 1))), (0, .ref (q.2.2 0))]) rfl ?_
                      refine g_goto hC (gDec_at DX7_readStave_1 3 rfl) 97 (by decide) ?_
                      refine g_sub [1, 0] (L' := [(0, .ref (q.2.2 0)), (2, .int (nI (j + 1)))]) rfl ?_
                      have h9 := ih_lp2 (j + 1) M6 (by omega) (by omega) (rdI_c hr6 (fun z hz => hz) (by omega) rfl) (by omega)
                      exact h9
              exact g_sub [2, 0] rfl (lp2 (sl + 1 - 0) 0 M4 (by omega) (by omega) (rdI_c hr4 (fun z hz => by omega) (by omega) (by omega)) (by omega))
            · skip
              have hsl : i + 1 < sl := by rcases Nat.lt_or_ge (i + 1) sl with z | z; exact z; exact absurd (show tb (4 * i + 4) = 47 from by rw [show 4 * i + 4 = 4 * sl by omega]; exact hs.2) h73
              refine g_iconst hC (gDec_at DX7_readStave_0 40 rfl) (v := nI 1) (by decide) ?_
              refine g_goto hC (gDec_at DX7_readStave_0 41 rfl) 81 (by decide) ?_
              refine g_istore_n hC (gDec_at DX7_readStave_0 43 rfl) (by decide) (L' := [(1, .int (nI 1)), (0, .ref (q.2.2 0))]) rfl ?_
              refine g_goto hC (gDec_at DX7_readStave_0 44 rfl) 12 (by decide) ?_
              refine g_sub [1, 0] (L' := [(0, .ref (q.2.2 0)), (1, .int (nI 1))]) rfl ?_
              have h9 := ih (i + 1) M3 (by omega) (by omega) (hr3) (by omega) (by omega)
              exact h9
  exact g_sub [1, 0] rfl (loop12 (sl + 1 - 0) 0 _ (by omega) (by omega) ⟨mR_0 (mR_0 mR_rf (by omega)) (by omega), by rw [gupd_get, if_neg (by omega), gupd_get, if_pos ⟨rfl, rfl⟩], by rw [gupd_get, if_pos ⟨rfl, rfl⟩], fun j hj => absurd hj (Nat.not_lt_zero j)⟩ (by omega) (by omega))
