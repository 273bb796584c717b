/-! THE REFERENCE: keep, again -/
set_option maxRecDepth 100000 in
set_option maxHeartbeats 4000000 in
theorem c_X7_keep_out (q : gQ3) {M : gM} {B : gB} (hI : mI M B) {x0 : Int32} (hx0 : ¬ gin x0 0 1) : gCt (wM q) yX7_keep cX7_keep 3 (some .int) 8 [.ref (q.2.2 0), .int x0] M (gR (some (.int (-1))) M) := by
  refine gMet RX7 (by decide +kernel) rfl (Nat.le_of_ble_eq_true rfl) (fun X hC => ?_)
  have hC : gC X (wM q) cX7_keep 3 RX7 (some .int) 8 := hC
  show gG X (wM q) _ 3 M 0 [(0, .ref (q.2.2 0)), (1, .int x0)] []
  refine g_aload_n hC (gDec_at DX7_keep_0 0 rfl) rfl ?_
  refine g_iconst hC (gDec_at DX7_keep_0 1 rfl) (v := nI 0) (by decide) ?_
  refine g_putI (w := wM q) hC 0 fl_X7_67 fp_7_0 (show 0 < 17 from by decide) rfl (Nat.le_of_ble_eq_true rfl) rfl rfl (gDec_at DX7_keep_0 2 rfl) ?_
  refine g_M (mi_0 hI) ?_
  refine g_iload_n hC (gDec_at DX7_keep_0 3 rfl) rfl ?_
  refine g_i2l hC (gDec_at DX7_keep_0 4 rfl) rfl ?_
  refine g_lconst hC (gDec_at DX7_keep_0 5 rfl) (v := lN 0) (by decide) ?_
  refine g_lconst hC (gDec_at DX7_keep_0 6 rfl) (v := lN 1) (by decide) ?_
  refine g_callSd (w := wM q) hC (c_X7_in_no q (by omega) (by omega) hx0) sf_X7_in ml_X7_72 (by decide) rfl rfl (Nat.le_of_ble_eq_true rfl) (gDec_at DX7_keep_0 7 rfl) ?_
  refine g_if_neN hC (by decide) (gDec_at DX7_keep_0 8 rfl) 17 (by decide) (fun h => absurd h (by decide)) (fun h => ?_)
  refine g_iconst hC (gDec_at DX7_keep_0 9 rfl) (v := -1) (by decide) ?_
  refine g_iret hC (gDec_at DX7_keep_0 10 rfl) ?_
  exact ⟨rfl, rfl⟩

set_option maxRecDepth 100000 in
set_option maxHeartbeats 4000000 in
theorem c_X7_again_out (q : gQ3) {M : gM} {B : gB} (hI : mI M B) {x0 : Int32} (hx0 : ¬ gin x0 0 1) : gCt (wM q) yX7_again cX7_again 3 (some .int) 8 [.ref (q.2.2 0), .int x0] M (gR (some (.int (-1))) M) := by
  refine gMet RX7 (by decide +kernel) rfl (Nat.le_of_ble_eq_true rfl) (fun X hC => ?_)
  have hC : gC X (wM q) cX7_again 3 RX7 (some .int) 8 := hC
  show gG X (wM q) _ 3 M 0 [(0, .ref (q.2.2 0)), (1, .int x0)] []
  refine g_aload_n hC (gDec_at DX7_again_0 0 rfl) rfl ?_
  refine g_iconst hC (gDec_at DX7_again_0 1 rfl) (v := nI 0) (by decide) ?_
  refine g_putI (w := wM q) hC 0 fl_X7_67 fp_7_0 (show 0 < 17 from by decide) rfl (Nat.le_of_ble_eq_true rfl) rfl rfl (gDec_at DX7_again_0 2 rfl) ?_
  refine g_M (mi_0 hI) ?_
  refine g_iload_n hC (gDec_at DX7_again_0 3 rfl) rfl ?_
  refine g_i2l hC (gDec_at DX7_again_0 4 rfl) rfl ?_
  refine g_lconst hC (gDec_at DX7_again_0 5 rfl) (v := lN 0) (by decide) ?_
  refine g_lconst hC (gDec_at DX7_again_0 6 rfl) (v := lN 1) (by decide) ?_
  refine g_callSd (w := wM q) hC (c_X7_in_no q (by omega) (by omega) hx0) sf_X7_in ml_X7_72 (by decide) rfl rfl (Nat.le_of_ble_eq_true rfl) (gDec_at DX7_again_0 7 rfl) ?_
  refine g_if_neN hC (by decide) (gDec_at DX7_again_0 8 rfl) 17 (by decide) (fun h => absurd h (by decide)) (fun h => ?_)
  refine g_iconst hC (gDec_at DX7_again_0 9 rfl) (v := -1) (by decide) ?_
  refine g_iret hC (gDec_at DX7_again_0 10 rfl) ?_
  exact ⟨rfl, rfl⟩

/-- slot s is becoming what M holds: i places, w of the woods' nine stand -/
def kpI (M M1 : gM) (s i w : Nat) : Prop := (∀ c, c ≠ 12 → c ≠ 13 → M1.1 c = M.1 c) ∧ (∀ r, r < 6 → ∀ j, j < i → M1.1 12 (90 * s + 12 * r + j) = M.1 (2 + r) j) ∧ (∀ k, k < w → M1.1 12 (90 * s + 72 + k) = M.1 11 k) ∧ (∀ z, z < 90 * s ∨ 90 * s + 83 ≤ z → M1.1 12 z = M.1 12 z) ∧ ∀ z, M1.1 13 z = if z = s then 1 else M.1 13 z
def k6 (M M1 : gM) (s i : Nat) : gM := gupd (gupd (gupd (gupd (gupd (gupd M1 12 (90 * s + i) (M.1 2 i)) 12 (90 * s + 12 + i) (M.1 3 i)) 12 (90 * s + 24 + i) (M.1 4 i)) 12 (90 * s + 36 + i) (M.1 5 i)) 12 (90 * s + 48 + i) (M.1 6 i)) 12 (90 * s + 60 + i) (M.1 7 i)
theorem kpI_s {M M1 : gM} {s i : Nat} (h : kpI M M1 s i 0) (hi : i < 12) : kpI M (k6 M M1 s i) s (i + 1) 0 := by
  obtain ⟨h1, h2, h3, h4, h5⟩ := h
  refine ⟨fun c hc hd => ?_, fun r hr j hj => ?_, fun k hk => absurd hk (Nat.not_lt_zero k), fun z hz => ?_, fun z => ?_⟩
  · funext z
    simp only [k6, gupd_get]
    rw [if_neg (by omega), if_neg (by omega), if_neg (by omega), if_neg (by omega), if_neg (by omega), if_neg (by omega), h1 c hc hd]
  · simp only [k6, gupd_get]
    by_cases e : j = i
    · subst e
      rcases (show r = 0 ∨ r = 1 ∨ r = 2 ∨ r = 3 ∨ r = 4 ∨ r = 5 by omega) with rfl | rfl | rfl | rfl | rfl | rfl
      · rw [if_neg (by omega), if_neg (by omega), if_neg (by omega), if_neg (by omega), if_neg (by omega), if_pos ⟨trivial, by omega⟩]
      · rw [if_neg (by omega), if_neg (by omega), if_neg (by omega), if_neg (by omega), if_pos ⟨trivial, by omega⟩]
      · rw [if_neg (by omega), if_neg (by omega), if_neg (by omega), if_pos ⟨trivial, by omega⟩]
      · rw [if_neg (by omega), if_neg (by omega), if_pos ⟨trivial, by omega⟩]
      · rw [if_neg (by omega), if_pos ⟨trivial, by omega⟩]
      · rw [if_pos ⟨trivial, by omega⟩]
    · rw [if_neg (by omega), if_neg (by omega), if_neg (by omega), if_neg (by omega), if_neg (by omega), if_neg (by omega)]
      exact h2 r hr j (by omega)
  · simp only [k6, gupd_get]
    rw [if_neg (by omega), if_neg (by omega), if_neg (by omega), if_neg (by omega), if_neg (by omega), if_neg (by omega)]
    exact h4 z hz
  · simp only [k6, gupd_get]
    rw [if_neg (by omega), if_neg (by omega), if_neg (by omega), if_neg (by omega), if_neg (by omega), if_neg (by omega)]
    exact h5 z
theorem kpI_w {M M1 : gM} {s w : Nat} (h : kpI M M1 s 12 w) (hw : w < 9) : kpI M (gupd M1 12 (90 * s + 72 + w) (M.1 11 w)) s 12 (w + 1) := by
  obtain ⟨h1, h2, h3, h4, h5⟩ := h
  refine ⟨fun c hc hd => ?_, fun r hr j hj => ?_, fun k hk => ?_, fun z hz => ?_, fun z => ?_⟩
  · funext z; rw [gupd_get, if_neg (by omega), h1 c hc hd]
  · rw [gupd_get, if_neg (by omega)]; exact h2 r hr j hj
  · rw [gupd_get]
    by_cases e : k = w
    · subst e; rw [if_pos ⟨rfl, rfl⟩]
    · rw [if_neg (by omega)]; exact h3 k (by omega)
  · rw [gupd_get, if_neg (by omega)]; exact h4 z hz
  · rw [gupd_get, if_neg (by omega)]; exact h5 z
/-- the reference is becoming what slot s holds -/
def agI (M M1 : gM) (s i w : Nat) : Prop := (∀ c, c < 2 ∨ 7 < c → c ≠ 11 → M1.1 c = M.1 c) ∧ (∀ r, r < 6 → ∀ j, j < i → M1.1 (2 + r) j = M.1 12 (90 * s + 12 * r + j)) ∧ ∀ k, k < w → M1.1 11 k = M.1 12 (90 * s + 72 + k)
def a6 (M M1 : gM) (s i : Nat) : gM := gupd (gupd (gupd (gupd (gupd (gupd M1 2 i (M.1 12 (90 * s + i))) 3 i (M.1 12 (90 * s + 12 + i))) 4 i (M.1 12 (90 * s + 24 + i))) 5 i (M.1 12 (90 * s + 36 + i))) 6 i (M.1 12 (90 * s + 48 + i))) 7 i (M.1 12 (90 * s + 60 + i))
theorem agI_s {M M1 : gM} {s i : Nat} (h : agI M M1 s i 0) : agI M (a6 M M1 s i) s (i + 1) 0 := by
  obtain ⟨h1, h2, h3⟩ := h
  refine ⟨fun c hc hd => ?_, fun r hr j hj => ?_, fun k hk => absurd hk (Nat.not_lt_zero k)⟩
  · funext z
    simp only [a6, gupd_get]
    rw [if_neg (by first | omega | simp), if_neg (by first | omega | simp), if_neg (by first | omega | simp), if_neg (by first | omega | simp), if_neg (by first | omega | simp), if_neg (by first | omega | simp), h1 c hc hd]
  · simp only [a6, gupd_get]
    by_cases e : j = i
    · subst e
      rcases (show r = 0 ∨ r = 1 ∨ r = 2 ∨ r = 3 ∨ r = 4 ∨ r = 5 by omega) with rfl | rfl | rfl | rfl | rfl | rfl
      · rw [if_neg (by first | omega | simp), if_neg (by first | omega | simp), if_neg (by first | omega | simp), if_neg (by first | omega | simp), if_neg (by first | omega | simp), if_pos (by first | omega | simp)]
        rfl
      · rw [if_neg (by first | omega | simp), if_neg (by first | omega | simp), if_neg (by first | omega | simp), if_neg (by first | omega | simp), if_pos (by first | omega | simp)]
      · rw [if_neg (by first | omega | simp), if_neg (by first | omega | simp), if_neg (by first | omega | simp), if_pos (by first | omega | simp)]
      · rw [if_neg (by first | omega | simp), if_neg (by first | omega | simp), if_pos (by first | omega | simp)]
      · rw [if_neg (by first | omega | simp), if_pos (by first | omega | simp)]
      · rw [if_pos (by first | omega | simp)]
    · rw [if_neg (by first | omega | simp), if_neg (by first | omega | simp), if_neg (by first | omega | simp), if_neg (by first | omega | simp), if_neg (by first | omega | simp), if_neg (by first | omega | simp)]
      exact h2 r hr j (by omega)
theorem agI_w {M M1 : gM} {s w : Nat} (h : agI M M1 s 12 w) : agI M (gupd M1 11 w (M.1 12 (90 * s + 72 + w))) s 12 (w + 1) := by
  obtain ⟨h1, h2, h3⟩ := h
  refine ⟨fun c hc hd => ?_, fun r hr j hj => ?_, fun k hk => ?_⟩
  · funext z; rw [gupd_get, if_neg (by omega), h1 c hc hd]
  · rw [gupd_get, if_neg (by omega)]; exact h2 r hr j hj
  · rw [gupd_get]
    by_cases e : k = w
    · subst e; rw [if_pos ⟨rfl, rfl⟩]
    · rw [if_neg (by omega)]; exact h3 k (by omega)
set_option maxRecDepth 100000 in
set_option maxHeartbeats 4000000 in
theorem c_X7_keep_ok (q : gQ3) {M : gM} {B : gB} (hI : mI M B) {k : Nat} (hk : k < 2) : gCt (wM q) yX7_keep cX7_keep 3 (some .int) 8 [.ref (q.2.2 0), .int (nI k)] M (fun v M' => v = some (.int (nI (B 9 0))) ∧ ∃ M1, kpI M M1 k 12 9 ∧ M' = gupd (gupd M1 12 (90 * k + 81) (nI (B 9 0))) 12 (90 * k + 82) (M.1 0 11)) := by
  refine gMet RX7 (by decide +kernel) rfl (Nat.le_of_ble_eq_true rfl) (fun X hC => ?_)
  have hC : gC X (wM q) cX7_keep 3 RX7 (some .int) 8 := hC
  show gG X (wM q) _ 3 M 0 [(0, .ref (q.2.2 0)), (1, .int (nI k))] []
  refine g_aload_n hC (gDec_at DX7_keep_0 0 rfl) rfl ?_
  refine g_iconst hC (gDec_at DX7_keep_0 1 rfl) (v := nI 0) (by decide) ?_
  refine g_putI (w := wM q) hC 0 fl_X7_67 fp_7_0 (show 0 < 17 from by decide) rfl (Nat.le_of_ble_eq_true rfl) rfl rfl (gDec_at DX7_keep_0 2 rfl) ?_
  refine g_M (mi_0 hI) ?_
  refine g_iload_n hC (gDec_at DX7_keep_0 3 rfl) rfl ?_
  refine g_i2lN hC (by omega) (gDec_at DX7_keep_0 4 rfl) ?_
  refine g_lconst hC (gDec_at DX7_keep_0 5 rfl) (v := lN 0) (by decide) ?_
  refine g_lconst hC (gDec_at DX7_keep_0 6 rfl) (v := lN 1) (by decide) ?_
  refine g_callSd (w := wM q) hC (c_X7_in_yes q (v := k) (a := 0) (b := 1) (by omega) (by omega) (by omega)) sf_X7_in ml_X7_72 (by decide) rfl rfl (Nat.le_of_ble_eq_true rfl) (gDec_at DX7_keep_0 7 rfl) ?_
  refine g_if_neN hC (by decide) (gDec_at DX7_keep_0 8 rfl) 17 (by decide) (fun h => ?_) (fun h => absurd h (by decide))
  refine g_aload_n hC (gDec_at DX7_keep_0 11 rfl) rfl ?_
  refine g_get (w := wM q) hC 0 (v := .ref (q.2.2 13)) fl_X7_53 (show 0 < 17 from by decide) rfl rfl (gDec_at DX7_keep_0 12 rfl) ?_
  refine g_iload_n hC (gDec_at DX7_keep_0 13 rfl) rfl ?_
  refine g_iconst hC (gDec_at DX7_keep_0 14 rfl) (v := nI 1) (by decide) ?_
  refine g_zast (w := wM q) hC 13 2 k (Or.inr rfl) (show 13 < 17 from by decide) rfl rfl rfl (by omega) (by decide) (gDec_at DX7_keep_0 15 rfl) ?_
  refine g_iconst hC (gDec_at DX7_keep_0 16 rfl) (v := nI 0) (by decide) ?_
  refine g_istore_n hC (gDec_at DX7_keep_0 17 rfl) (by decide) (L' := [(2, .int (nI 0)), (0, .ref (q.2.2 0)), (1, .int (nI k))]) rfl ?_
  have loop26 : ∀ (fu i : Nat) (M1 : gM), i ≤ 12 → 12 - i < fu → kpI M M1 k i 0 → gG X (wM q) (fun v M' => v = some (.int (nI (B 9 0))) ∧ ∃ M1, kpI M M1 k 12 9 ∧ M' = gupd (gupd M1 12 (90 * k + 81) (nI (B 9 0))) 12 (90 * k + 82) (M.1 0 11)) 3 M1 26 [(0, .ref (q.2.2 0)), (1, .int (nI k)), (2, .int (nI i))] [] := by
    intro fu; induction fu with
    | zero => intro i M1 h1 h2; omega
    | succ fu ih =>
      intro i M1 hi hfu hc1
      refine g_iload_n hC (gDec_at DX7_keep_0 18 rfl) rfl ?_
      refine g_bipush hC (gDec_at DX7_keep_0 19 rfl) (v := nI 12) (by decide) ?_
      refine g_icmp_geN hC (by omega) (by omega) (gDec_at DX7_keep_0 20 rfl) 155 (by decide) (fun h29 => ?_) (fun h29 => ?_)
      · skip
        obtain rfl : i = 12 := by omega
        refine g_iconst hC (gDec_at DX7_keep_1 41 rfl) (v := nI 0) (by decide) ?_
        refine g_istore_n hC (gDec_at DX7_keep_1 42 rfl) (by decide) (L' := [(2, .int (nI 0)), (0, .ref (q.2.2 0)), (1, .int (nI k))]) rfl ?_
        have lp2 : ∀ (fu i : Nat) (M1 : gM), i ≤ 9 → 9 - i < fu → kpI M M1 k 12 i → gG X (wM q) (fun v M' => v = some (.int (nI (B 9 0))) ∧ ∃ M1, kpI M M1 k 12 9 ∧ M' = gupd (gupd M1 12 (90 * k + 81) (nI (B 9 0))) 12 (90 * k + 82) (M.1 0 11)) 3 M1 157 [(0, .ref (q.2.2 0)), (1, .int (nI k)), (2, .int (nI i))] [] := by
          intro fu; induction fu with
          | zero => intro i M1 h1 h2; omega
          | succ fu ih_lp2 =>
            intro i M1 hi hfu hc1
            refine g_iload_n hC (gDec_at DX7_keep_1 43 rfl) rfl ?_
            refine g_bipush hC (gDec_at DX7_keep_1 44 rfl) (v := nI 9) (by decide) ?_
            refine g_icmp_geN hC (by omega) (by omega) (gDec_at DX7_keep_1 45 rfl) 189 (by decide) (fun h160 => ?_) (fun h160 => ?_)
            · skip
              obtain rfl : i = 9 := by omega
              refine g_aload_n hC (gDec_at DX7_keep_1 62 rfl) rfl ?_
              refine g_get (w := wM q) hC 0 (v := .ref (q.2.2 12)) fl_X7_50 (show 0 < 17 from by decide) rfl rfl (gDec_at DX7_keep_1 63 rfl) ?_
              refine g_bipush hC (gDec_at DX7_keep_2 0 rfl) (v := nI 90) (by decide) ?_
              refine g_iload_n hC (gDec_at DX7_keep_2 1 rfl) rfl ?_
              refine g_imulN hC (gDec_at DX7_keep_2 2 rfl) ?_
              refine g_bipush hC (gDec_at DX7_keep_2 3 rfl) (v := nI 81) (by decide) ?_
              refine g_iaddN hC (gDec_at DX7_keep_2 4 rfl) ?_
              refine g_aload_n hC (gDec_at DX7_keep_2 5 rfl) rfl ?_
              refine g_get (w := wM q) hC 0 (v := .int (nI (B 9 0))) fl_X7_13 (show 0 < 17 from by decide) rfl (g_sv (by rw [hc1.1 0 (by omega) (by omega)]; exact mi_many hI)) (gDec_at DX7_keep_2 6 rfl) ?_
              refine g_iast (w := wM q) hC 12 0 ((90 * k) + 81) (show 12 < 17 from by decide) rfl rfl rfl (by omega) (by decide) (gDec_at DX7_keep_2 7 rfl) ?_
              refine g_aload_n hC (gDec_at DX7_keep_2 8 rfl) rfl ?_
              refine g_get (w := wM q) hC 0 (v := .ref (q.2.2 12)) fl_X7_50 (show 0 < 17 from by decide) rfl rfl (gDec_at DX7_keep_2 9 rfl) ?_
              refine g_bipush hC (gDec_at DX7_keep_2 10 rfl) (v := nI 90) (by decide) ?_
              refine g_iload_n hC (gDec_at DX7_keep_2 11 rfl) rfl ?_
              refine g_imulN hC (gDec_at DX7_keep_2 12 rfl) ?_
              refine g_bipush hC (gDec_at DX7_keep_2 13 rfl) (v := nI 82) (by decide) ?_
              refine g_iaddN hC (gDec_at DX7_keep_2 14 rfl) ?_
              refine g_aload_n hC (gDec_at DX7_keep_2 15 rfl) rfl ?_
              refine g_get (w := wM q) hC 0 (v := .int (M.1 0 11)) fl_X7_35 (show 0 < 17 from by decide) rfl (g_sv (by rw [gupd_get, if_neg (by omega), hc1.1 0 (by omega) (by omega)])) (gDec_at DX7_keep_2 16 rfl) ?_
              refine g_iast (w := wM q) hC 12 0 ((90 * k) + 82) (show 12 < 17 from by decide) rfl rfl rfl (by omega) (by decide) (gDec_at DX7_keep_2 17 rfl) ?_
              refine g_aload_n hC (gDec_at DX7_keep_2 18 rfl) rfl ?_
              refine g_get (w := wM q) hC 0 (v := .int (nI (B 9 0))) fl_X7_13 (show 0 < 17 from by decide) rfl (g_sv (by rw [gupd_get, if_neg (by omega), gupd_get, if_neg (by omega), hc1.1 0 (by omega) (by omega)]; exact mi_many hI)) (gDec_at DX7_keep_2 19 rfl) ?_
              refine g_iret hC (gDec_at DX7_keep_2 20 rfl) ?_
              exact ⟨rfl, M1, hc1, rfl⟩
            · skip
              refine g_aload_n hC (gDec_at DX7_keep_1 46 rfl) rfl ?_
              refine g_get (w := wM q) hC 0 (v := .ref (q.2.2 12)) fl_X7_50 (show 0 < 17 from by decide) rfl rfl (gDec_at DX7_keep_1 47 rfl) ?_
              refine g_bipush hC (gDec_at DX7_keep_1 48 rfl) (v := nI 90) (by decide) ?_
              refine g_iload_n hC (gDec_at DX7_keep_1 49 rfl) rfl ?_
              refine g_imulN hC (gDec_at DX7_keep_1 50 rfl) ?_
              refine g_bipush hC (gDec_at DX7_keep_1 51 rfl) (v := nI 72) (by decide) ?_
              refine g_iaddN hC (gDec_at DX7_keep_1 52 rfl) ?_
              refine g_iload_n hC (gDec_at DX7_keep_1 53 rfl) rfl ?_
              refine g_iaddN hC (gDec_at DX7_keep_1 54 rfl) ?_
              refine g_aload_n hC (gDec_at DX7_keep_1 55 rfl) rfl ?_
              refine g_get (w := wM q) hC 0 (v := .ref (q.2.2 11)) fl_X7_47 (show 0 < 17 from by decide) rfl rfl (gDec_at DX7_keep_1 56 rfl) ?_
              refine g_iload_n hC (gDec_at DX7_keep_1 57 rfl) rfl ?_
              refine g_iald (w := wM q) hC 11 0 i (x := (M.1 11 i)) (show 11 < 17 from by decide) rfl rfl (by omega) (by decide) (by rw [hc1.1 11 (by omega) (by omega)]) (gDec_at DX7_keep_1 58 rfl) ?_
              refine g_iast (w := wM q) hC 12 0 (((90 * k) + 72) + i) (show 12 < 17 from by decide) rfl rfl rfl (by omega) (by decide) (gDec_at DX7_keep_1 59 rfl) ?_
              refine g_iincN hC (gDec_at DX7_keep_1 60 rfl) rfl (by decide) (L' := [(2, .int (nI (i + 1))), (0, .ref (q.2.2 0)), (1, .int (nI k))]) rfl ?_
              refine g_goto hC (gDec_at DX7_keep_1 61 rfl) 157 (by decide) ?_
              refine g_sub [1, 2, 0] (L' := [(0, .ref (q.2.2 0)), (1, .int (nI k)), (2, .int (nI (i + 1)))]) rfl ?_
              have h9 := ih_lp2 (i + 1) _ (by omega) (by omega) (kpI_w hc1 (by omega))
              exact h9
        exact g_sub [1, 2, 0] rfl (lp2 (9 + 1 - 0) 0 _ (by omega) (by omega) hc1)
      · skip
        refine g_aload_n hC (gDec_at DX7_keep_0 21 rfl) rfl ?_
        refine g_get (w := wM q) hC 0 (v := .ref (q.2.2 12)) fl_X7_50 (show 0 < 17 from by decide) rfl rfl (gDec_at DX7_keep_0 22 rfl) ?_
        refine g_bipush hC (gDec_at DX7_keep_0 23 rfl) (v := nI 90) (by decide) ?_
        refine g_iload_n hC (gDec_at DX7_keep_0 24 rfl) rfl ?_
        refine g_imulN hC (gDec_at DX7_keep_0 25 rfl) ?_
        refine g_iload_n hC (gDec_at DX7_keep_0 26 rfl) rfl ?_
        refine g_iaddN hC (gDec_at DX7_keep_0 27 rfl) ?_
        refine g_aload_n hC (gDec_at DX7_keep_0 28 rfl) rfl ?_
        refine g_get (w := wM q) hC 0 (v := .ref (q.2.2 2)) fl_X7_17 (show 0 < 17 from by decide) rfl rfl (gDec_at DX7_keep_0 29 rfl) ?_
        refine g_iload_n hC (gDec_at DX7_keep_0 30 rfl) rfl ?_
        refine g_iald (w := wM q) hC 2 0 i (x := (M.1 2 i)) (show 2 < 17 from by decide) rfl rfl (by omega) (by decide) (by rw [hc1.1 2 (by omega) (by omega)]) (gDec_at DX7_keep_0 31 rfl) ?_
        refine g_iast (w := wM q) hC 12 0 ((90 * k) + i) (show 12 < 17 from by decide) rfl rfl rfl (by omega) (by decide) (gDec_at DX7_keep_0 32 rfl) ?_
        refine g_aload_n hC (gDec_at DX7_keep_0 33 rfl) rfl ?_
        refine g_get (w := wM q) hC 0 (v := .ref (q.2.2 12)) fl_X7_50 (show 0 < 17 from by decide) rfl rfl (gDec_at DX7_keep_0 34 rfl) ?_
        refine g_bipush hC (gDec_at DX7_keep_0 35 rfl) (v := nI 90) (by decide) ?_
        refine g_iload_n hC (gDec_at DX7_keep_0 36 rfl) rfl ?_
        refine g_imulN hC (gDec_at DX7_keep_0 37 rfl) ?_
        refine g_bipush hC (gDec_at DX7_keep_0 38 rfl) (v := nI 12) (by decide) ?_
        refine g_iaddN hC (gDec_at DX7_keep_0 39 rfl) ?_
        refine g_iload_n hC (gDec_at DX7_keep_0 40 rfl) rfl ?_
        refine g_iaddN hC (gDec_at DX7_keep_0 41 rfl) ?_
        refine g_aload_n hC (gDec_at DX7_keep_0 42 rfl) rfl ?_
        refine g_get (w := wM q) hC 0 (v := .ref (q.2.2 3)) fl_X7_20 (show 0 < 17 from by decide) rfl rfl (gDec_at DX7_keep_0 43 rfl) ?_
        refine g_iload_n hC (gDec_at DX7_keep_0 44 rfl) rfl ?_
        refine g_iald (w := wM q) hC 3 0 i (x := (M.1 3 i)) (show 3 < 17 from by decide) rfl rfl (by omega) (by decide) (by rw [gupd_get, if_neg (by omega), hc1.1 3 (by omega) (by omega)]) (gDec_at DX7_keep_0 45 rfl) ?_
        refine g_iast (w := wM q) hC 12 0 (((90 * k) + 12) + i) (show 12 < 17 from by decide) rfl rfl rfl (by omega) (by decide) (gDec_at DX7_keep_0 46 rfl) ?_
        refine g_aload_n hC (gDec_at DX7_keep_0 47 rfl) rfl ?_
        refine g_get (w := wM q) hC 0 (v := .ref (q.2.2 12)) fl_X7_50 (show 0 < 17 from by decide) rfl rfl (gDec_at DX7_keep_0 48 rfl) ?_
        refine g_bipush hC (gDec_at DX7_keep_0 49 rfl) (v := nI 90) (by decide) ?_
        refine g_iload_n hC (gDec_at DX7_keep_0 50 rfl) rfl ?_
        refine g_imulN hC (gDec_at DX7_keep_0 51 rfl) ?_
        refine g_bipush hC (gDec_at DX7_keep_0 52 rfl) (v := nI 24) (by decide) ?_
        refine g_iaddN hC (gDec_at DX7_keep_0 53 rfl) ?_
        refine g_iload_n hC (gDec_at DX7_keep_0 54 rfl) rfl ?_
        refine g_iaddN hC (gDec_at DX7_keep_0 55 rfl) ?_
        refine g_aload_n hC (gDec_at DX7_keep_0 56 rfl) rfl ?_
        refine g_get (w := wM q) hC 0 (v := .ref (q.2.2 4)) fl_X7_23 (show 0 < 17 from by decide) rfl rfl (gDec_at DX7_keep_0 57 rfl) ?_
        refine g_iload_n hC (gDec_at DX7_keep_0 58 rfl) rfl ?_
        refine g_iald (w := wM q) hC 4 0 i (x := (M.1 4 i)) (show 4 < 17 from by decide) rfl rfl (by omega) (by decide) (by rw [gupd_get, if_neg (by omega), gupd_get, if_neg (by omega), hc1.1 4 (by omega) (by omega)]) (gDec_at DX7_keep_0 59 rfl) ?_
        refine g_iast (w := wM q) hC 12 0 (((90 * k) + 24) + i) (show 12 < 17 from by decide) rfl rfl rfl (by omega) (by decide) (gDec_at DX7_keep_0 60 rfl) ?_
        refine g_aload_n hC (gDec_at DX7_keep_0 61 rfl) rfl ?_
        refine g_get (w := wM q) hC 0 (v := .ref (q.2.2 12)) fl_X7_50 (show 0 < 17 from by decide) rfl rfl (gDec_at DX7_keep_0 62 rfl) ?_
        refine g_bipush hC (gDec_at DX7_keep_0 63 rfl) (v := nI 90) (by decide) ?_
        refine g_iload_n hC (gDec_at DX7_keep_1 0 rfl) rfl ?_
        refine g_imulN hC (gDec_at DX7_keep_1 1 rfl) ?_
        refine g_bipush hC (gDec_at DX7_keep_1 2 rfl) (v := nI 36) (by decide) ?_
        refine g_iaddN hC (gDec_at DX7_keep_1 3 rfl) ?_
        refine g_iload_n hC (gDec_at DX7_keep_1 4 rfl) rfl ?_
        refine g_iaddN hC (gDec_at DX7_keep_1 5 rfl) ?_
        refine g_aload_n hC (gDec_at DX7_keep_1 6 rfl) rfl ?_
        refine g_get (w := wM q) hC 0 (v := .ref (q.2.2 5)) fl_X7_26 (show 0 < 17 from by decide) rfl rfl (gDec_at DX7_keep_1 7 rfl) ?_
        refine g_iload_n hC (gDec_at DX7_keep_1 8 rfl) rfl ?_
        refine g_iald (w := wM q) hC 5 0 i (x := (M.1 5 i)) (show 5 < 17 from by decide) rfl rfl (by omega) (by decide) (by rw [gupd_get, if_neg (by omega), gupd_get, if_neg (by omega), gupd_get, if_neg (by omega), hc1.1 5 (by omega) (by omega)]) (gDec_at DX7_keep_1 9 rfl) ?_
        refine g_iast (w := wM q) hC 12 0 (((90 * k) + 36) + i) (show 12 < 17 from by decide) rfl rfl rfl (by omega) (by decide) (gDec_at DX7_keep_1 10 rfl) ?_
        refine g_aload_n hC (gDec_at DX7_keep_1 11 rfl) rfl ?_
        refine g_get (w := wM q) hC 0 (v := .ref (q.2.2 12)) fl_X7_50 (show 0 < 17 from by decide) rfl rfl (gDec_at DX7_keep_1 12 rfl) ?_
        refine g_bipush hC (gDec_at DX7_keep_1 13 rfl) (v := nI 90) (by decide) ?_
        refine g_iload_n hC (gDec_at DX7_keep_1 14 rfl) rfl ?_
        refine g_imulN hC (gDec_at DX7_keep_1 15 rfl) ?_
        refine g_bipush hC (gDec_at DX7_keep_1 16 rfl) (v := nI 48) (by decide) ?_
        refine g_iaddN hC (gDec_at DX7_keep_1 17 rfl) ?_
        refine g_iload_n hC (gDec_at DX7_keep_1 18 rfl) rfl ?_
        refine g_iaddN hC (gDec_at DX7_keep_1 19 rfl) ?_
        refine g_aload_n hC (gDec_at DX7_keep_1 20 rfl) rfl ?_
        refine g_get (w := wM q) hC 0 (v := .ref (q.2.2 6)) fl_X7_29 (show 0 < 17 from by decide) rfl rfl (gDec_at DX7_keep_1 21 rfl) ?_
        refine g_iload_n hC (gDec_at DX7_keep_1 22 rfl) rfl ?_
        refine g_iald (w := wM q) hC 6 0 i (x := (M.1 6 i)) (show 6 < 17 from by decide) rfl rfl (by omega) (by decide) (by rw [gupd_get, if_neg (by omega), gupd_get, if_neg (by omega), gupd_get, if_neg (by omega), gupd_get, if_neg (by omega), hc1.1 6 (by omega) (by omega)]) (gDec_at DX7_keep_1 23 rfl) ?_
        refine g_iast (w := wM q) hC 12 0 (((90 * k) + 48) + i) (show 12 < 17 from by decide) rfl rfl rfl (by omega) (by decide) (gDec_at DX7_keep_1 24 rfl) ?_
        refine g_aload_n hC (gDec_at DX7_keep_1 25 rfl) rfl ?_
        refine g_get (w := wM q) hC 0 (v := .ref (q.2.2 12)) fl_X7_50 (show 0 < 17 from by decide) rfl rfl (gDec_at DX7_keep_1 26 rfl) ?_
        refine g_bipush hC (gDec_at DX7_keep_1 27 rfl) (v := nI 90) (by decide) ?_
        refine g_iload_n hC (gDec_at DX7_keep_1 28 rfl) rfl ?_
        refine g_imulN hC (gDec_at DX7_keep_1 29 rfl) ?_
        refine g_bipush hC (gDec_at DX7_keep_1 30 rfl) (v := nI 60) (by decide) ?_
        refine g_iaddN hC (gDec_at DX7_keep_1 31 rfl) ?_
        refine g_iload_n hC (gDec_at DX7_keep_1 32 rfl) rfl ?_
        refine g_iaddN hC (gDec_at DX7_keep_1 33 rfl) ?_
        refine g_aload_n hC (gDec_at DX7_keep_1 34 rfl) rfl ?_
        refine g_get (w := wM q) hC 0 (v := .ref (q.2.2 7)) fl_X7_32 (show 0 < 17 from by decide) rfl rfl (gDec_at DX7_keep_1 35 rfl) ?_
        refine g_iload_n hC (gDec_at DX7_keep_1 36 rfl) rfl ?_
        refine g_iald (w := wM q) hC 7 0 i (x := (M.1 7 i)) (show 7 < 17 from by decide) rfl rfl (by omega) (by decide) (by rw [gupd_get, if_neg (by omega), gupd_get, if_neg (by omega), gupd_get, if_neg (by omega), gupd_get, if_neg (by omega), gupd_get, if_neg (by omega), hc1.1 7 (by omega) (by omega)]) (gDec_at DX7_keep_1 37 rfl) ?_
        refine g_iast (w := wM q) hC 12 0 (((90 * k) + 60) + i) (show 12 < 17 from by decide) rfl rfl rfl (by omega) (by decide) (gDec_at DX7_keep_1 38 rfl) ?_
        refine g_iincN hC (gDec_at DX7_keep_1 39 rfl) rfl (by decide) (L' := [(2, .int (nI (i + 1))), (0, .ref (q.2.2 0)), (1, .int (nI k))]) rfl ?_
        refine g_goto hC (gDec_at DX7_keep_1 40 rfl) 26 (by decide) ?_
        refine g_sub [1, 2, 0] (L' := [(0, .ref (q.2.2 0)), (1, .int (nI k)), (2, .int (nI (i + 1)))]) rfl ?_
        have h9 := ih (i + 1) _ (by omega) (by omega) (kpI_s hc1 (by omega))
        exact h9
  exact g_sub [1, 2, 0] rfl (loop26 (12 + 1 - 0) 0 _ (by omega) (by omega) ⟨fun c hc hd => by funext z; rw [gupd_get, if_neg (by omega)], fun r hr j hj => absurd hj (Nat.not_lt_zero j), fun k hk => absurd hk (Nat.not_lt_zero k), fun z hz => by rw [gupd_get, if_neg (by omega)], fun z => by rw [gupd_get]; by_cases e : z = k; rw [if_pos ⟨rfl, e⟩, if_pos e]; rfl; rw [if_neg (fun q => e q.2), if_neg e]⟩)

set_option maxRecDepth 100000 in
set_option maxHeartbeats 4000000 in
theorem c_X7_again_no (q : gQ3) {M : gM} {B : gB} (hI : mI M B) {k : Nat} (hk : k < 2) (hk0 : M.1 13 k = nI 0) : gCt (wM q) yX7_again cX7_again 3 (some .int) 8 [.ref (q.2.2 0), .int (nI k)] M (gR (some (.int (-3))) M) := by
  refine gMet RX7 (by decide +kernel) rfl (Nat.le_of_ble_eq_true rfl) (fun X hC => ?_)
  have hC : gC X (wM q) cX7_again 3 RX7 (some .int) 8 := hC
  show gG X (wM q) _ 3 M 0 [(0, .ref (q.2.2 0)), (1, .int (nI k))] []
  refine g_aload_n hC (gDec_at DX7_again_0 0 rfl) rfl ?_
  refine g_iconst hC (gDec_at DX7_again_0 1 rfl) (v := nI 0) (by decide) ?_
  refine g_putI (w := wM q) hC 0 fl_X7_67 fp_7_0 (show 0 < 17 from by decide) rfl (Nat.le_of_ble_eq_true rfl) rfl rfl (gDec_at DX7_again_0 2 rfl) ?_
  refine g_M (mi_0 hI) ?_
  refine g_iload_n hC (gDec_at DX7_again_0 3 rfl) rfl ?_
  refine g_i2lN hC (by omega) (gDec_at DX7_again_0 4 rfl) ?_
  refine g_lconst hC (gDec_at DX7_again_0 5 rfl) (v := lN 0) (by decide) ?_
  refine g_lconst hC (gDec_at DX7_again_0 6 rfl) (v := lN 1) (by decide) ?_
  refine g_callSd (w := wM q) hC (c_X7_in_yes q (v := k) (a := 0) (b := 1) (by omega) (by omega) (by omega)) sf_X7_in ml_X7_72 (by decide) rfl rfl (Nat.le_of_ble_eq_true rfl) (gDec_at DX7_again_0 7 rfl) ?_
  refine g_if_neN hC (by decide) (gDec_at DX7_again_0 8 rfl) 17 (by decide) (fun h => ?_) (fun h => absurd h (by decide))
  refine g_aload_n hC (gDec_at DX7_again_0 11 rfl) rfl ?_
  refine g_get (w := wM q) hC 0 (v := .ref (q.2.2 13)) fl_X7_53 (show 0 < 17 from by decide) rfl rfl (gDec_at DX7_again_0 12 rfl) ?_
  refine g_iload_n hC (gDec_at DX7_again_0 13 rfl) rfl ?_
  refine g_zald (w := wM q) hC 13 2 k (x := (nI 0)) (show 13 < 17 from by decide) rfl rfl (by omega) (by decide) hk0 (gDec_at DX7_again_0 14 rfl) ?_
  refine g_if_neN hC (by decide) (gDec_at DX7_again_0 15 rfl) 29 (by decide) (fun h => absurd h (by decide)) (fun h => ?_)
  refine g_bipush hC (gDec_at DX7_again_0 16 rfl) (v := -3) (by decide) ?_
  refine g_iret hC (gDec_at DX7_again_0 17 rfl) ?_
  exact ⟨rfl, rfl⟩

set_option maxRecDepth 100000 in
set_option maxHeartbeats 4000000 in
theorem c_X7_again_ok (q : gQ3) {M : gM} {B : gB} (hI : mI M B) {k : Nat} (hk : k < 2) (hk0 : M.1 13 k = nI 1) : gCt (wM q) yX7_again cX7_again 3 (some .int) 8 [.ref (q.2.2 0), .int (nI k)] M (fun v M' => v = some (.int (M.1 12 (90 * k + 81))) ∧ ∃ M1, agI M M1 k 12 9 ∧ M' = gupd (gupd M1 0 4 (M.1 12 (90 * k + 81))) 0 11 (M.1 12 (90 * k + 82))) := by
  refine gMet RX7 (by decide +kernel) rfl (Nat.le_of_ble_eq_true rfl) (fun X hC => ?_)
  have hC : gC X (wM q) cX7_again 3 RX7 (some .int) 8 := hC
  show gG X (wM q) _ 3 M 0 [(0, .ref (q.2.2 0)), (1, .int (nI k))] []
  refine g_aload_n hC (gDec_at DX7_again_0 0 rfl) rfl ?_
  refine g_iconst hC (gDec_at DX7_again_0 1 rfl) (v := nI 0) (by decide) ?_
  refine g_putI (w := wM q) hC 0 fl_X7_67 fp_7_0 (show 0 < 17 from by decide) rfl (Nat.le_of_ble_eq_true rfl) rfl rfl (gDec_at DX7_again_0 2 rfl) ?_
  refine g_M (mi_0 hI) ?_
  refine g_iload_n hC (gDec_at DX7_again_0 3 rfl) rfl ?_
  refine g_i2lN hC (by omega) (gDec_at DX7_again_0 4 rfl) ?_
  refine g_lconst hC (gDec_at DX7_again_0 5 rfl) (v := lN 0) (by decide) ?_
  refine g_lconst hC (gDec_at DX7_again_0 6 rfl) (v := lN 1) (by decide) ?_
  refine g_callSd (w := wM q) hC (c_X7_in_yes q (v := k) (a := 0) (b := 1) (by omega) (by omega) (by omega)) sf_X7_in ml_X7_72 (by decide) rfl rfl (Nat.le_of_ble_eq_true rfl) (gDec_at DX7_again_0 7 rfl) ?_
  refine g_if_neN hC (by decide) (gDec_at DX7_again_0 8 rfl) 17 (by decide) (fun h => ?_) (fun h => absurd h (by decide))
  refine g_aload_n hC (gDec_at DX7_again_0 11 rfl) rfl ?_
  refine g_get (w := wM q) hC 0 (v := .ref (q.2.2 13)) fl_X7_53 (show 0 < 17 from by decide) rfl rfl (gDec_at DX7_again_0 12 rfl) ?_
  refine g_iload_n hC (gDec_at DX7_again_0 13 rfl) rfl ?_
  refine g_zald (w := wM q) hC 13 2 k (x := (nI 1)) (show 13 < 17 from by decide) rfl rfl (by omega) (by decide) hk0 (gDec_at DX7_again_0 14 rfl) ?_
  refine g_if_neN hC (by decide) (gDec_at DX7_again_0 15 rfl) 29 (by decide) (fun h => ?_) (fun h => absurd h (by decide))
  refine g_iconst hC (gDec_at DX7_again_0 18 rfl) (v := nI 0) (by decide) ?_
  refine g_istore_n hC (gDec_at DX7_again_0 19 rfl) (by decide) (L' := [(2, .int (nI 0)), (0, .ref (q.2.2 0)), (1, .int (nI k))]) rfl ?_
  have loop31 : ∀ (fu i : Nat) (M1 : gM), i ≤ 12 → 12 - i < fu → agI M M1 k i 0 → gG X (wM q) (fun v M' => v = some (.int (M.1 12 (90 * k + 81))) ∧ ∃ M1, agI M M1 k 12 9 ∧ M' = gupd (gupd M1 0 4 (M.1 12 (90 * k + 81))) 0 11 (M.1 12 (90 * k + 82))) 3 M1 31 [(0, .ref (q.2.2 0)), (1, .int (nI k)), (2, .int (nI i))] [] := by
    intro fu; induction fu with
    | zero => intro i M1 h1 h2; omega
    | succ fu ih =>
      intro i M1 hi hfu hc1
      refine g_iload_n hC (gDec_at DX7_again_0 20 rfl) rfl ?_
      refine g_bipush hC (gDec_at DX7_again_0 21 rfl) (v := nI 12) (by decide) ?_
      refine g_icmp_geN hC (by omega) (by omega) (gDec_at DX7_again_0 22 rfl) 160 (by decide) (fun h34 => ?_) (fun h34 => ?_)
      · skip
        obtain rfl : i = 12 := by omega
        refine g_iconst hC (gDec_at DX7_again_1 43 rfl) (v := nI 0) (by decide) ?_
        refine g_istore_n hC (gDec_at DX7_again_1 44 rfl) (by decide) (L' := [(2, .int (nI 0)), (0, .ref (q.2.2 0)), (1, .int (nI k))]) rfl ?_
        have lp2 : ∀ (fu i : Nat) (M1 : gM), i ≤ 9 → 9 - i < fu → agI M M1 k 12 i → gG X (wM q) (fun v M' => v = some (.int (M.1 12 (90 * k + 81))) ∧ ∃ M1, agI M M1 k 12 9 ∧ M' = gupd (gupd M1 0 4 (M.1 12 (90 * k + 81))) 0 11 (M.1 12 (90 * k + 82))) 3 M1 162 [(0, .ref (q.2.2 0)), (1, .int (nI k)), (2, .int (nI i))] [] := by
          intro fu; induction fu with
          | zero => intro i M1 h1 h2; omega
          | succ fu ih_lp2 =>
            intro i M1 hi hfu hc1
            refine g_iload_n hC (gDec_at DX7_again_1 45 rfl) rfl ?_
            refine g_bipush hC (gDec_at DX7_again_1 46 rfl) (v := nI 9) (by decide) ?_
            refine g_icmp_geN hC (by omega) (by omega) (gDec_at DX7_again_1 47 rfl) 194 (by decide) (fun h165 => ?_) (fun h165 => ?_)
            · skip
              obtain rfl : i = 9 := by omega
              refine g_aload_n hC (gDec_at DX7_again_2 0 rfl) rfl ?_
              refine g_aload_n hC (gDec_at DX7_again_2 1 rfl) rfl ?_
              refine g_get (w := wM q) hC 0 (v := .ref (q.2.2 12)) fl_X7_50 (show 0 < 17 from by decide) rfl rfl (gDec_at DX7_again_2 2 rfl) ?_
              refine g_bipush hC (gDec_at DX7_again_2 3 rfl) (v := nI 90) (by decide) ?_
              refine g_iload_n hC (gDec_at DX7_again_2 4 rfl) rfl ?_
              refine g_imulN hC (gDec_at DX7_again_2 5 rfl) ?_
              refine g_bipush hC (gDec_at DX7_again_2 6 rfl) (v := nI 81) (by decide) ?_
              refine g_iaddN hC (gDec_at DX7_again_2 7 rfl) ?_
              refine g_iald (w := wM q) hC 12 0 ((90 * k) + 81) (x := (M.1 12 ((90 * k) + 81))) (show 12 < 17 from by decide) rfl rfl (by omega) (by decide) (by rw [hc1.1 12 (by omega) (by omega)]) (gDec_at DX7_again_2 8 rfl) ?_
              refine g_putI (w := wM q) hC 0 fl_X7_13 fp_7_4 (show 0 < 17 from by decide) rfl (Nat.le_of_ble_eq_true rfl) rfl rfl (gDec_at DX7_again_2 9 rfl) ?_
              refine g_aload_n hC (gDec_at DX7_again_2 10 rfl) rfl ?_
              refine g_aload_n hC (gDec_at DX7_again_2 11 rfl) rfl ?_
              refine g_get (w := wM q) hC 0 (v := .ref (q.2.2 12)) fl_X7_50 (show 0 < 17 from by decide) rfl rfl (gDec_at DX7_again_2 12 rfl) ?_
              refine g_bipush hC (gDec_at DX7_again_2 13 rfl) (v := nI 90) (by decide) ?_
              refine g_iload_n hC (gDec_at DX7_again_2 14 rfl) rfl ?_
              refine g_imulN hC (gDec_at DX7_again_2 15 rfl) ?_
              refine g_bipush hC (gDec_at DX7_again_2 16 rfl) (v := nI 82) (by decide) ?_
              refine g_iaddN hC (gDec_at DX7_again_2 17 rfl) ?_
              refine g_iald (w := wM q) hC 12 0 ((90 * k) + 82) (x := (M.1 12 ((90 * k) + 82))) (show 12 < 17 from by decide) rfl rfl (by omega) (by decide) (by rw [gupd_get, if_neg (by omega), hc1.1 12 (by omega) (by omega)]) (gDec_at DX7_again_2 18 rfl) ?_
              refine g_putI (w := wM q) hC 0 fl_X7_35 fp_7_11 (show 0 < 17 from by decide) rfl (Nat.le_of_ble_eq_true rfl) rfl rfl (gDec_at DX7_again_2 19 rfl) ?_
              refine g_aload_n hC (gDec_at DX7_again_2 20 rfl) rfl ?_
              refine g_get (w := wM q) hC 0 (v := .int (M.1 12 (90 * k + 81))) fl_X7_13 (show 0 < 17 from by decide) rfl (g_sv (by rw [gupd_get, if_neg (by omega), gupd_get, if_pos ⟨rfl, rfl⟩])) (gDec_at DX7_again_2 21 rfl) ?_
              refine g_iret hC (gDec_at DX7_again_2 22 rfl) ?_
              exact ⟨rfl, M1, hc1, rfl⟩
            · skip
              refine g_aload_n hC (gDec_at DX7_again_1 48 rfl) rfl ?_
              refine g_get (w := wM q) hC 0 (v := .ref (q.2.2 11)) fl_X7_47 (show 0 < 17 from by decide) rfl rfl (gDec_at DX7_again_1 49 rfl) ?_
              refine g_iload_n hC (gDec_at DX7_again_1 50 rfl) rfl ?_
              refine g_aload_n hC (gDec_at DX7_again_1 51 rfl) rfl ?_
              refine g_get (w := wM q) hC 0 (v := .ref (q.2.2 12)) fl_X7_50 (show 0 < 17 from by decide) rfl rfl (gDec_at DX7_again_1 52 rfl) ?_
              refine g_bipush hC (gDec_at DX7_again_1 53 rfl) (v := nI 90) (by decide) ?_
              refine g_iload_n hC (gDec_at DX7_again_1 54 rfl) rfl ?_
              refine g_imulN hC (gDec_at DX7_again_1 55 rfl) ?_
              refine g_bipush hC (gDec_at DX7_again_1 56 rfl) (v := nI 72) (by decide) ?_
              refine g_iaddN hC (gDec_at DX7_again_1 57 rfl) ?_
              refine g_iload_n hC (gDec_at DX7_again_1 58 rfl) rfl ?_
              refine g_iaddN hC (gDec_at DX7_again_1 59 rfl) ?_
              refine g_iald (w := wM q) hC 12 0 (((90 * k) + 72) + i) (x := (M.1 12 (((90 * k) + 72) + i))) (show 12 < 17 from by decide) rfl rfl (by omega) (by decide) (by rw [hc1.1 12 (by omega) (by omega)]) (gDec_at DX7_again_1 60 rfl) ?_
              refine g_iast (w := wM q) hC 11 0 i (show 11 < 17 from by decide) rfl rfl rfl (by omega) (by decide) (gDec_at DX7_again_1 61 rfl) ?_
              refine g_iincN hC (gDec_at DX7_again_1 62 rfl) rfl (by decide) (L' := [(2, .int (nI (i + 1))), (0, .ref (q.2.2 0)), (1, .int (nI k))]) rfl ?_
              refine g_goto hC (gDec_at DX7_again_1 63 rfl) 162 (by decide) ?_
              refine g_sub [1, 2, 0] (L' := [(0, .ref (q.2.2 0)), (1, .int (nI k)), (2, .int (nI (i + 1)))]) rfl ?_
              have h9 := ih_lp2 (i + 1) _ (by omega) (by omega) (agI_w hc1)
              exact h9
        exact g_sub [1, 2, 0] rfl (lp2 (9 + 1 - 0) 0 _ (by omega) (by omega) hc1)
      · skip
        refine g_aload_n hC (gDec_at DX7_again_0 23 rfl) rfl ?_
        refine g_get (w := wM q) hC 0 (v := .ref (q.2.2 2)) fl_X7_17 (show 0 < 17 from by decide) rfl rfl (gDec_at DX7_again_0 24 rfl) ?_
        refine g_iload_n hC (gDec_at DX7_again_0 25 rfl) rfl ?_
        refine g_aload_n hC (gDec_at DX7_again_0 26 rfl) rfl ?_
        refine g_get (w := wM q) hC 0 (v := .ref (q.2.2 12)) fl_X7_50 (show 0 < 17 from by decide) rfl rfl (gDec_at DX7_again_0 27 rfl) ?_
        refine g_bipush hC (gDec_at DX7_again_0 28 rfl) (v := nI 90) (by decide) ?_
        refine g_iload_n hC (gDec_at DX7_again_0 29 rfl) rfl ?_
        refine g_imulN hC (gDec_at DX7_again_0 30 rfl) ?_
        refine g_iload_n hC (gDec_at DX7_again_0 31 rfl) rfl ?_
        refine g_iaddN hC (gDec_at DX7_again_0 32 rfl) ?_
        refine g_iald (w := wM q) hC 12 0 ((90 * k) + i) (x := (M.1 12 ((90 * k) + i))) (show 12 < 17 from by decide) rfl rfl (by omega) (by decide) (by rw [hc1.1 12 (by omega) (by omega)]) (gDec_at DX7_again_0 33 rfl) ?_
        refine g_iast (w := wM q) hC 2 0 i (show 2 < 17 from by decide) rfl rfl rfl (by omega) (by decide) (gDec_at DX7_again_0 34 rfl) ?_
        refine g_aload_n hC (gDec_at DX7_again_0 35 rfl) rfl ?_
        refine g_get (w := wM q) hC 0 (v := .ref (q.2.2 3)) fl_X7_20 (show 0 < 17 from by decide) rfl rfl (gDec_at DX7_again_0 36 rfl) ?_
        refine g_iload_n hC (gDec_at DX7_again_0 37 rfl) rfl ?_
        refine g_aload_n hC (gDec_at DX7_again_0 38 rfl) rfl ?_
        refine g_get (w := wM q) hC 0 (v := .ref (q.2.2 12)) fl_X7_50 (show 0 < 17 from by decide) rfl rfl (gDec_at DX7_again_0 39 rfl) ?_
        refine g_bipush hC (gDec_at DX7_again_0 40 rfl) (v := nI 90) (by decide) ?_
        refine g_iload_n hC (gDec_at DX7_again_0 41 rfl) rfl ?_
        refine g_imulN hC (gDec_at DX7_again_0 42 rfl) ?_
        refine g_bipush hC (gDec_at DX7_again_0 43 rfl) (v := nI 12) (by decide) ?_
        refine g_iaddN hC (gDec_at DX7_again_0 44 rfl) ?_
        refine g_iload_n hC (gDec_at DX7_again_0 45 rfl) rfl ?_
        refine g_iaddN hC (gDec_at DX7_again_0 46 rfl) ?_
        refine g_iald (w := wM q) hC 12 0 (((90 * k) + 12) + i) (x := (M.1 12 (((90 * k) + 12) + i))) (show 12 < 17 from by decide) rfl rfl (by omega) (by decide) (by rw [gupd_get, if_neg (by omega), hc1.1 12 (by omega) (by omega)]) (gDec_at DX7_again_0 47 rfl) ?_
        refine g_iast (w := wM q) hC 3 0 i (show 3 < 17 from by decide) rfl rfl rfl (by omega) (by decide) (gDec_at DX7_again_0 48 rfl) ?_
        refine g_aload_n hC (gDec_at DX7_again_0 49 rfl) rfl ?_
        refine g_get (w := wM q) hC 0 (v := .ref (q.2.2 4)) fl_X7_23 (show 0 < 17 from by decide) rfl rfl (gDec_at DX7_again_0 50 rfl) ?_
        refine g_iload_n hC (gDec_at DX7_again_0 51 rfl) rfl ?_
        refine g_aload_n hC (gDec_at DX7_again_0 52 rfl) rfl ?_
        refine g_get (w := wM q) hC 0 (v := .ref (q.2.2 12)) fl_X7_50 (show 0 < 17 from by decide) rfl rfl (gDec_at DX7_again_0 53 rfl) ?_
        refine g_bipush hC (gDec_at DX7_again_0 54 rfl) (v := nI 90) (by decide) ?_
        refine g_iload_n hC (gDec_at DX7_again_0 55 rfl) rfl ?_
        refine g_imulN hC (gDec_at DX7_again_0 56 rfl) ?_
        refine g_bipush hC (gDec_at DX7_again_0 57 rfl) (v := nI 24) (by decide) ?_
        refine g_iaddN hC (gDec_at DX7_again_0 58 rfl) ?_
        refine g_iload_n hC (gDec_at DX7_again_0 59 rfl) rfl ?_
        refine g_iaddN hC (gDec_at DX7_again_0 60 rfl) ?_
        refine g_iald (w := wM q) hC 12 0 (((90 * k) + 24) + i) (x := (M.1 12 (((90 * k) + 24) + i))) (show 12 < 17 from by decide) rfl rfl (by omega) (by decide) (by rw [gupd_get, if_neg (by omega), gupd_get, if_neg (by omega), hc1.1 12 (by omega) (by omega)]) (gDec_at DX7_again_0 61 rfl) ?_
        refine g_iast (w := wM q) hC 4 0 i (show 4 < 17 from by decide) rfl rfl rfl (by omega) (by decide) (gDec_at DX7_again_0 62 rfl) ?_
        refine g_aload_n hC (gDec_at DX7_again_0 63 rfl) rfl ?_
        refine g_get (w := wM q) hC 0 (v := .ref (q.2.2 5)) fl_X7_26 (show 0 < 17 from by decide) rfl rfl (gDec_at DX7_again_1 0 rfl) ?_
        refine g_iload_n hC (gDec_at DX7_again_1 1 rfl) rfl ?_
        refine g_aload_n hC (gDec_at DX7_again_1 2 rfl) rfl ?_
        refine g_get (w := wM q) hC 0 (v := .ref (q.2.2 12)) fl_X7_50 (show 0 < 17 from by decide) rfl rfl (gDec_at DX7_again_1 3 rfl) ?_
        refine g_bipush hC (gDec_at DX7_again_1 4 rfl) (v := nI 90) (by decide) ?_
        refine g_iload_n hC (gDec_at DX7_again_1 5 rfl) rfl ?_
        refine g_imulN hC (gDec_at DX7_again_1 6 rfl) ?_
        refine g_bipush hC (gDec_at DX7_again_1 7 rfl) (v := nI 36) (by decide) ?_
        refine g_iaddN hC (gDec_at DX7_again_1 8 rfl) ?_
        refine g_iload_n hC (gDec_at DX7_again_1 9 rfl) rfl ?_
        refine g_iaddN hC (gDec_at DX7_again_1 10 rfl) ?_
        refine g_iald (w := wM q) hC 12 0 (((90 * k) + 36) + i) (x := (M.1 12 (((90 * k) + 36) + i))) (show 12 < 17 from by decide) rfl rfl (by omega) (by decide) (by rw [gupd_get, if_neg (by omega), gupd_get, if_neg (by omega), gupd_get, if_neg (by omega), hc1.1 12 (by omega) (by omega)]) (gDec_at DX7_again_1 11 rfl) ?_
        refine g_iast (w := wM q) hC 5 0 i (show 5 < 17 from by decide) rfl rfl rfl (by omega) (by decide) (gDec_at DX7_again_1 12 rfl) ?_
        refine g_aload_n hC (gDec_at DX7_again_1 13 rfl) rfl ?_
        refine g_get (w := wM q) hC 0 (v := .ref (q.2.2 6)) fl_X7_29 (show 0 < 17 from by decide) rfl rfl (gDec_at DX7_again_1 14 rfl) ?_
        refine g_iload_n hC (gDec_at DX7_again_1 15 rfl) rfl ?_
        refine g_aload_n hC (gDec_at DX7_again_1 16 rfl) rfl ?_
        refine g_get (w := wM q) hC 0 (v := .ref (q.2.2 12)) fl_X7_50 (show 0 < 17 from by decide) rfl rfl (gDec_at DX7_again_1 17 rfl) ?_
        refine g_bipush hC (gDec_at DX7_again_1 18 rfl) (v := nI 90) (by decide) ?_
        refine g_iload_n hC (gDec_at DX7_again_1 19 rfl) rfl ?_
        refine g_imulN hC (gDec_at DX7_again_1 20 rfl) ?_
        refine g_bipush hC (gDec_at DX7_again_1 21 rfl) (v := nI 48) (by decide) ?_
        refine g_iaddN hC (gDec_at DX7_again_1 22 rfl) ?_
        refine g_iload_n hC (gDec_at DX7_again_1 23 rfl) rfl ?_
        refine g_iaddN hC (gDec_at DX7_again_1 24 rfl) ?_
        refine g_iald (w := wM q) hC 12 0 (((90 * k) + 48) + i) (x := (M.1 12 (((90 * k) + 48) + i))) (show 12 < 17 from by decide) rfl rfl (by omega) (by decide) (by rw [gupd_get, if_neg (by omega), gupd_get, if_neg (by omega), gupd_get, if_neg (by omega), gupd_get, if_neg (by omega), hc1.1 12 (by omega) (by omega)]) (gDec_at DX7_again_1 25 rfl) ?_
        refine g_iast (w := wM q) hC 6 0 i (show 6 < 17 from by decide) rfl rfl rfl (by omega) (by decide) (gDec_at DX7_again_1 26 rfl) ?_
        refine g_aload_n hC (gDec_at DX7_again_1 27 rfl) rfl ?_
        refine g_get (w := wM q) hC 0 (v := .ref (q.2.2 7)) fl_X7_32 (show 0 < 17 from by decide) rfl rfl (gDec_at DX7_again_1 28 rfl) ?_
        refine g_iload_n hC (gDec_at DX7_again_1 29 rfl) rfl ?_
        refine g_aload_n hC (gDec_at DX7_again_1 30 rfl) rfl ?_
        refine g_get (w := wM q) hC 0 (v := .ref (q.2.2 12)) fl_X7_50 (show 0 < 17 from by decide) rfl rfl (gDec_at DX7_again_1 31 rfl) ?_
        refine g_bipush hC (gDec_at DX7_again_1 32 rfl) (v := nI 90) (by decide) ?_
        refine g_iload_n hC (gDec_at DX7_again_1 33 rfl) rfl ?_
        refine g_imulN hC (gDec_at DX7_again_1 34 rfl) ?_
        refine g_bipush hC (gDec_at DX7_again_1 35 rfl) (v := nI 60) (by decide) ?_
        refine g_iaddN hC (gDec_at DX7_again_1 36 rfl) ?_
        refine g_iload_n hC (gDec_at DX7_again_1 37 rfl) rfl ?_
        refine g_iaddN hC (gDec_at DX7_again_1 38 rfl) ?_
        refine g_iald (w := wM q) hC 12 0 (((90 * k) + 60) + i) (x := (M.1 12 (((90 * k) + 60) + i))) (show 12 < 17 from by decide) rfl rfl (by omega) (by decide) (by rw [gupd_get, if_neg (by omega), gupd_get, if_neg (by omega), gupd_get, if_neg (by omega), gupd_get, if_neg (by omega), gupd_get, if_neg (by omega), hc1.1 12 (by omega) (by omega)]) (gDec_at DX7_again_1 39 rfl) ?_
        refine g_iast (w := wM q) hC 7 0 i (show 7 < 17 from by decide) rfl rfl rfl (by omega) (by decide) (gDec_at DX7_again_1 40 rfl) ?_
        refine g_iincN hC (gDec_at DX7_again_1 41 rfl) rfl (by decide) (L' := [(2, .int (nI (i + 1))), (0, .ref (q.2.2 0)), (1, .int (nI k))]) rfl ?_
        refine g_goto hC (gDec_at DX7_again_1 42 rfl) 31 (by decide) ?_
        refine g_sub [1, 2, 0] (L' := [(0, .ref (q.2.2 0)), (1, .int (nI k)), (2, .int (nI (i + 1)))]) rfl ?_
        have h9 := ih (i + 1) _ (by omega) (by omega) (agI_s hc1)
        exact h9
  exact g_sub [1, 2, 0] rfl (loop31 (12 + 1 - 0) 0 _ (by omega) (by omega) ⟨fun c hc hd => rfl, fun r hr j hj => absurd hj (Nat.not_lt_zero j), fun k hk => absurd hk (Nat.not_lt_zero k)⟩)
