/-! THE REFERENCE: the stave read -/
/-- only what reading uses changed -/
def mR (M M' : gM) : Prop := (∀ c, c ≠ 0 → c < 8 ∨ 10 < c → M'.1 c = M.1 c) ∧ ∀ k, k ≠ 3 → k ≠ 12 → M'.1 0 k = M.1 0 k
theorem mR_rf {M : gM} : mR M M := ⟨fun _ _ _ => rfl, fun _ _ _ => rfl⟩
theorem mR_0 {M M' : gM} (h : mR M M') {k : Nat} {x : Int32} (hk : k = 3 ∨ k = 12) : mR M (gupd M' 0 k x) := ⟨fun c h0 h1 => by funext z; rw [gupd_get, if_neg (by omega), h.1 c h0 h1], fun z h3 h12 => by rw [gupd_get, if_neg (by omega), h.2 z h3 h12]⟩
theorem mR_c {M M' : gM} (h : mR M M') {c k : Nat} {x : Int32} (hc : 8 ≤ c ∧ c ≤ 10) : mR M (gupd M' c k x) := ⟨fun d h0 h1 => by funext z; rw [gupd_get, if_neg (by omega), h.1 d h0 h1], fun z h3 h12 => by rw [gupd_get, if_neg (by omega), h.2 z h3 h12]⟩
theorem mI_R {M M' : gM} {B : gB} (hI : mI M B) (h : mR M M') : mI M' B := by
  obtain ⟨h0, ⟨h1, h2, h3, h4⟩, hV⟩ := hI
  refine ⟨by rw [h.2 0 (by omega) (by omega)]; exact h0, ⟨by rw [h.2 4 (by omega) (by omega)]; exact h1, by rw [h.2 11 (by omega) (by omega)]; exact h2, ?_, ?_⟩, hV⟩
  · rw [h.1 11 (by omega) (by omega)]; exact h3
  · rw [h.1 2 (by omega) (by omega), h.1 3 (by omega) (by omega), h.1 4 (by omega) (by omega), h.1 5 (by omega) (by omega), h.1 6 (by omega) (by omega), h.1 7 (by omega) (by omega)]; exact h4
theorem mT_R {M M' : gM} {tl : Nat} {tb : Nat → Nat} (hT : mT M tl tb) (h : mR M M') : mT M' tl tb := by
  obtain ⟨a, b, d⟩ := hT
  exact ⟨by rw [h.2 2 (by omega) (by omega)]; exact a, b, by rw [h.1 1 (by omega) (by omega)]; exact d⟩
/-- reading: at p, n places of the first limb read; P: the places that stand -/
def rdI (M M1 : gM) (tb : Nat → Nat) (sl : Nat) (P : Nat → Prop) (p n : Nat) : Prop := mR M M1 ∧ M1.1 0 3 = nI p ∧ M1.1 0 12 = nI n ∧ ∀ j, P j → M1.1 8 j = nI (tb (pos sl j) - 48) ∧ M1.1 9 j = nI (10 * (tb (pos sl j + 1) - 48) + (tb (pos sl j + 2) - 48)) ∧ M1.1 10 j = nI (tb (pos sl j + 3) - 48)
def r4 (M : gM) (tb : Nat → Nat) (p i : Nat) : gM := gupd (gupd (gupd (gupd M 0 3 (nI (p + 4))) 8 i (nI (tb p - 48))) 9 i (nI (10 * (tb (p + 1) - 48) + (tb (p + 2) - 48)))) 10 i (nI (tb (p + 3) - 48))
theorem rdI_s {M M1 : gM} {tb : Nat → Nat} {sl p n i : Nat} {P Q : Nat → Prop} (h : rdI M M1 tb sl P p n) (hp : pos sl i = p) (hQ : ∀ j, Q j → P j ∨ j = i) : rdI M (r4 M1 tb p i) tb sl Q (p + 4) n := by
  obtain ⟨h1, h2, h3, h4⟩ := h
  refine ⟨mR_c (mR_c (mR_c (mR_0 h1 (by omega)) (by omega)) (by omega)) (by omega), ?_, ?_, fun j hj => ?_⟩
  · unfold r4
    rw [gupd_get, if_neg (by omega), gupd_get, if_neg (by omega), gupd_get, if_neg (by omega), gupd_get, if_pos ⟨rfl, rfl⟩]
  · unfold r4
    rw [gupd_get, if_neg (by omega), gupd_get, if_neg (by omega), gupd_get, if_neg (by omega), gupd_get, if_neg (by omega)]
    exact h3
  · unfold r4
    by_cases e : j = i
    · subst e
      rw [hp]
      refine ⟨?_, ?_, ?_⟩
      · rw [gupd_get, if_neg (by omega), gupd_get, if_neg (by omega), gupd_get, if_pos ⟨rfl, rfl⟩]
      · rw [gupd_get, if_neg (by omega), gupd_get, if_pos ⟨rfl, rfl⟩]
      · rw [gupd_get, if_pos ⟨rfl, rfl⟩]
    · obtain ⟨a, b, c⟩ := h4 j ((hQ j hj).resolve_right e)
      refine ⟨?_, ?_, ?_⟩
      · rw [gupd_get, if_neg (by omega), gupd_get, if_neg (by omega), gupd_get, if_neg (by omega), gupd_get, if_neg (by omega)]; exact a
      · rw [gupd_get, if_neg (by omega), gupd_get, if_neg (by omega), gupd_get, if_neg (by omega), gupd_get, if_neg (by omega)]; exact b
      · rw [gupd_get, if_neg (by omega), gupd_get, if_neg (by omega), gupd_get, if_neg (by omega), gupd_get, if_neg (by omega)]; exact c
theorem rdI_n {M M1 : gM} {tb : Nat → Nat} {sl p n m : Nat} {P : Nat → Prop} (h : rdI M M1 tb sl P p n) : rdI M (gupd M1 0 12 (nI m)) tb sl P p m := by
  obtain ⟨h1, h2, h3, h4⟩ := h
  refine ⟨mR_0 h1 (by omega), by rw [gupd_get, if_neg (by omega)]; exact h2, by rw [gupd_get, if_pos ⟨rfl, rfl⟩], fun j hj => ?_⟩
  rw [gupd_get, if_neg (by omega), gupd_get, if_neg (by omega), gupd_get, if_neg (by omega)]
  exact h4 j hj
theorem rdI_p {M M1 : gM} {tb : Nat → Nat} {sl p n m : Nat} {P : Nat → Prop} (h : rdI M M1 tb sl P p n) : rdI M (gupd M1 0 3 (nI m)) tb sl P m n := by
  obtain ⟨h1, h2, h3, h4⟩ := h
  refine ⟨mR_0 h1 (by omega), by rw [gupd_get, if_pos ⟨rfl, rfl⟩], by rw [gupd_get, if_neg (by omega)]; exact h3, fun j hj => ?_⟩
  rw [gupd_get, if_neg (by omega), gupd_get, if_neg (by omega), gupd_get, if_neg (by omega)]
  exact h4 j hj
theorem ff_at {i u a b : Nat} (hu : u < 4) (h : ffit ((4 * i + u) % 4) a b) : ffit u a b := by rwa [show (4 * i + u) % 4 = u by omega] at h
theorem ff_to {i u a b : Nat} (hu : u < 4) (h : ffit u a b) : ffit ((4 * i + u) % 4) a b := by rwa [show (4 * i + u) % 4 = u by omega]
theorem pos_0 {sl i : Nat} (hi : i < 6) : pos sl i = 4 * i := by
  unfold pos; rw [show i / 6 = 0 by omega, show i % 6 = i by omega]; omega
set_option maxRecDepth 100000 in
set_option maxHeartbeats 4000000 in
theorem c_X7_readStave_no (q : gQ3) {M : gM} {tl : Nat} {tb : Nat → Nat} (hT : mT M tl tb) {K : Nat} (hKt : K ≤ tl) (hall : ∀ i, i < K → i < 24 ∧ ffit (i % 4) (tb (i - 1)) (tb i)) (hx : K < tl → K < 24 → ¬ ffit (K % 4) (tb (K - 1)) (tb K)) (hs : ∀ n, 1 ≤ n → n ≤ 6 → ¬ (4 * n < tl ∧ tb (4 * n) = 47)) : gCt (wM q) yX7_readStave cX7_readStave 3 (some .int) 3 [.ref (q.2.2 0)] M (fun v M' => v = some (.int (nI K)) ∧ mR M M') := by
  refine gMet RX7 (by decide +kernel) rfl (Nat.le_of_ble_eq_true rfl) (fun X hC => ?_)
  have hC : gC X (wM q) cX7_readStave 3 RX7 (some .int) 3 := hC
  show gG X (wM q) _ 3 M 0 [(0, .ref (q.2.2 0))] []
  have ht := hT.2.1
  have sl := 0
  have hK24 : K ≤ 24 := by rcases Nat.eq_zero_or_pos K with z | z; omega; have := (hall (K - 1) (by omega)).1; omega
  refine g_aload_n hC (gDec_at DX7_readStave_0 0 rfl) rfl ?_
  refine g_iconst hC (gDec_at DX7_readStave_0 1 rfl) (v := nI 0) (by decide) ?_
  refine g_putI (w := wM q) hC 0 fl_X7_83 fp_7_3 (show 0 < 17 from by decide) rfl (Nat.le_of_ble_eq_true rfl) rfl rfl (gDec_at DX7_readStave_0 2 rfl) ?_
  refine g_aload_n hC (gDec_at DX7_readStave_0 3 rfl) rfl ?_
  refine g_iconst hC (gDec_at DX7_readStave_0 4 rfl) (v := nI 0) (by decide) ?_
  refine g_putI (w := wM q) hC 0 fl_X7_90 fp_7_12 (show 0 < 17 from by decide) rfl (Nat.le_of_ble_eq_true rfl) rfl rfl (gDec_at DX7_readStave_0 5 rfl) ?_
  refine g_iconst hC (gDec_at DX7_readStave_0 6 rfl) (v := nI 1) (by decide) ?_
  refine g_istore_n hC (gDec_at DX7_readStave_0 7 rfl) (by decide) (L' := [(1, .int (nI 1)), (0, .ref (q.2.2 0))]) rfl ?_
  have loop12 : ∀ (fu i : Nat) (M1 : gM), i ≤ 6 → 6 - i < fu → rdI M M1 tb sl (fun j => j < i) (4 * i) i → 4 * i ≤ K → gG X (wM q) (fun v M' => v = some (.int (nI K)) ∧ mR M M') 3 M1 12 [(0, .ref (q.2.2 0)), (1, .int (nI 1))] [] := by
    intro fu; induction fu with
    | zero => intro i M1 h1 h2; omega
    | succ fu ih =>
      intro i M1 hi hfu hr hiK
      rcases (show K = 4 * i ∨ K = 4 * i + 1 ∨ K = 4 * i + 2 ∨ K = 4 * i + 3 ∨ 4 * i + 4 ≤ K by omega) with hw | hw | hw | hw | hw
      · skip
        refine g_iload_n hC (gDec_at DX7_readStave_0 8 rfl) rfl ?_
        refine g_if_eqN hC (by decide) (gDec_at DX7_readStave_0 9 rfl) 85 (by decide) (fun h => absurd h (by decide)) (fun h => ?_)
        refine g_aload_n hC (gDec_at DX7_readStave_0 10 rfl) rfl ?_
        refine g_get (w := wM q) hC 0 (v := .int (nI i)) fl_X7_90 (show 0 < 17 from by decide) rfl (g_sv hr.2.2.1) (gDec_at DX7_readStave_0 11 rfl) ?_
        refine g_bipush hC (gDec_at DX7_readStave_0 12 rfl) (v := nI 6) (by decide) ?_
        refine g_icmp_eqN hC (by omega) (by omega) (gDec_at DX7_readStave_0 13 rfl) 36 (by decide) (fun h22 => ?_) (fun h22 => ?_)
        · skip
          refine g_aload_n hC (gDec_at DX7_readStave_0 19 rfl) rfl ?_
          refine g_get (w := wM q) hC 0 (v := .int (nI (4 * i))) fl_X7_83 (show 0 < 17 from by decide) rfl (g_sv hr.2.1) (gDec_at DX7_readStave_0 20 rfl) ?_
          refine g_iret hC (gDec_at DX7_readStave_0 21 rfl) ?_
          exact ⟨congrArg (fun z => some (Value.int (nI z))) (by omega), hr.1⟩
        · skip
          skip
          refine g_aload_n hC (gDec_at DX7_readStave_0 14 rfl) rfl ?_
          refine g_aload_n hC (gDec_at DX7_readStave_0 15 rfl) rfl ?_
          refine g_get (w := wM q) hC 0 (v := .int (nI i)) fl_X7_90 (show 0 < 17 from by decide) rfl (g_sv hr.2.2.1) (gDec_at DX7_readStave_0 16 rfl) ?_
          refine g_callVd (w := wM q) hC 0 (c_X7_readPlace_0 q (mT_R hT hr.1) (p := 4 * i) (i := i) (by omega) hr.2.1 (by omega)  (fun h z => by rw [hw] at hx; exact hx h (by omega) (ff_to (i := i) (u := 0) (by omega) z))) vf_X7_readPlace ml_X7_93 (by decide) (show 0 < 17 from by decide) rfl rfl rfl rfl rfl (Nat.le_of_ble_eq_true rfl) (gDec_at DX7_readStave_0 17 rfl) ?_
          refine g_if_neN hC (by decide) (gDec_at DX7_readStave_0 18 rfl) 41 (by decide) (fun h => absurd h (by decide)) (fun h => ?_)
          refine g_aload_n hC (gDec_at DX7_readStave_0 19 rfl) rfl ?_
          refine g_get (w := wM q) hC 0 (v := .int (nI (4 * i))) fl_X7_83 (show 0 < 17 from by decide) rfl (g_sv hr.2.1) (gDec_at DX7_readStave_0 20 rfl) ?_
          refine g_iret hC (gDec_at DX7_readStave_0 21 rfl) ?_
          exact ⟨congrArg (fun z => some (Value.int (nI z))) (by omega), hr.1⟩
      · skip
        refine g_iload_n hC (gDec_at DX7_readStave_0 8 rfl) rfl ?_
        refine g_if_eqN hC (by decide) (gDec_at DX7_readStave_0 9 rfl) 85 (by decide) (fun h => absurd h (by decide)) (fun h => ?_)
        refine g_aload_n hC (gDec_at DX7_readStave_0 10 rfl) rfl ?_
        refine g_get (w := wM q) hC 0 (v := .int (nI i)) fl_X7_90 (show 0 < 17 from by decide) rfl (g_sv hr.2.2.1) (gDec_at DX7_readStave_0 11 rfl) ?_
        refine g_bipush hC (gDec_at DX7_readStave_0 12 rfl) (v := nI 6) (by decide) ?_
        refine g_icmp_eqN hC (by omega) (by omega) (gDec_at DX7_readStave_0 13 rfl) 36 (by decide) (fun h22_1 => ?_) (fun h22_1 => ?_)
        · skip
          refine g_aload_n hC (gDec_at DX7_readStave_0 19 rfl) rfl ?_
          refine g_get (w := wM q) hC 0 (v := .int (nI (4 * i))) fl_X7_83 (show 0 < 17 from by decide) rfl (g_sv hr.2.1) (gDec_at DX7_readStave_0 20 rfl) ?_
          refine g_iret hC (gDec_at DX7_readStave_0 21 rfl) ?_
          exact ⟨congrArg (fun z => some (Value.int (nI z))) (by omega), hr.1⟩
        · skip
          skip
          refine g_aload_n hC (gDec_at DX7_readStave_0 14 rfl) rfl ?_
          refine g_aload_n hC (gDec_at DX7_readStave_0 15 rfl) rfl ?_
          refine g_get (w := wM q) hC 0 (v := .int (nI i)) fl_X7_90 (show 0 < 17 from by decide) rfl (g_sv hr.2.2.1) (gDec_at DX7_readStave_0 16 rfl) ?_
          refine g_callVd (w := wM q) hC 0 (c_X7_readPlace_1 q (mT_R hT hr.1) (p := 4 * i) (i := i) (by omega) hr.2.1 (by omega) (by omega) (ff_at (i := i) (by omega) (hall (4 * i + 0) (by omega)).2) (fun h z => by rw [hw] at hx; exact hx h (by omega) (ff_to (i := i) (u := 1) (by omega) z))) vf_X7_readPlace ml_X7_93 (by decide) (show 0 < 17 from by decide) rfl rfl rfl rfl rfl (Nat.le_of_ble_eq_true rfl) (gDec_at DX7_readStave_0 17 rfl) ?_
          refine g_if_neN hC (by decide) (gDec_at DX7_readStave_0 18 rfl) 41 (by decide) (fun h => absurd h (by decide)) (fun h => ?_)
          refine g_aload_n hC (gDec_at DX7_readStave_0 19 rfl) rfl ?_
          refine g_get (w := wM q) hC 0 (v := .int (nI (4 * i + 1))) fl_X7_83 (show 0 < 17 from by decide) rfl (g_sv pl_at) (gDec_at DX7_readStave_0 20 rfl) ?_
          refine g_iret hC (gDec_at DX7_readStave_0 21 rfl) ?_
          exact ⟨congrArg (fun z => some (Value.int (nI z))) (by omega), (mR_0 hr.1 (by omega))⟩
      · skip
        refine g_iload_n hC (gDec_at DX7_readStave_0 8 rfl) rfl ?_
        refine g_if_eqN hC (by decide) (gDec_at DX7_readStave_0 9 rfl) 85 (by decide) (fun h => absurd h (by decide)) (fun h => ?_)
        refine g_aload_n hC (gDec_at DX7_readStave_0 10 rfl) rfl ?_
        refine g_get (w := wM q) hC 0 (v := .int (nI i)) fl_X7_90 (show 0 < 17 from by decide) rfl (g_sv hr.2.2.1) (gDec_at DX7_readStave_0 11 rfl) ?_
        refine g_bipush hC (gDec_at DX7_readStave_0 12 rfl) (v := nI 6) (by decide) ?_
        refine g_icmp_eqN hC (by omega) (by omega) (gDec_at DX7_readStave_0 13 rfl) 36 (by decide) (fun h22_2 => ?_) (fun h22_2 => ?_)
        · skip
          refine g_aload_n hC (gDec_at DX7_readStave_0 19 rfl) rfl ?_
          refine g_get (w := wM q) hC 0 (v := .int (nI (4 * i))) fl_X7_83 (show 0 < 17 from by decide) rfl (g_sv hr.2.1) (gDec_at DX7_readStave_0 20 rfl) ?_
          refine g_iret hC (gDec_at DX7_readStave_0 21 rfl) ?_
          exact ⟨congrArg (fun z => some (Value.int (nI z))) (by omega), hr.1⟩
        · skip
          skip
          refine g_aload_n hC (gDec_at DX7_readStave_0 14 rfl) rfl ?_
          refine g_aload_n hC (gDec_at DX7_readStave_0 15 rfl) rfl ?_
          refine g_get (w := wM q) hC 0 (v := .int (nI i)) fl_X7_90 (show 0 < 17 from by decide) rfl (g_sv hr.2.2.1) (gDec_at DX7_readStave_0 16 rfl) ?_
          refine g_callVd (w := wM q) hC 0 (c_X7_readPlace_2 q (mT_R hT hr.1) (p := 4 * i) (i := i) (by omega) hr.2.1 (by omega) (by omega) (ff_at (i := i) (by omega) (hall (4 * i + 0) (by omega)).2) (by omega) (ff_at (i := i) (by omega) (hall (4 * i + 1) (by omega)).2) (fun h z => by rw [hw] at hx; exact hx h (by omega) (ff_to (i := i) (u := 2) (by omega) z))) vf_X7_readPlace ml_X7_93 (by decide) (show 0 < 17 from by decide) rfl rfl rfl rfl rfl (Nat.le_of_ble_eq_true rfl) (gDec_at DX7_readStave_0 17 rfl) ?_
          refine g_if_neN hC (by decide) (gDec_at DX7_readStave_0 18 rfl) 41 (by decide) (fun h => absurd h (by decide)) (fun h => ?_)
          refine g_aload_n hC (gDec_at DX7_readStave_0 19 rfl) rfl ?_
          refine g_get (w := wM q) hC 0 (v := .int (nI (4 * i + 2))) fl_X7_83 (show 0 < 17 from by decide) rfl (g_sv pl_at) (gDec_at DX7_readStave_0 20 rfl) ?_
          refine g_iret hC (gDec_at DX7_readStave_0 21 rfl) ?_
          exact ⟨congrArg (fun z => some (Value.int (nI z))) (by omega), (mR_0 hr.1 (by omega))⟩
      · skip
        refine g_iload_n hC (gDec_at DX7_readStave_0 8 rfl) rfl ?_
        refine g_if_eqN hC (by decide) (gDec_at DX7_readStave_0 9 rfl) 85 (by decide) (fun h => absurd h (by decide)) (fun h => ?_)
        refine g_aload_n hC (gDec_at DX7_readStave_0 10 rfl) rfl ?_
        refine g_get (w := wM q) hC 0 (v := .int (nI i)) fl_X7_90 (show 0 < 17 from by decide) rfl (g_sv hr.2.2.1) (gDec_at DX7_readStave_0 11 rfl) ?_
        refine g_bipush hC (gDec_at DX7_readStave_0 12 rfl) (v := nI 6) (by decide) ?_
        refine g_icmp_eqN hC (by omega) (by omega) (gDec_at DX7_readStave_0 13 rfl) 36 (by decide) (fun h22_3 => ?_) (fun h22_3 => ?_)
        · skip
          refine g_aload_n hC (gDec_at DX7_readStave_0 19 rfl) rfl ?_
          refine g_get (w := wM q) hC 0 (v := .int (nI (4 * i))) fl_X7_83 (show 0 < 17 from by decide) rfl (g_sv hr.2.1) (gDec_at DX7_readStave_0 20 rfl) ?_
          refine g_iret hC (gDec_at DX7_readStave_0 21 rfl) ?_
          exact ⟨congrArg (fun z => some (Value.int (nI z))) (by omega), hr.1⟩
        · skip
          skip
          refine g_aload_n hC (gDec_at DX7_readStave_0 14 rfl) rfl ?_
          refine g_aload_n hC (gDec_at DX7_readStave_0 15 rfl) rfl ?_
          refine g_get (w := wM q) hC 0 (v := .int (nI i)) fl_X7_90 (show 0 < 17 from by decide) rfl (g_sv hr.2.2.1) (gDec_at DX7_readStave_0 16 rfl) ?_
          refine g_callVd (w := wM q) hC 0 (c_X7_readPlace_3 q (mT_R hT hr.1) (p := 4 * i) (i := i) (by omega) hr.2.1 (by omega) (by omega) (ff_at (i := i) (by omega) (hall (4 * i + 0) (by omega)).2) (by omega) (ff_at (i := i) (by omega) (hall (4 * i + 1) (by omega)).2) (by omega) (ff_at (i := i) (by omega) (hall (4 * i + 2) (by omega)).2) (fun h z => by rw [hw] at hx; exact hx h (by omega) (ff_to (i := i) (u := 3) (by omega) z))) vf_X7_readPlace ml_X7_93 (by decide) (show 0 < 17 from by decide) rfl rfl rfl rfl rfl (Nat.le_of_ble_eq_true rfl) (gDec_at DX7_readStave_0 17 rfl) ?_
          refine g_if_neN hC (by decide) (gDec_at DX7_readStave_0 18 rfl) 41 (by decide) (fun h => absurd h (by decide)) (fun h => ?_)
          refine g_aload_n hC (gDec_at DX7_readStave_0 19 rfl) rfl ?_
          refine g_get (w := wM q) hC 0 (v := .int (nI (4 * i + 3))) fl_X7_83 (show 0 < 17 from by decide) rfl (g_sv pl_at) (gDec_at DX7_readStave_0 20 rfl) ?_
          refine g_iret hC (gDec_at DX7_readStave_0 21 rfl) ?_
          exact ⟨congrArg (fun z => some (Value.int (nI z))) (by omega), (mR_0 hr.1 (by omega))⟩
      · skip
        refine g_iload_n hC (gDec_at DX7_readStave_0 8 rfl) rfl ?_
        refine g_if_eqN hC (by decide) (gDec_at DX7_readStave_0 9 rfl) 85 (by decide) (fun h => absurd h (by decide)) (fun h => ?_)
        refine g_aload_n hC (gDec_at DX7_readStave_0 10 rfl) rfl ?_
        refine g_get (w := wM q) hC 0 (v := .int (nI i)) fl_X7_90 (show 0 < 17 from by decide) rfl (g_sv hr.2.2.1) (gDec_at DX7_readStave_0 11 rfl) ?_
        refine g_bipush hC (gDec_at DX7_readStave_0 12 rfl) (v := nI 6) (by decide) ?_
        refine g_icmp_eqN hC (by omega) (by omega) (gDec_at DX7_readStave_0 13 rfl) 36 (by decide) (fun h22_4 => ?_) (fun h22_4 => ?_)
        · skip
          refine g_aload_n hC (gDec_at DX7_readStave_0 19 rfl) rfl ?_
          refine g_get (w := wM q) hC 0 (v := .int (nI (4 * i))) fl_X7_83 (show 0 < 17 from by decide) rfl (g_sv hr.2.1) (gDec_at DX7_readStave_0 20 rfl) ?_
          refine g_iret hC (gDec_at DX7_readStave_0 21 rfl) ?_
          exact ⟨congrArg (fun z => some (Value.int (nI z))) (by omega), hr.1⟩
        · skip
          skip
          refine g_aload_n hC (gDec_at DX7_readStave_0 14 rfl) rfl ?_
          refine g_aload_n hC (gDec_at DX7_readStave_0 15 rfl) rfl ?_
          refine g_get (w := wM q) hC 0 (v := .int (nI i)) fl_X7_90 (show 0 < 17 from by decide) rfl (g_sv hr.2.2.1) (gDec_at DX7_readStave_0 16 rfl) ?_
          refine g_callVd (w := wM q) hC 0 (c_X7_readPlace_4 q (mT_R hT hr.1) (p := 4 * i) (i := i) (by omega) hr.2.1 (by omega) (ff_at (i := i) (by omega) (hall (4 * i + 0) (by omega)).2) (by omega) (ff_at (i := i) (by omega) (hall (4 * i + 1) (by omega)).2) (by omega) (ff_at (i := i) (by omega) (hall (4 * i + 2) (by omega)).2) (by omega) (ff_at (i := i) (by omega) (hall (4 * i + 3) (by omega)).2)) vf_X7_readPlace ml_X7_93 (by decide) (show 0 < 17 from by decide) rfl rfl rfl rfl rfl (Nat.le_of_ble_eq_true rfl) (gDec_at DX7_readStave_0 17 rfl) ?_
          have hr2 := rdI_s (Q := (fun j => j < (i + 1))) hr (pos_0 (sl := sl) (show i < 6 by omega)) (fun j hj => by omega)
          show gG X _ _ _ (r4 M1 tb (4 * i) i) _ _ _
          generalize hM2 : r4 M1 tb (4 * i) i = M2 at hr2 ⊢
          refine g_if_neN hC (by decide) (gDec_at DX7_readStave_0 18 rfl) 41 (by decide) (fun h => ?_) (fun h => absurd h (by decide))
          refine g_aload_n hC (gDec_at DX7_readStave_0 22 rfl) rfl ?_
          refine g_dup hC (gDec_at DX7_readStave_0 23 rfl) rfl ?_
          refine g_get (w := wM q) hC 0 (v := .int (nI i)) fl_X7_90 (show 0 < 17 from by decide) rfl (g_sv hr2.2.2.1) (gDec_at DX7_readStave_0 24 rfl) ?_
          refine g_iconst hC (gDec_at DX7_readStave_0 25 rfl) (v := nI 1) (by decide) ?_
          refine g_iaddN hC (gDec_at DX7_readStave_0 26 rfl) ?_
          refine g_putI (w := wM q) hC 0 fl_X7_90 fp_7_12 (show 0 < 17 from by decide) rfl (Nat.le_of_ble_eq_true rfl) rfl rfl (gDec_at DX7_readStave_0 27 rfl) ?_
          have hr3 := rdI_n (m := i + 1) hr2
          generalize hM3 : gupd M2 0 12 (nI (i + 1)) = M3 at hr3 ⊢
          have hT3 := mT_R hT hr3.1
          refine g_aload_n hC (gDec_at DX7_readStave_0 28 rfl) rfl ?_
          refine g_get (w := wM q) hC 0 (v := .int (nI (4 * i + 4))) fl_X7_83 (show 0 < 17 from by decide) rfl (g_sv hr3.2.1) (gDec_at DX7_readStave_0 29 rfl) ?_
          refine g_aload_n hC (gDec_at DX7_readStave_0 30 rfl) rfl ?_
          refine g_get (w := wM q) hC 0 (v := .int (nI tl)) fl_X7_80 (show 0 < 17 from by decide) rfl (g_sv hT3.1) (gDec_at DX7_readStave_0 31 rfl) ?_
          refine g_icmp_eqN hC (by omega) (by omega) (gDec_at DX7_readStave_0 32 rfl) 76 (by decide) (fun h59 => ?_) (fun h59 => ?_)
          · skip
            refine g_iconst hC (gDec_at DX7_readStave_0 40 rfl) (v := nI 1) (by decide) ?_
            refine g_goto hC (gDec_at DX7_readStave_0 41 rfl) 81 (by decide) ?_
            refine g_istore_n hC (gDec_at DX7_readStave_0 43 rfl) (by decide) (L' := [(1, .int (nI 1)), (0, .ref (q.2.2 0))]) rfl ?_
            refine g_goto hC (gDec_at DX7_readStave_0 44 rfl) 12 (by decide) ?_
            refine g_sub [1, 0] (L' := [(0, .ref (q.2.2 0)), (1, .int (nI 1))]) rfl ?_
            have h9 := ih (i + 1) M3 (by omega) (by omega) (hr3) (by omega)
            exact h9
          · skip
            have hby := (hT.2.2 (4 * i + 4) (by omega)).2
            refine g_aload_n hC (gDec_at DX7_readStave_0 33 rfl) rfl ?_
            refine g_get (w := wM q) hC 0 (v := .ref (q.2.2 1)) fl_X7_7 (show 0 < 17 from by decide) rfl rfl (gDec_at DX7_readStave_0 34 rfl) ?_
            refine g_aload_n hC (gDec_at DX7_readStave_0 35 rfl) rfl ?_
            refine g_get (w := wM q) hC 0 (v := .int (nI (4 * i + 4))) fl_X7_83 (show 0 < 17 from by decide) rfl (g_sv hr3.2.1) (gDec_at DX7_readStave_0 36 rfl) ?_
            refine g_iald (w := wM q) hC 1 0 (4 * i + 4) (x := (nI (tb (4 * i + 4)))) (show 1 < 17 from by decide) rfl rfl (by omega) (by decide) (hT3.2.2 _ (by omega)).1 (gDec_at DX7_readStave_0 37 rfl) ?_
            refine g_bipush hC (gDec_at DX7_readStave_0 38 rfl) (v := nI 47) (by decide) ?_
            refine g_icmp_eqN hC (by omega) (by omega) (gDec_at DX7_readStave_0 39 rfl) 80 (by decide) (fun h73 => ?_) (fun h73 => ?_)
            · skip
              exact absurd ⟨by omega, h73⟩ (hs (i + 1) (by omega) (by omega))
            · skip
              refine g_iconst hC (gDec_at DX7_readStave_0 40 rfl) (v := nI 1) (by decide) ?_
              refine g_goto hC (gDec_at DX7_readStave_0 41 rfl) 81 (by decide) ?_
              refine g_istore_n hC (gDec_at DX7_readStave_0 43 rfl) (by decide) (L' := [(1, .int (nI 1)), (0, .ref (q.2.2 0))]) rfl ?_
              refine g_goto hC (gDec_at DX7_readStave_0 44 rfl) 12 (by decide) ?_
              refine g_sub [1, 0] (L' := [(0, .ref (q.2.2 0)), (1, .int (nI 1))]) rfl ?_
              have h9 := ih (i + 1) M3 (by omega) (by omega) (hr3) (by omega)
              exact h9
  exact g_sub [1, 0] rfl (loop12 (6 + 1 - 0) 0 _ (by omega) (by omega) ⟨mR_0 (mR_0 mR_rf (by omega)) (by omega), by rw [gupd_get, if_neg (by omega), gupd_get, if_pos ⟨rfl, rfl⟩], by rw [gupd_get, if_pos ⟨rfl, rfl⟩], fun j hj => absurd hj (Nat.not_lt_zero j)⟩ (by omega))
