/-! THE REFERENCE: fault, stave -/
set_option maxRecDepth 100000 in
set_option maxHeartbeats 4000000 in
theorem c_X7_fault_no (q : gQ3) {M : gM} {B : gB} (hI : mI M B) {tl : Nat} {tb : Nat → Nat} (hT : mT M tl tb) {K : Nat} (hKt : K ≤ tl) (hall : ∀ i, i < K → i < 24 ∧ ffit (i % 4) (tb (i - 1)) (tb i)) (hx : K < tl → K < 24 → ¬ ffit (K % 4) (tb (K - 1)) (tb K)) (hs : ∀ n, 1 ≤ n → n ≤ 6 → ¬ (4 * n < tl ∧ tb (4 * n) = 47)) : gCt (wM q) yX7_fault cX7_fault 1 (some .int) 8 [.ref (q.2.2 0)] M (fun v M' => v = some (.int (nI K)) ∧ mR M M') := by
  refine gMet RX7 (by decide +kernel) rfl (Nat.le_of_ble_eq_true rfl) (fun X hC => ?_)
  have hC : gC X (wM q) cX7_fault 1 RX7 (some .int) 8 := hC
  show gG X (wM q) _ 1 M 0 [(0, .ref (q.2.2 0))] []
  refine g_aload_n hC (gDec_at DX7_fault_0 0 rfl) rfl ?_
  refine g_iconst hC (gDec_at DX7_fault_0 1 rfl) (v := nI 0) (by decide) ?_
  refine g_putI (w := wM q) hC 0 fl_X7_67 fp_7_0 (show 0 < 17 from by decide) rfl (Nat.le_of_ble_eq_true rfl) rfl rfl (gDec_at DX7_fault_0 2 rfl) ?_
  refine g_M (mi_0 hI) ?_
  refine g_aload_n hC (gDec_at DX7_fault_0 3 rfl) rfl ?_
  refine g_callV (w := wM q) hC (i := 0) (c_X7_readStave_no q hT hKt hall hx hs) vf_X7_readStave ml_X7_97 (by decide) (show 0 < 17 from by decide) rfl rfl rfl rfl rfl (Nat.le_of_ble_eq_true rfl) (gDec_at DX7_fault_0 4 rfl) (fun v_6 M_6 hq_6 => ?_)
  obtain ⟨rfl, hr⟩ := hq_6
  refine g_iret hC (gDec_at DX7_fault_0 5 rfl) ?_
  exact ⟨rfl, hr⟩

set_option maxRecDepth 100000 in
set_option maxHeartbeats 4000000 in
theorem c_X7_stave_no (q : gQ3) {M : gM} {B : gB} (hI : mI M B) {tl : Nat} {tb : Nat → Nat} (hT : mT M tl tb) {K : Nat} (hKt : K ≤ tl) (hall : ∀ i, i < K → i < 24 ∧ ffit (i % 4) (tb (i - 1)) (tb i)) (hx : K < tl → K < 24 → ¬ ffit (K % 4) (tb (K - 1)) (tb K)) (hs : ∀ n, 1 ≤ n → n ≤ 6 → ¬ (4 * n < tl ∧ tb (4 * n) = 47)) : gCt (wM q) yX7_stave cX7_stave 2 (some .int) 8 [.ref (q.2.2 0)] M (fun v M' => v = some (.int (-3)) ∧ mR M M') := by
  refine gMet RX7 (by decide +kernel) rfl (Nat.le_of_ble_eq_true rfl) (fun X hC => ?_)
  have hC : gC X (wM q) cX7_stave 2 RX7 (some .int) 8 := hC
  show gG X (wM q) _ 2 M 0 [(0, .ref (q.2.2 0))] []
  have ht := hT.2.1
  refine g_aload_n hC (gDec_at DX7_stave_0 0 rfl) rfl ?_
  refine g_iconst hC (gDec_at DX7_stave_0 1 rfl) (v := nI 0) (by decide) ?_
  refine g_putI (w := wM q) hC 0 fl_X7_67 fp_7_0 (show 0 < 17 from by decide) rfl (Nat.le_of_ble_eq_true rfl) rfl rfl (gDec_at DX7_stave_0 2 rfl) ?_
  refine g_M (mi_0 hI) ?_
  refine g_aload_n hC (gDec_at DX7_stave_0 3 rfl) rfl ?_
  refine g_callV (w := wM q) hC (i := 0) (c_X7_readStave_no q hT hKt hall hx hs) vf_X7_readStave ml_X7_97 (by decide) (show 0 < 17 from by decide) rfl rfl rfl rfl rfl (Nat.le_of_ble_eq_true rfl) (gDec_at DX7_stave_0 4 rfl) (fun v_6 M_6 hq_6 => ?_)
  obtain ⟨rfl, hr⟩ := hq_6
  refine g_bipush hC (gDec_at DX7_stave_0 5 rfl) (v := -9) (by decide) ?_
  refine g_icmp_eq hC (gDec_at DX7_stave_0 6 rfl) 17 (by decide) (fun h => absurd h (nI_n9 (by omega))) (fun h => ?_)
  refine g_bipush hC (gDec_at DX7_stave_0 7 rfl) (v := -3) (by decide) ?_
  refine g_iret hC (gDec_at DX7_stave_0 8 rfl) ?_
  exact ⟨rfl, hr⟩

set_option maxRecDepth 100000 in
set_option maxHeartbeats 4000000 in
theorem c_X7_fault_sl (q : gQ3) {M : gM} {B : gB} (hI : mI M B) {tl : Nat} {tb : Nat → Nat} (hT : mT M tl tb) {sl : Nat} (h0 : 1 ≤ sl) (h6 : sl ≤ 6) (hs : 4 * sl < tl ∧ tb (4 * sl) = 47) (hmin : ∀ n, 1 ≤ n → n < sl → ¬ (4 * n < tl ∧ tb (4 * n) = 47)) {K : Nat} (hKt : K ≤ tl) (hall : ∀ i, i < K → sfit tb sl i) (hx : K < tl → ¬ sfit tb sl K) (hg : ¬ (K = tl ∧ tl = 8 * sl + 1)) : gCt (wM q) yX7_fault cX7_fault 1 (some .int) 8 [.ref (q.2.2 0)] M (fun v M' => v = some (.int (nI K)) ∧ mR M M') := by
  refine gMet RX7 (by decide +kernel) rfl (Nat.le_of_ble_eq_true rfl) (fun X hC => ?_)
  have hC : gC X (wM q) cX7_fault 1 RX7 (some .int) 8 := hC
  show gG X (wM q) _ 1 M 0 [(0, .ref (q.2.2 0))] []
  refine g_aload_n hC (gDec_at DX7_fault_0 0 rfl) rfl ?_
  refine g_iconst hC (gDec_at DX7_fault_0 1 rfl) (v := nI 0) (by decide) ?_
  refine g_putI (w := wM q) hC 0 fl_X7_67 fp_7_0 (show 0 < 17 from by decide) rfl (Nat.le_of_ble_eq_true rfl) rfl rfl (gDec_at DX7_fault_0 2 rfl) ?_
  refine g_M (mi_0 hI) ?_
  refine g_aload_n hC (gDec_at DX7_fault_0 3 rfl) rfl ?_
  refine g_callV (w := wM q) hC (i := 0) (c_X7_readStave_sl q hT h0 h6 hs hmin hKt hall hx hg) vf_X7_readStave ml_X7_97 (by decide) (show 0 < 17 from by decide) rfl rfl rfl rfl rfl (Nat.le_of_ble_eq_true rfl) (gDec_at DX7_fault_0 4 rfl) (fun v_6 M_6 hq_6 => ?_)
  obtain ⟨rfl, hr⟩ := hq_6
  refine g_iret hC (gDec_at DX7_fault_0 5 rfl) ?_
  exact ⟨rfl, hr⟩

set_option maxRecDepth 100000 in
set_option maxHeartbeats 4000000 in
theorem c_X7_stave_sl (q : gQ3) {M : gM} {B : gB} (hI : mI M B) {tl : Nat} {tb : Nat → Nat} (hT : mT M tl tb) {sl : Nat} (h0 : 1 ≤ sl) (h6 : sl ≤ 6) (hs : 4 * sl < tl ∧ tb (4 * sl) = 47) (hmin : ∀ n, 1 ≤ n → n < sl → ¬ (4 * n < tl ∧ tb (4 * n) = 47)) {K : Nat} (hKt : K ≤ tl) (hall : ∀ i, i < K → sfit tb sl i) (hx : K < tl → ¬ sfit tb sl K) (hg : ¬ (K = tl ∧ tl = 8 * sl + 1)) : gCt (wM q) yX7_stave cX7_stave 2 (some .int) 8 [.ref (q.2.2 0)] M (fun v M' => v = some (.int (-3)) ∧ mR M M') := by
  refine gMet RX7 (by decide +kernel) rfl (Nat.le_of_ble_eq_true rfl) (fun X hC => ?_)
  have hC : gC X (wM q) cX7_stave 2 RX7 (some .int) 8 := hC
  show gG X (wM q) _ 2 M 0 [(0, .ref (q.2.2 0))] []
  have ht := hT.2.1
  refine g_aload_n hC (gDec_at DX7_stave_0 0 rfl) rfl ?_
  refine g_iconst hC (gDec_at DX7_stave_0 1 rfl) (v := nI 0) (by decide) ?_
  refine g_putI (w := wM q) hC 0 fl_X7_67 fp_7_0 (show 0 < 17 from by decide) rfl (Nat.le_of_ble_eq_true rfl) rfl rfl (gDec_at DX7_stave_0 2 rfl) ?_
  refine g_M (mi_0 hI) ?_
  refine g_aload_n hC (gDec_at DX7_stave_0 3 rfl) rfl ?_
  refine g_callV (w := wM q) hC (i := 0) (c_X7_readStave_sl q hT h0 h6 hs hmin hKt hall hx hg) vf_X7_readStave ml_X7_97 (by decide) (show 0 < 17 from by decide) rfl rfl rfl rfl rfl (Nat.le_of_ble_eq_true rfl) (gDec_at DX7_stave_0 4 rfl) (fun v_6 M_6 hq_6 => ?_)
  obtain ⟨rfl, hr⟩ := hq_6
  refine g_bipush hC (gDec_at DX7_stave_0 5 rfl) (v := -9) (by decide) ?_
  refine g_icmp_eq hC (gDec_at DX7_stave_0 6 rfl) 17 (by decide) (fun h => absurd h (nI_n9 (by omega))) (fun h => ?_)
  refine g_bipush hC (gDec_at DX7_stave_0 7 rfl) (v := -3) (by decide) ?_
  refine g_iret hC (gDec_at DX7_stave_0 8 rfl) ?_
  exact ⟨rfl, hr⟩

set_option maxRecDepth 100000 in
set_option maxHeartbeats 4000000 in
theorem c_X7_fault_good (q : gQ3) {M : gM} {B : gB} (hI : mI M B) {tl : Nat} {tb : Nat → Nat} (hT : mT M tl tb) {sl : Nat} (h0 : 1 ≤ sl) (h6 : sl ≤ 6) (hs : 4 * sl < tl ∧ tb (4 * sl) = 47) (hmin : ∀ n, 1 ≤ n → n < sl → ¬ (4 * n < tl ∧ tb (4 * n) = 47)) {K : Nat} (hKt : K ≤ tl) (hall : ∀ i, i < K → sfit tb sl i) (hx : K < tl → ¬ sfit tb sl K) (hg : K = tl ∧ tl = 8 * sl + 1) : gCt (wM q) yX7_fault cX7_fault 1 (some .int) 8 [.ref (q.2.2 0)] M (fun v M' => v = some (.int (-9)) ∧ mR M M') := by
  refine gMet RX7 (by decide +kernel) rfl (Nat.le_of_ble_eq_true rfl) (fun X hC => ?_)
  have hC : gC X (wM q) cX7_fault 1 RX7 (some .int) 8 := hC
  show gG X (wM q) _ 1 M 0 [(0, .ref (q.2.2 0))] []
  refine g_aload_n hC (gDec_at DX7_fault_0 0 rfl) rfl ?_
  refine g_iconst hC (gDec_at DX7_fault_0 1 rfl) (v := nI 0) (by decide) ?_
  refine g_putI (w := wM q) hC 0 fl_X7_67 fp_7_0 (show 0 < 17 from by decide) rfl (Nat.le_of_ble_eq_true rfl) rfl rfl (gDec_at DX7_fault_0 2 rfl) ?_
  refine g_M (mi_0 hI) ?_
  refine g_aload_n hC (gDec_at DX7_fault_0 3 rfl) rfl ?_
  refine g_callV (w := wM q) hC (i := 0) (c_X7_readStave_good q hT h0 h6 hs hmin hKt hall hx hg) vf_X7_readStave ml_X7_97 (by decide) (show 0 < 17 from by decide) rfl rfl rfl rfl rfl (Nat.le_of_ble_eq_true rfl) (gDec_at DX7_fault_0 4 rfl) (fun v_6 M_6 hq_6 => ?_)
  obtain ⟨rfl, hr⟩ := hq_6
  refine g_iret hC (gDec_at DX7_fault_0 5 rfl) ?_
  exact ⟨rfl, hr.1⟩

/-- a new stave: i places of what was read stand -/
def stI (M2 M7 : gM) (sl i : Nat) : Prop := (∀ c, c ≠ 0 → c < 2 ∨ 7 < c → M7.1 c = M2.1 c) ∧ (∀ k, k ≠ 4 → M7.1 0 k = M2.1 0 k) ∧ M7.1 0 4 = nI sl ∧ ∀ j, j < i → M7.1 2 j = M2.1 8 j ∧ M7.1 3 j = M2.1 9 j ∧ M7.1 4 j = M2.1 10 j ∧ M7.1 5 j = nI 0 ∧ M7.1 6 j = nI 0 ∧ M7.1 7 j = nI 0
theorem stI_s {M2 M7 : gM} {sl i : Nat} (h : stI M2 M7 sl i) : stI M2 (gupd (gupd (gupd (gupd (gupd (gupd M7 2 i (M2.1 8 i)) 3 i (M2.1 9 i)) 4 i (M2.1 10 i)) 5 i (nI 0)) 6 i (nI 0)) 7 i (nI 0)) sl (i + 1) := by
  obtain ⟨h1, h2, h3, h4⟩ := h
  refine ⟨fun c hc hd => ?_, fun k hk => ?_, ?_, fun j hj => ?_⟩
  · funext z
    rw [gupd_get, if_neg (by omega), gupd_get, if_neg (by omega), gupd_get, if_neg (by omega), gupd_get, if_neg (by omega), gupd_get, if_neg (by omega), gupd_get, if_neg (by omega), h1 c hc hd]
  · rw [gupd_get, if_neg (by omega), gupd_get, if_neg (by omega), gupd_get, if_neg (by omega), gupd_get, if_neg (by omega), gupd_get, if_neg (by omega), gupd_get, if_neg (by omega)]
    exact h2 k hk
  · rw [gupd_get, if_neg (by omega), gupd_get, if_neg (by omega), gupd_get, if_neg (by omega), gupd_get, if_neg (by omega), gupd_get, if_neg (by omega), gupd_get, if_neg (by omega)]
    exact h3
  · by_cases e : j = i
    · subst e
      refine ⟨?_, ?_, ?_, ?_, ?_, ?_⟩
      · rw [gupd_get, if_neg (by omega), gupd_get, if_neg (by omega), gupd_get, if_neg (by omega), gupd_get, if_neg (by omega), gupd_get, if_neg (by omega), gupd_get, if_pos ⟨rfl, rfl⟩]
      · rw [gupd_get, if_neg (by omega), gupd_get, if_neg (by omega), gupd_get, if_neg (by omega), gupd_get, if_neg (by omega), gupd_get, if_pos ⟨rfl, rfl⟩]
      · rw [gupd_get, if_neg (by omega), gupd_get, if_neg (by omega), gupd_get, if_neg (by omega), gupd_get, if_pos ⟨rfl, rfl⟩]
      · rw [gupd_get, if_neg (by omega), gupd_get, if_neg (by omega), gupd_get, if_pos ⟨rfl, rfl⟩]
      · rw [gupd_get, if_neg (by omega), gupd_get, if_pos ⟨rfl, rfl⟩]
      · rw [gupd_get, if_pos ⟨rfl, rfl⟩]
    · have key : ∀ c, (gupd (gupd (gupd (gupd (gupd (gupd M7 2 i (M2.1 8 i)) 3 i (M2.1 9 i)) 4 i (M2.1 10 i)) 5 i (nI 0)) 6 i (nI 0)) 7 i (nI 0)).1 c j = M7.1 c j := fun c => by
        rw [gupd_get, if_neg (fun z => e z.2), gupd_get, if_neg (fun z => e z.2), gupd_get, if_neg (fun z => e z.2), gupd_get, if_neg (fun z => e z.2), gupd_get, if_neg (fun z => e z.2), gupd_get, if_neg (fun z => e z.2)]
      rw [key 2, key 3, key 4, key 5, key 6, key 7]
      exact h4 j (by omega)
/-- text and slots are as they were -/
def mS (M M' : gM) : Prop := M'.1 0 2 = M.1 0 2 ∧ M'.1 1 = M.1 1 ∧ M'.1 12 = M.1 12 ∧ M'.1 13 = M.1 13
theorem stI_e {M M2 M7 : gM} {B : gB} {tb : Nat → Nat} {sl p : Nat} (hI : mI M B) (h0 : 1 ≤ sl) (h6 : sl ≤ 6) (hV : bV (mkB B tb sl)) (hr : rdI M M2 tb sl (fun z => z < sl ∨ (6 ≤ z ∧ z < 6 + sl)) p sl) (h : stI M2 M7 sl 12) : mI (gupd M7 0 11 (-9)) (mkB B tb sl) ∧ mS M (gupd M7 0 11 (-9)) := by
  obtain ⟨h1, h2, h3, h4⟩ := h
  obtain ⟨a0, ⟨a1, a2, a3, a4⟩, -⟩ := mI_R hI hr.1
  have hm : mkB B tb sl 9 0 = sl := rfl
  refine ⟨⟨?_, ⟨?_, ?_, fun k hk => ?_, fun j hj ht => ?_⟩, hV⟩, ?_, ?_, ?_, ?_⟩
  · rw [gupd_get, if_neg (by omega), h2 0 (by omega)]; exact a0
  · rw [gupd_get, if_neg (by omega), h3]; rfl
  · rw [gupd_get, if_pos ⟨rfl, rfl⟩]; rfl
  · rw [gupd_get, gupd_get, gupd_get, if_neg (by omega), if_neg (by omega), if_neg (by omega), h1 11 (by omega) (by omega)]
    exact a3 k hk
  · rw [hm] at ht
    obtain ⟨b0, b1, b2, b3, b4, b5⟩ := h4 j hj
    obtain ⟨c0, c1, c2⟩ := hr.2.2.2 j (by omega)
    rw [gupd_get, if_neg (by omega), gupd_get, if_neg (by omega), gupd_get, if_neg (by omega), gupd_get, if_neg (by omega), gupd_get, if_neg (by omega), gupd_get, if_neg (by omega)]
    exact ⟨b0.trans c0, b1.trans c1, b2.trans c2, b3, b4, b5⟩
  · rw [gupd_get, if_neg (by omega), h2 2 (by omega), hr.1.2 2 (by omega) (by omega)]
  · funext z; rw [gupd_get, if_neg (by omega), h1 1 (by omega) (by omega), hr.1.1 1 (by omega) (by omega)]
  · funext z; rw [gupd_get, if_neg (by omega), h1 12 (by omega) (by omega), hr.1.1 12 (by omega) (by omega)]
  · funext z; rw [gupd_get, if_neg (by omega), h1 13 (by omega) (by omega), hr.1.1 13 (by omega) (by omega)]
set_option maxRecDepth 100000 in
set_option maxHeartbeats 4000000 in
theorem c_X7_stave_good (q : gQ3) {M : gM} {B : gB} (hI : mI M B) {tl : Nat} {tb : Nat → Nat} (hT : mT M tl tb) {sl : Nat} (h0 : 1 ≤ sl) (h6 : sl ≤ 6) (hs : 4 * sl < tl ∧ tb (4 * sl) = 47) (hmin : ∀ n, 1 ≤ n → n < sl → ¬ (4 * n < tl ∧ tb (4 * n) = 47)) {K : Nat} (hKt : K ≤ tl) (hall : ∀ i, i < K → sfit tb sl i) (hx : K < tl → ¬ sfit tb sl K) (hg : K = tl ∧ tl = 8 * sl + 1) : gCt (wM q) yX7_stave cX7_stave 2 (some .int) 8 [.ref (q.2.2 0)] M (fun v M' => v = some (.int (nI sl)) ∧ mI M' (mkB B tb sl) ∧ mS M M') := by
  refine gMet RX7 (by decide +kernel) rfl (Nat.le_of_ble_eq_true rfl) (fun X hC => ?_)
  have hC : gC X (wM q) cX7_stave 2 RX7 (some .int) 8 := hC
  show gG X (wM q) _ 2 M 0 [(0, .ref (q.2.2 0))] []
  have hV := mkB_V hI.2.2 h0 h6 (fun i hi => hall i (by omega))
  refine g_aload_n hC (gDec_at DX7_stave_0 0 rfl) rfl ?_
  refine g_iconst hC (gDec_at DX7_stave_0 1 rfl) (v := nI 0) (by decide) ?_
  refine g_putI (w := wM q) hC 0 fl_X7_67 fp_7_0 (show 0 < 17 from by decide) rfl (Nat.le_of_ble_eq_true rfl) rfl rfl (gDec_at DX7_stave_0 2 rfl) ?_
  refine g_M (mi_0 hI) ?_
  refine g_aload_n hC (gDec_at DX7_stave_0 3 rfl) rfl ?_
  refine g_callV (w := wM q) hC (i := 0) (c_X7_readStave_good q hT h0 h6 hs hmin hKt hall hx hg) vf_X7_readStave ml_X7_97 (by decide) (show 0 < 17 from by decide) rfl rfl rfl rfl rfl (Nat.le_of_ble_eq_true rfl) (gDec_at DX7_stave_0 4 rfl) (fun v_6 M_6 hq_6 => ?_)
  obtain ⟨rfl, hr⟩ := hq_6
  refine g_bipush hC (gDec_at DX7_stave_0 5 rfl) (v := -9) (by decide) ?_
  refine g_icmp_eq hC (gDec_at DX7_stave_0 6 rfl) 17 (by decide) (fun h => ?_) (fun h => absurd rfl h)
  refine g_aload_n hC (gDec_at DX7_stave_0 9 rfl) rfl ?_
  refine g_aload_n hC (gDec_at DX7_stave_0 10 rfl) rfl ?_
  refine g_get (w := wM q) hC 0 (v := .int (nI sl)) fl_X7_90 (show 0 < 17 from by decide) rfl (g_sv hr.2.2.1) (gDec_at DX7_stave_0 11 rfl) ?_
  refine g_putI (w := wM q) hC 0 fl_X7_13 fp_7_4 (show 0 < 17 from by decide) rfl (Nat.le_of_ble_eq_true rfl) rfl rfl (gDec_at DX7_stave_0 12 rfl) ?_
  refine g_iconst hC (gDec_at DX7_stave_0 13 rfl) (v := nI 0) (by decide) ?_
  refine g_istore_n hC (gDec_at DX7_stave_0 14 rfl) (by decide) (L' := [(1, .int (nI 0)), (0, .ref (q.2.2 0))]) rfl ?_
  have loop27 : ∀ (fu i : Nat) (M7 : gM), i ≤ 12 → 12 - i < fu → stI M_6 M7 sl i → gG X (wM q) (fun v M' => v = some (.int (nI sl)) ∧ mI M' (mkB B tb sl) ∧ mS M M') 2 M7 27 [(0, .ref (q.2.2 0)), (1, .int (nI i))] [] := by
    intro fu; induction fu with
    | zero => intro i M7 h1 h2; omega
    | succ fu ih =>
      intro i M7 hi hfu h7
      refine g_iload_n hC (gDec_at DX7_stave_0 15 rfl) rfl ?_
      refine g_bipush hC (gDec_at DX7_stave_0 16 rfl) (v := nI 12) (by decide) ?_
      refine g_icmp_geN hC (by omega) (by omega) (gDec_at DX7_stave_0 17 rfl) 96 (by decide) (fun h30 => ?_) (fun h30 => ?_)
      · skip
        obtain rfl : i = 12 := by omega
        refine g_aload_n hC (gDec_at DX7_stave_0 59 rfl) rfl ?_
        refine g_bipush hC (gDec_at DX7_stave_0 60 rfl) (v := -9) (by decide) ?_
        refine g_putI (w := wM q) hC 0 fl_X7_35 fp_7_11 (show 0 < 17 from by decide) rfl (Nat.le_of_ble_eq_true rfl) rfl rfl (gDec_at DX7_stave_0 61 rfl) ?_
        refine g_aload_n hC (gDec_at DX7_stave_0 62 rfl) rfl ?_
        refine g_get (w := wM q) hC 0 (v := .int (nI sl)) fl_X7_13 (show 0 < 17 from by decide) rfl (g_sv (by rw [gupd_get, if_neg (by omega)]; exact h7.2.2.1)) (gDec_at DX7_stave_0 63 rfl) ?_
        refine g_iret hC (gDec_at DX7_stave_1 0 rfl) ?_
        exact ⟨rfl, stI_e hI h0 h6 hV hr h7⟩
      · skip
        refine g_aload_n hC (gDec_at DX7_stave_0 18 rfl) rfl ?_
        refine g_get (w := wM q) hC 0 (v := .ref (q.2.2 2)) fl_X7_17 (show 0 < 17 from by decide) rfl rfl (gDec_at DX7_stave_0 19 rfl) ?_
        refine g_iload_n hC (gDec_at DX7_stave_0 20 rfl) rfl ?_
        refine g_aload_n hC (gDec_at DX7_stave_0 21 rfl) rfl ?_
        refine g_get (w := wM q) hC 0 (v := .ref (q.2.2 8)) fl_X7_38 (show 0 < 17 from by decide) rfl rfl (gDec_at DX7_stave_0 22 rfl) ?_
        refine g_iload_n hC (gDec_at DX7_stave_0 23 rfl) rfl ?_
        refine g_iald (w := wM q) hC 8 0 i (x := (M_6.1 8 i)) (show 8 < 17 from by decide) rfl rfl (by omega) (by decide) (by rw [h7.1 8 (by omega) (by omega)]) (gDec_at DX7_stave_0 24 rfl) ?_
        refine g_iast (w := wM q) hC 2 0 i (show 2 < 17 from by decide) rfl rfl rfl (by omega) (by decide) (gDec_at DX7_stave_0 25 rfl) ?_
        refine g_aload_n hC (gDec_at DX7_stave_0 26 rfl) rfl ?_
        refine g_get (w := wM q) hC 0 (v := .ref (q.2.2 3)) fl_X7_20 (show 0 < 17 from by decide) rfl rfl (gDec_at DX7_stave_0 27 rfl) ?_
        refine g_iload_n hC (gDec_at DX7_stave_0 28 rfl) rfl ?_
        refine g_aload_n hC (gDec_at DX7_stave_0 29 rfl) rfl ?_
        refine g_get (w := wM q) hC 0 (v := .ref (q.2.2 9)) fl_X7_41 (show 0 < 17 from by decide) rfl rfl (gDec_at DX7_stave_0 30 rfl) ?_
        refine g_iload_n hC (gDec_at DX7_stave_0 31 rfl) rfl ?_
        refine g_iald (w := wM q) hC 9 0 i (x := (M_6.1 9 i)) (show 9 < 17 from by decide) rfl rfl (by omega) (by decide) (by rw [gupd_get, if_neg (by omega), h7.1 9 (by omega) (by omega)]) (gDec_at DX7_stave_0 32 rfl) ?_
        refine g_iast (w := wM q) hC 3 0 i (show 3 < 17 from by decide) rfl rfl rfl (by omega) (by decide) (gDec_at DX7_stave_0 33 rfl) ?_
        refine g_aload_n hC (gDec_at DX7_stave_0 34 rfl) rfl ?_
        refine g_get (w := wM q) hC 0 (v := .ref (q.2.2 4)) fl_X7_23 (show 0 < 17 from by decide) rfl rfl (gDec_at DX7_stave_0 35 rfl) ?_
        refine g_iload_n hC (gDec_at DX7_stave_0 36 rfl) rfl ?_
        refine g_aload_n hC (gDec_at DX7_stave_0 37 rfl) rfl ?_
        refine g_get (w := wM q) hC 0 (v := .ref (q.2.2 10)) fl_X7_44 (show 0 < 17 from by decide) rfl rfl (gDec_at DX7_stave_0 38 rfl) ?_
        refine g_iload_n hC (gDec_at DX7_stave_0 39 rfl) rfl ?_
        refine g_iald (w := wM q) hC 10 0 i (x := (M_6.1 10 i)) (show 10 < 17 from by decide) rfl rfl (by omega) (by decide) (by rw [gupd_get, if_neg (by omega), gupd_get, if_neg (by omega), h7.1 10 (by omega) (by omega)]) (gDec_at DX7_stave_0 40 rfl) ?_
        refine g_iast (w := wM q) hC 4 0 i (show 4 < 17 from by decide) rfl rfl rfl (by omega) (by decide) (gDec_at DX7_stave_0 41 rfl) ?_
        refine g_aload_n hC (gDec_at DX7_stave_0 42 rfl) rfl ?_
        refine g_get (w := wM q) hC 0 (v := .ref (q.2.2 5)) fl_X7_26 (show 0 < 17 from by decide) rfl rfl (gDec_at DX7_stave_0 43 rfl) ?_
        refine g_iload_n hC (gDec_at DX7_stave_0 44 rfl) rfl ?_
        refine g_iconst hC (gDec_at DX7_stave_0 45 rfl) (v := nI 0) (by decide) ?_
        refine g_iast (w := wM q) hC 5 0 i (show 5 < 17 from by decide) rfl rfl rfl (by omega) (by decide) (gDec_at DX7_stave_0 46 rfl) ?_
        refine g_aload_n hC (gDec_at DX7_stave_0 47 rfl) rfl ?_
        refine g_get (w := wM q) hC 0 (v := .ref (q.2.2 6)) fl_X7_29 (show 0 < 17 from by decide) rfl rfl (gDec_at DX7_stave_0 48 rfl) ?_
        refine g_iload_n hC (gDec_at DX7_stave_0 49 rfl) rfl ?_
        refine g_iconst hC (gDec_at DX7_stave_0 50 rfl) (v := nI 0) (by decide) ?_
        refine g_iast (w := wM q) hC 6 0 i (show 6 < 17 from by decide) rfl rfl rfl (by omega) (by decide) (gDec_at DX7_stave_0 51 rfl) ?_
        refine g_aload_n hC (gDec_at DX7_stave_0 52 rfl) rfl ?_
        refine g_get (w := wM q) hC 0 (v := .ref (q.2.2 7)) fl_X7_32 (show 0 < 17 from by decide) rfl rfl (gDec_at DX7_stave_0 53 rfl) ?_
        refine g_iload_n hC (gDec_at DX7_stave_0 54 rfl) rfl ?_
        refine g_iconst hC (gDec_at DX7_stave_0 55 rfl) (v := nI 0) (by decide) ?_
        refine g_iast (w := wM q) hC 7 0 i (show 7 < 17 from by decide) rfl rfl rfl (by omega) (by decide) (gDec_at DX7_stave_0 56 rfl) ?_
        refine g_iincN hC (gDec_at DX7_stave_0 57 rfl) rfl (by decide) (L' := [(1, .int (nI (i + 1))), (0, .ref (q.2.2 0))]) rfl ?_
        refine g_goto hC (gDec_at DX7_stave_0 58 rfl) 27 (by decide) ?_
        refine g_sub [1, 0] (L' := [(0, .ref (q.2.2 0)), (1, .int (nI (i + 1)))]) rfl ?_
        have h9 := ih (i + 1) _ (by omega) (by omega) (stI_s h7)
        exact h9
  exact g_sub [1, 0] rfl (loop27 (12 + 1 - 0) 0 _ (by omega) (by omega) ⟨fun c h0 _ => by funext z; rw [gupd_get, if_neg (by omega)], fun k hk => by rw [gupd_get, if_neg (by omega)], by rw [gupd_get, if_pos ⟨rfl, rfl⟩], fun j hj => absurd hj (Nat.not_lt_zero j)⟩)
