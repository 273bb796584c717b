/-! BowBend: the text judged, slots; Search -/
set_option maxRecDepth 100000 in
set_option maxHeartbeats 4000000 in
theorem c_X6_fault_noat (q : gQ3) {M : gM} {B : gB} (hI : cI M B) {tl : Nat} {tb : Nat → Nat} (hT : cT M tl tb) (hs : ∀ n, 1 ≤ n → n ≤ 6 → ¬ (4 * n < tl ∧ tb (4 * n) = 47)) {k : Nat} (hkt : k < tl) (hk : ¬ sfit tb 0 k) (hall : ∀ i, i < k → sfit tb 0 i) : gCt (wC q) yX6_fault cX6_fault 1 (some .int) 8 [.ref (q.2.2 0)] M (gR (some (.int (nI k))) M) := by
  refine gMet RX6 (by decide +kernel) rfl (Nat.le_of_ble_eq_true rfl) (fun X hC => ?_)
  have hC : gC X (wC q) cX6_fault 1 RX6 (some .int) 8 := hC
  show gG X (wC q) _ 1 M 0 [(0, .ref (q.2.2 0))] []
  refine g_aload_n hC (gDec_at DX6_fault_0 0 rfl) rfl ?_
  refine g_get (w := wC q) hC 0 (v := .ref (q.2.2 1)) fl_X6_10 (show 0 < 63 from by decide) rfl rfl (gDec_at DX6_fault_0 1 rfl) ?_
  refine g_callVd (w := wC q) hC 1 (c_X4_firstFault_no_at q hT (sl := 0) rfl hs hkt hk hall) vf_X4_firstFault ml_X6_45 (by decide) (show 1 < 63 from by decide) rfl rfl rfl rfl rfl (Nat.le_of_ble_eq_true rfl) (gDec_at DX6_fault_0 2 rfl) ?_
  refine g_iret hC (gDec_at DX6_fault_0 3 rfl) ?_
  exact ⟨rfl, rfl⟩

set_option maxRecDepth 100000 in
set_option maxHeartbeats 4000000 in
theorem c_X6_stave_noat (q : gQ3) {M : gM} {B : gB} (hI : cI M B) {tl : Nat} {tb : Nat → Nat} (hT : cT M tl tb) (hs : ∀ n, 1 ≤ n → n ≤ 6 → ¬ (4 * n < tl ∧ tb (4 * n) = 47)) {k : Nat} (hkt : k < tl) (hk : ¬ sfit tb 0 k) (hall : ∀ i, i < k → sfit tb 0 i) : gCt (wC q) yX6_stave cX6_stave 1 (some .int) 8 [.ref (q.2.2 0)] M (gR (some (.int (-3))) M) := by
  refine gMet RX6 (by decide +kernel) rfl (Nat.le_of_ble_eq_true rfl) (fun X hC => ?_)
  have hC : gC X (wC q) cX6_stave 1 RX6 (some .int) 8 := hC
  show gG X (wC q) _ 1 M 0 [(0, .ref (q.2.2 0))] []
  have ht := hT.2.1
  refine g_aload_n hC (gDec_at DX6_stave_0 0 rfl) rfl ?_
  refine g_get (w := wC q) hC 0 (v := .ref (q.2.2 1)) fl_X6_10 (show 0 < 63 from by decide) rfl rfl (gDec_at DX6_stave_0 1 rfl) ?_
  refine g_callVd (w := wC q) hC 1 (c_X4_firstFault_no_at q hT (sl := 0) rfl hs hkt hk hall) vf_X4_firstFault ml_X6_45 (by decide) (show 1 < 63 from by decide) rfl rfl rfl rfl rfl (Nat.le_of_ble_eq_true rfl) (gDec_at DX6_stave_0 2 rfl) ?_
  refine g_bipush hC (gDec_at DX6_stave_0 3 rfl) (v := -9) (by decide) ?_
  refine g_icmp_eq hC (gDec_at DX6_stave_0 4 rfl) 15 (by decide) (fun h => absurd h (nI_n9 (by omega))) (fun h => ?_)
  refine g_bipush hC (gDec_at DX6_stave_0 5 rfl) (v := -3) (by decide) ?_
  refine g_iret hC (gDec_at DX6_stave_0 6 rfl) ?_
  exact ⟨rfl, rfl⟩

set_option maxRecDepth 100000 in
set_option maxHeartbeats 4000000 in
theorem c_X6_fault_noend (q : gQ3) {M : gM} {B : gB} (hI : cI M B) {tl : Nat} {tb : Nat → Nat} (hT : cT M tl tb) (hs : ∀ n, 1 ≤ n → n ≤ 6 → ¬ (4 * n < tl ∧ tb (4 * n) = 47)) (hall : ∀ i, i < tl → sfit tb 0 i) : gCt (wC q) yX6_fault cX6_fault 1 (some .int) 8 [.ref (q.2.2 0)] M (gR (some (.int (nI tl))) M) := by
  refine gMet RX6 (by decide +kernel) rfl (Nat.le_of_ble_eq_true rfl) (fun X hC => ?_)
  have hC : gC X (wC q) cX6_fault 1 RX6 (some .int) 8 := hC
  show gG X (wC q) _ 1 M 0 [(0, .ref (q.2.2 0))] []
  refine g_aload_n hC (gDec_at DX6_fault_0 0 rfl) rfl ?_
  refine g_get (w := wC q) hC 0 (v := .ref (q.2.2 1)) fl_X6_10 (show 0 < 63 from by decide) rfl rfl (gDec_at DX6_fault_0 1 rfl) ?_
  refine g_callVd (w := wC q) hC 1 (c_X4_firstFault_no q hT (sl := 0) rfl hs hall) vf_X4_firstFault ml_X6_45 (by decide) (show 1 < 63 from by decide) rfl rfl rfl rfl rfl (Nat.le_of_ble_eq_true rfl) (gDec_at DX6_fault_0 2 rfl) ?_
  refine g_iret hC (gDec_at DX6_fault_0 3 rfl) ?_
  exact ⟨rfl, rfl⟩

set_option maxRecDepth 100000 in
set_option maxHeartbeats 4000000 in
theorem c_X6_stave_noend (q : gQ3) {M : gM} {B : gB} (hI : cI M B) {tl : Nat} {tb : Nat → Nat} (hT : cT M tl tb) (hs : ∀ n, 1 ≤ n → n ≤ 6 → ¬ (4 * n < tl ∧ tb (4 * n) = 47)) (hall : ∀ i, i < tl → sfit tb 0 i) : gCt (wC q) yX6_stave cX6_stave 1 (some .int) 8 [.ref (q.2.2 0)] M (gR (some (.int (-3))) M) := by
  refine gMet RX6 (by decide +kernel) rfl (Nat.le_of_ble_eq_true rfl) (fun X hC => ?_)
  have hC : gC X (wC q) cX6_stave 1 RX6 (some .int) 8 := hC
  show gG X (wC q) _ 1 M 0 [(0, .ref (q.2.2 0))] []
  have ht := hT.2.1
  refine g_aload_n hC (gDec_at DX6_stave_0 0 rfl) rfl ?_
  refine g_get (w := wC q) hC 0 (v := .ref (q.2.2 1)) fl_X6_10 (show 0 < 63 from by decide) rfl rfl (gDec_at DX6_stave_0 1 rfl) ?_
  refine g_callVd (w := wC q) hC 1 (c_X4_firstFault_no q hT (sl := 0) rfl hs hall) vf_X4_firstFault ml_X6_45 (by decide) (show 1 < 63 from by decide) rfl rfl rfl rfl rfl (Nat.le_of_ble_eq_true rfl) (gDec_at DX6_stave_0 2 rfl) ?_
  refine g_bipush hC (gDec_at DX6_stave_0 3 rfl) (v := -9) (by decide) ?_
  refine g_icmp_eq hC (gDec_at DX6_stave_0 4 rfl) 15 (by decide) (fun h => absurd h (nI_n9 (by omega))) (fun h => ?_)
  refine g_bipush hC (gDec_at DX6_stave_0 5 rfl) (v := -3) (by decide) ?_
  refine g_iret hC (gDec_at DX6_stave_0 6 rfl) ?_
  exact ⟨rfl, rfl⟩

set_option maxRecDepth 100000 in
set_option maxHeartbeats 4000000 in
theorem c_X6_fault_at (q : gQ3) {M : gM} {B : gB} (hI : cI M B) {tl : Nat} {tb : Nat → Nat} (hT : cT M tl tb) {sl : Nat} (h0 : 1 ≤ sl) (h6 : sl ≤ 6) (hs : 4 * sl < tl ∧ tb (4 * sl) = 47) (hmin : ∀ n, 1 ≤ n → n < sl → ¬ (4 * n < tl ∧ tb (4 * n) = 47)) {k : Nat} (hkt : k < tl) (hk : ¬ sfit tb sl k) (hall : ∀ i, i < k → sfit tb sl i) : gCt (wC q) yX6_fault cX6_fault 1 (some .int) 8 [.ref (q.2.2 0)] M (gR (some (.int (nI k))) M) := by
  refine gMet RX6 (by decide +kernel) rfl (Nat.le_of_ble_eq_true rfl) (fun X hC => ?_)
  have hC : gC X (wC q) cX6_fault 1 RX6 (some .int) 8 := hC
  show gG X (wC q) _ 1 M 0 [(0, .ref (q.2.2 0))] []
  refine g_aload_n hC (gDec_at DX6_fault_0 0 rfl) rfl ?_
  refine g_get (w := wC q) hC 0 (v := .ref (q.2.2 1)) fl_X6_10 (show 0 < 63 from by decide) rfl rfl (gDec_at DX6_fault_0 1 rfl) ?_
  refine g_callVd (w := wC q) hC 1 (c_X4_firstFault_at q hT h0 h6 hs hmin hkt hk hall) vf_X4_firstFault ml_X6_45 (by decide) (show 1 < 63 from by decide) rfl rfl rfl rfl rfl (Nat.le_of_ble_eq_true rfl) (gDec_at DX6_fault_0 2 rfl) ?_
  refine g_iret hC (gDec_at DX6_fault_0 3 rfl) ?_
  exact ⟨rfl, rfl⟩

set_option maxRecDepth 100000 in
set_option maxHeartbeats 4000000 in
theorem c_X6_stave_at (q : gQ3) {M : gM} {B : gB} (hI : cI M B) {tl : Nat} {tb : Nat → Nat} (hT : cT M tl tb) {sl : Nat} (h0 : 1 ≤ sl) (h6 : sl ≤ 6) (hs : 4 * sl < tl ∧ tb (4 * sl) = 47) (hmin : ∀ n, 1 ≤ n → n < sl → ¬ (4 * n < tl ∧ tb (4 * n) = 47)) {k : Nat} (hkt : k < tl) (hk : ¬ sfit tb sl k) (hall : ∀ i, i < k → sfit tb sl i) : gCt (wC q) yX6_stave cX6_stave 1 (some .int) 8 [.ref (q.2.2 0)] M (gR (some (.int (-3))) M) := by
  refine gMet RX6 (by decide +kernel) rfl (Nat.le_of_ble_eq_true rfl) (fun X hC => ?_)
  have hC : gC X (wC q) cX6_stave 1 RX6 (some .int) 8 := hC
  show gG X (wC q) _ 1 M 0 [(0, .ref (q.2.2 0))] []
  have ht := hT.2.1
  refine g_aload_n hC (gDec_at DX6_stave_0 0 rfl) rfl ?_
  refine g_get (w := wC q) hC 0 (v := .ref (q.2.2 1)) fl_X6_10 (show 0 < 63 from by decide) rfl rfl (gDec_at DX6_stave_0 1 rfl) ?_
  refine g_callVd (w := wC q) hC 1 (c_X4_firstFault_at q hT h0 h6 hs hmin hkt hk hall) vf_X4_firstFault ml_X6_45 (by decide) (show 1 < 63 from by decide) rfl rfl rfl rfl rfl (Nat.le_of_ble_eq_true rfl) (gDec_at DX6_stave_0 2 rfl) ?_
  refine g_bipush hC (gDec_at DX6_stave_0 3 rfl) (v := -9) (by decide) ?_
  refine g_icmp_eq hC (gDec_at DX6_stave_0 4 rfl) 15 (by decide) (fun h => absurd h (nI_n9 (by omega))) (fun h => ?_)
  refine g_bipush hC (gDec_at DX6_stave_0 5 rfl) (v := -3) (by decide) ?_
  refine g_iret hC (gDec_at DX6_stave_0 6 rfl) ?_
  exact ⟨rfl, rfl⟩

set_option maxRecDepth 100000 in
set_option maxHeartbeats 4000000 in
theorem c_X6_fault_short (q : gQ3) {M : gM} {B : gB} (hI : cI M B) {tl : Nat} {tb : Nat → Nat} (hT : cT M tl tb) {sl : Nat} (h0 : 1 ≤ sl) (h6 : sl ≤ 6) (hs : 4 * sl < tl ∧ tb (4 * sl) = 47) (hmin : ∀ n, 1 ≤ n → n < sl → ¬ (4 * n < tl ∧ tb (4 * n) = 47)) (hall : ∀ i, i < tl → sfit tb sl i) (htl : ¬ tl = 8 * sl + 1) : gCt (wC q) yX6_fault cX6_fault 1 (some .int) 8 [.ref (q.2.2 0)] M (gR (some (.int (nI tl))) M) := by
  refine gMet RX6 (by decide +kernel) rfl (Nat.le_of_ble_eq_true rfl) (fun X hC => ?_)
  have hC : gC X (wC q) cX6_fault 1 RX6 (some .int) 8 := hC
  show gG X (wC q) _ 1 M 0 [(0, .ref (q.2.2 0))] []
  refine g_aload_n hC (gDec_at DX6_fault_0 0 rfl) rfl ?_
  refine g_get (w := wC q) hC 0 (v := .ref (q.2.2 1)) fl_X6_10 (show 0 < 63 from by decide) rfl rfl (gDec_at DX6_fault_0 1 rfl) ?_
  refine g_callVd (w := wC q) hC 1 (c_X4_firstFault_short q hT h0 h6 hs hmin hall htl) vf_X4_firstFault ml_X6_45 (by decide) (show 1 < 63 from by decide) rfl rfl rfl rfl rfl (Nat.le_of_ble_eq_true rfl) (gDec_at DX6_fault_0 2 rfl) ?_
  refine g_iret hC (gDec_at DX6_fault_0 3 rfl) ?_
  exact ⟨rfl, rfl⟩

set_option maxRecDepth 100000 in
set_option maxHeartbeats 4000000 in
theorem c_X6_stave_short (q : gQ3) {M : gM} {B : gB} (hI : cI M B) {tl : Nat} {tb : Nat → Nat} (hT : cT M tl tb) {sl : Nat} (h0 : 1 ≤ sl) (h6 : sl ≤ 6) (hs : 4 * sl < tl ∧ tb (4 * sl) = 47) (hmin : ∀ n, 1 ≤ n → n < sl → ¬ (4 * n < tl ∧ tb (4 * n) = 47)) (hall : ∀ i, i < tl → sfit tb sl i) (htl : ¬ tl = 8 * sl + 1) : gCt (wC q) yX6_stave cX6_stave 1 (some .int) 8 [.ref (q.2.2 0)] M (gR (some (.int (-3))) M) := by
  refine gMet RX6 (by decide +kernel) rfl (Nat.le_of_ble_eq_true rfl) (fun X hC => ?_)
  have hC : gC X (wC q) cX6_stave 1 RX6 (some .int) 8 := hC
  show gG X (wC q) _ 1 M 0 [(0, .ref (q.2.2 0))] []
  have ht := hT.2.1
  refine g_aload_n hC (gDec_at DX6_stave_0 0 rfl) rfl ?_
  refine g_get (w := wC q) hC 0 (v := .ref (q.2.2 1)) fl_X6_10 (show 0 < 63 from by decide) rfl rfl (gDec_at DX6_stave_0 1 rfl) ?_
  refine g_callVd (w := wC q) hC 1 (c_X4_firstFault_short q hT h0 h6 hs hmin hall htl) vf_X4_firstFault ml_X6_45 (by decide) (show 1 < 63 from by decide) rfl rfl rfl rfl rfl (Nat.le_of_ble_eq_true rfl) (gDec_at DX6_stave_0 2 rfl) ?_
  refine g_bipush hC (gDec_at DX6_stave_0 3 rfl) (v := -9) (by decide) ?_
  refine g_icmp_eq hC (gDec_at DX6_stave_0 4 rfl) 15 (by decide) (fun h => absurd h (nI_n9 (by omega))) (fun h => ?_)
  refine g_bipush hC (gDec_at DX6_stave_0 5 rfl) (v := -3) (by decide) ?_
  refine g_iret hC (gDec_at DX6_stave_0 6 rfl) ?_
  exact ⟨rfl, rfl⟩

set_option maxRecDepth 100000 in
set_option maxHeartbeats 4000000 in
theorem c_X6_fault_good (q : gQ3) {M : gM} {B : gB} (hI : cI M B) {tl : Nat} {tb : Nat → Nat} (hT : cT M tl tb) {sl : Nat} (h0 : 1 ≤ sl) (h6 : sl ≤ 6) (hs : 4 * sl < tl ∧ tb (4 * sl) = 47) (hmin : ∀ n, 1 ≤ n → n < sl → ¬ (4 * n < tl ∧ tb (4 * n) = 47)) (hall : ∀ i, i < tl → sfit tb sl i) (htl : tl = 8 * sl + 1) : gCt (wC q) yX6_fault cX6_fault 1 (some .int) 8 [.ref (q.2.2 0)] M (gR (some (.int (-9))) M) := by
  refine gMet RX6 (by decide +kernel) rfl (Nat.le_of_ble_eq_true rfl) (fun X hC => ?_)
  have hC : gC X (wC q) cX6_fault 1 RX6 (some .int) 8 := hC
  show gG X (wC q) _ 1 M 0 [(0, .ref (q.2.2 0))] []
  refine g_aload_n hC (gDec_at DX6_fault_0 0 rfl) rfl ?_
  refine g_get (w := wC q) hC 0 (v := .ref (q.2.2 1)) fl_X6_10 (show 0 < 63 from by decide) rfl rfl (gDec_at DX6_fault_0 1 rfl) ?_
  refine g_callVd (w := wC q) hC 1 (c_X4_firstFault_good q hT h0 h6 hs hmin hall htl) vf_X4_firstFault ml_X6_45 (by decide) (show 1 < 63 from by decide) rfl rfl rfl rfl rfl (Nat.le_of_ble_eq_true rfl) (gDec_at DX6_fault_0 2 rfl) ?_
  refine g_iret hC (gDec_at DX6_fault_0 3 rfl) ?_
  exact ⟨rfl, rfl⟩

set_option maxRecDepth 100000 in
set_option maxHeartbeats 4000000 in
theorem c_X6_stave_good (q : gQ3) {M : gM} {B : gB} (hI : cI M B) {tl : Nat} {tb : Nat → Nat} (hT : cT M tl tb) {sl : Nat} (h0 : 1 ≤ sl) (h6 : sl ≤ 6) (hs : 4 * sl < tl ∧ tb (4 * sl) = 47) (hmin : ∀ n, 1 ≤ n → n < sl → ¬ (4 * n < tl ∧ tb (4 * n) = 47)) (hall : ∀ i, i < tl → sfit tb sl i) (htl : tl = 8 * sl + 1) : gCt (wC q) yX6_stave cX6_stave 1 (some .int) 8 [.ref (q.2.2 0)] M (fun v M' => v = some (.int (nI sl)) ∧ cI M' (mkB B tb sl) ∧ sameO (fun i => 9 ≤ i ∧ i < 27) M M') := by
  refine gMet RX6 (by decide +kernel) rfl (Nat.le_of_ble_eq_true rfl) (fun X hC => ?_)
  have hC : gC X (wC q) cX6_stave 1 RX6 (some .int) 8 := hC
  show gG X (wC q) _ 1 M 0 [(0, .ref (q.2.2 0))] []
  refine g_aload_n hC (gDec_at DX6_stave_0 0 rfl) rfl ?_
  refine g_get (w := wC q) hC 0 (v := .ref (q.2.2 1)) fl_X6_10 (show 0 < 63 from by decide) rfl rfl (gDec_at DX6_stave_0 1 rfl) ?_
  refine g_callVd (w := wC q) hC 1 (c_X4_firstFault_good q hT h0 h6 hs hmin hall htl) vf_X4_firstFault ml_X6_45 (by decide) (show 1 < 63 from by decide) rfl rfl rfl rfl rfl (Nat.le_of_ble_eq_true rfl) (gDec_at DX6_stave_0 2 rfl) ?_
  refine g_bipush hC (gDec_at DX6_stave_0 3 rfl) (v := -9) (by decide) ?_
  refine g_icmp_eq hC (gDec_at DX6_stave_0 4 rfl) 15 (by decide) (fun h => ?_) (fun h => absurd rfl h)
  refine g_aload_n hC (gDec_at DX6_stave_0 7 rfl) rfl ?_
  refine g_get (w := wC q) hC 0 (v := .ref (q.2.2 9)) fl_X6_19 (show 0 < 63 from by decide) rfl rfl (gDec_at DX6_stave_0 8 rfl) ?_
  refine g_aload_n hC (gDec_at DX6_stave_0 9 rfl) rfl ?_
  refine g_get (w := wC q) hC 0 (v := .ref (q.2.2 1)) fl_X6_10 (show 0 < 63 from by decide) rfl rfl (gDec_at DX6_stave_0 10 rfl) ?_
  refine g_callV (w := wC q) hC (i := 9) (c_X0_makeAnew q hI hT h0 h6 htl hs hmin hall) vf_X0_makeAnew ml_X6_49 (by decide) (show 9 < 63 from by decide) rfl rfl rfl rfl rfl (Nat.le_of_ble_eq_true rfl) (gDec_at DX6_stave_0 11 rfl) (fun v_23 M_23 hq_23 => ?_)
  obtain ⟨rfl, hI2, hs2⟩ := hq_23
  refine g_aload_n hC (gDec_at DX6_stave_0 12 rfl) rfl ?_
  refine g_get (w := wC q) hC 0 (v := .ref (q.2.2 9)) fl_X6_19 (show 0 < 63 from by decide) rfl rfl (gDec_at DX6_stave_0 13 rfl) ?_
  refine g_get (w := wC q) hC 9 (v := .int (nI sl)) fl_X6_53 (show 9 < 63 from by decide) rfl (g_sv (ci_many hI2)) (gDec_at DX6_stave_0 14 rfl) ?_
  refine g_iret hC (gDec_at DX6_stave_0 15 rfl) ?_
  exact ⟨rfl, hI2, hs2⟩

set_option maxRecDepth 100000 in
set_option maxHeartbeats 4000000 in
theorem c_X6_slotNumbered_0 (q : gQ3) {M : gM} : gCt (wC q) yX6_slotNumbered cX6_slotNumbered 2 (some (.object "BowBend$Slot")) 0 [.ref (q.2.2 0), .int (nI 0)] M (gR (some (.ref (q.2.2 7))) M) := by
  refine gMet RX6 (by decide +kernel) rfl (Nat.le_of_ble_eq_true rfl) (fun X hC => ?_)
  have hC : gC X (wC q) cX6_slotNumbered 2 RX6 (some (.object "BowBend$Slot")) 0 := hC
  show gG X (wC q) _ 2 M 0 [(0, .ref (q.2.2 0)), (1, .int (nI 0))] []
  refine g_iload_n hC (gDec_at DX6_slotNumbered_0 0 rfl) rfl ?_
  refine g_if_ltN hC (by omega) (gDec_at DX6_slotNumbered_0 1 rfl) ?_ 22 (by decide)
  refine g_iload_n hC (gDec_at DX6_slotNumbered_0 2 rfl) rfl ?_
  refine g_aload_n hC (gDec_at DX6_slotNumbered_0 3 rfl) rfl ?_
  refine g_get (w := wC q) hC 0 (v := .ref (q.2.2 6)) fl_X6_33 (show 0 < 63 from by decide) rfl rfl (gDec_at DX6_slotNumbered_0 4 rfl) ?_
  refine g_alen (w := wC q) hC 6 4 (show 6 < 63 from by decide) rfl rfl (gDec_at DX6_slotNumbered_0 5 rfl) ?_
  refine g_icmp_geN hC (by omega) (by omega) (gDec_at DX6_slotNumbered_0 6 rfl) 22 (by decide) (fun h10 => ?_) (fun h10 => ?_)
  · skip
    exact absurd (show 2 ≤ 0 from h10) (by decide)
  · skip
    refine g_aload_n hC (gDec_at DX6_slotNumbered_0 7 rfl) rfl ?_
    refine g_get (w := wC q) hC 0 (v := .ref (q.2.2 6)) fl_X6_33 (show 0 < 63 from by decide) rfl rfl (gDec_at DX6_slotNumbered_0 8 rfl) ?_
    refine g_iload_n hC (gDec_at DX6_slotNumbered_0 9 rfl) rfl ?_
    refine g_aald (w := wC q) hC 6 4 0 (a := q.2.2 7) (show 6 < 63 from by decide) rfl rfl (by omega) (by decide) rfl (gDec_at DX6_slotNumbered_0 10 rfl) ?_
    refine g_goto hC (gDec_at DX6_slotNumbered_0 11 rfl) 23 (by decide) ?_
    refine g_aret hC (Or.inr ⟨_, rfl⟩) (gDec_at DX6_slotNumbered_0 13 rfl) ?_
    exact ⟨rfl, rfl⟩

set_option maxRecDepth 100000 in
set_option maxHeartbeats 4000000 in
theorem c_X6_slotNumbered_1 (q : gQ3) {M : gM} : gCt (wC q) yX6_slotNumbered cX6_slotNumbered 2 (some (.object "BowBend$Slot")) 0 [.ref (q.2.2 0), .int (nI 1)] M (gR (some (.ref (q.2.2 8))) M) := by
  refine gMet RX6 (by decide +kernel) rfl (Nat.le_of_ble_eq_true rfl) (fun X hC => ?_)
  have hC : gC X (wC q) cX6_slotNumbered 2 RX6 (some (.object "BowBend$Slot")) 0 := hC
  show gG X (wC q) _ 2 M 0 [(0, .ref (q.2.2 0)), (1, .int (nI 1))] []
  refine g_iload_n hC (gDec_at DX6_slotNumbered_0 0 rfl) rfl ?_
  refine g_if_ltN hC (by omega) (gDec_at DX6_slotNumbered_0 1 rfl) ?_ 22 (by decide)
  refine g_iload_n hC (gDec_at DX6_slotNumbered_0 2 rfl) rfl ?_
  refine g_aload_n hC (gDec_at DX6_slotNumbered_0 3 rfl) rfl ?_
  refine g_get (w := wC q) hC 0 (v := .ref (q.2.2 6)) fl_X6_33 (show 0 < 63 from by decide) rfl rfl (gDec_at DX6_slotNumbered_0 4 rfl) ?_
  refine g_alen (w := wC q) hC 6 4 (show 6 < 63 from by decide) rfl rfl (gDec_at DX6_slotNumbered_0 5 rfl) ?_
  refine g_icmp_geN hC (by omega) (by omega) (gDec_at DX6_slotNumbered_0 6 rfl) 22 (by decide) (fun h10 => ?_) (fun h10 => ?_)
  · skip
    exact absurd (show 2 ≤ 1 from h10) (by decide)
  · skip
    refine g_aload_n hC (gDec_at DX6_slotNumbered_0 7 rfl) rfl ?_
    refine g_get (w := wC q) hC 0 (v := .ref (q.2.2 6)) fl_X6_33 (show 0 < 63 from by decide) rfl rfl (gDec_at DX6_slotNumbered_0 8 rfl) ?_
    refine g_iload_n hC (gDec_at DX6_slotNumbered_0 9 rfl) rfl ?_
    refine g_aald (w := wC q) hC 6 4 1 (a := q.2.2 8) (show 6 < 63 from by decide) rfl rfl (by omega) (by decide) rfl (gDec_at DX6_slotNumbered_0 10 rfl) ?_
    refine g_goto hC (gDec_at DX6_slotNumbered_0 11 rfl) 23 (by decide) ?_
    refine g_aret hC (Or.inr ⟨_, rfl⟩) (gDec_at DX6_slotNumbered_0 13 rfl) ?_
    exact ⟨rfl, rfl⟩

set_option maxRecDepth 100000 in
set_option maxHeartbeats 4000000 in
theorem c_X6_slotNumbered_out (q : gQ3) {M : gM} {x : Int32} (hx : ¬ gin x 0 1) : gCt (wC q) yX6_slotNumbered cX6_slotNumbered 2 (some (.object "BowBend$Slot")) 0 [.ref (q.2.2 0), .int x] M (gR (some .null) M) := by
  refine gMet RX6 (by decide +kernel) rfl (Nat.le_of_ble_eq_true rfl) (fun X hC => ?_)
  have hC : gC X (wC q) cX6_slotNumbered 2 RX6 (some (.object "BowBend$Slot")) 0 := hC
  show gG X (wC q) _ 2 M 0 [(0, .ref (q.2.2 0)), (1, .int x)] []
  refine g_iload_n hC (gDec_at DX6_slotNumbered_0 0 rfl) rfl ?_
  refine g_if_lt hC (gDec_at DX6_slotNumbered_0 1 rfl) 22 (by decide) (fun h1 => ?_) (fun h1 => ?_)
  · skip
    refine g_null hC (gDec_at DX6_slotNumbered_0 12 rfl) ?_
    refine g_aret hC (Or.inl rfl) (gDec_at DX6_slotNumbered_0 13 rfl) ?_
    exact ⟨rfl, rfl⟩
  · skip
    refine g_iload_n hC (gDec_at DX6_slotNumbered_0 2 rfl) rfl ?_
    refine g_aload_n hC (gDec_at DX6_slotNumbered_0 3 rfl) rfl ?_
    refine g_get (w := wC q) hC 0 (v := .ref (q.2.2 6)) fl_X6_33 (show 0 < 63 from by decide) rfl rfl (gDec_at DX6_slotNumbered_0 4 rfl) ?_
    refine g_alen (w := wC q) hC 6 4 (show 6 < 63 from by decide) rfl rfl (gDec_at DX6_slotNumbered_0 5 rfl) ?_
    refine g_icmp_ge hC (gDec_at DX6_slotNumbered_0 6 rfl) 22 (by decide) (fun h10 => ?_) (fun h10 => ?_)
    · skip
      refine g_null hC (gDec_at DX6_slotNumbered_0 12 rfl) ?_
      refine g_aret hC (Or.inl rfl) (gDec_at DX6_slotNumbered_0 13 rfl) ?_
      exact ⟨rfl, rfl⟩
    · skip
      exact absurd (show gin x 0 1 from by rw [lt_I, zI] at h1; rw [le_I, nI_toInt (by omega)] at h10; unfold gin; omega) hx

set_option maxRecDepth 100000 in
set_option maxHeartbeats 4000000 in
theorem c_X6_keep_out (q : gQ3) {M : gM} {B : gB} (hI : cI M B) {x0 : Int32} (hx0 : ¬ gin x0 0 1) : gCt (wC q) yX6_keep cX6_keep 3 (some .int) 8 [.ref (q.2.2 0), .int x0] M (gR (some (.int (-1))) M) := by
  refine gMet RX6 (by decide +kernel) rfl (Nat.le_of_ble_eq_true rfl) (fun X hC => ?_)
  have hC : gC X (wC q) cX6_keep 3 RX6 (some .int) 8 := hC
  show gG X (wC q) _ 3 M 0 [(0, .ref (q.2.2 0)), (1, .int x0)] []
  refine g_aload_n hC (gDec_at DX6_keep_0 0 rfl) rfl ?_
  refine g_iload_n hC (gDec_at DX6_keep_0 1 rfl) rfl ?_
  refine g_callVd (w := wC q) hC 0 (c_X6_slotNumbered_out q hx0) vf_X6_slotNumbered ml_X6_221 (by decide) (show 0 < 63 from by decide) rfl rfl rfl rfl rfl (Nat.le_of_ble_eq_true rfl) (gDec_at DX6_keep_0 2 rfl) ?_
  refine g_astore_nN hC (gDec_at DX6_keep_0 3 rfl) (by decide) (L' := [(2, .null), (0, .ref (q.2.2 0)), (1, .int x0)]) rfl ?_
  refine g_aload_nN hC (gDec_at DX6_keep_0 4 rfl) rfl ?_
  refine g_ifnonnullN hC (gDec_at DX6_keep_0 5 rfl) ?_ 12 (by decide)
  refine g_iconst hC (gDec_at DX6_keep_0 6 rfl) (v := -1) (by decide) ?_
  refine g_iret hC (gDec_at DX6_keep_0 7 rfl) ?_
  exact ⟨rfl, rfl⟩

set_option maxRecDepth 100000 in
set_option maxHeartbeats 4000000 in
theorem c_X6_again_out (q : gQ3) {M : gM} {B : gB} (hI : cI M B) {x0 : Int32} (hx0 : ¬ gin x0 0 1) : gCt (wC q) yX6_again cX6_again 3 (some .int) 8 [.ref (q.2.2 0), .int x0] M (gR (some (.int (-1))) M) := by
  refine gMet RX6 (by decide +kernel) rfl (Nat.le_of_ble_eq_true rfl) (fun X hC => ?_)
  have hC : gC X (wC q) cX6_again 3 RX6 (some .int) 8 := hC
  show gG X (wC q) _ 3 M 0 [(0, .ref (q.2.2 0)), (1, .int x0)] []
  refine g_aload_n hC (gDec_at DX6_again_0 0 rfl) rfl ?_
  refine g_iload_n hC (gDec_at DX6_again_0 1 rfl) rfl ?_
  refine g_callVd (w := wC q) hC 0 (c_X6_slotNumbered_out q hx0) vf_X6_slotNumbered ml_X6_221 (by decide) (show 0 < 63 from by decide) rfl rfl rfl rfl rfl (Nat.le_of_ble_eq_true rfl) (gDec_at DX6_again_0 2 rfl) ?_
  refine g_astore_nN hC (gDec_at DX6_again_0 3 rfl) (by decide) (L' := [(2, .null), (0, .ref (q.2.2 0)), (1, .int x0)]) rfl ?_
  refine g_aload_nN hC (gDec_at DX6_again_0 4 rfl) rfl ?_
  refine g_ifnonnullN hC (gDec_at DX6_again_0 5 rfl) ?_ 12 (by decide)
  refine g_iconst hC (gDec_at DX6_again_0 6 rfl) (v := -1) (by decide) ?_
  refine g_iret hC (gDec_at DX6_again_0 7 rfl) ?_
  exact ⟨rfl, rfl⟩

set_option maxRecDepth 100000 in
set_option maxHeartbeats 4000000 in
theorem c_X6_keep_0 (q : gQ3) {M : gM} {B : gB} (hI : cI M B) : gCt (wC q) yX6_keep cX6_keep 3 (some .int) 8 [.ref (q.2.2 0), .int (nI 0)] M (fun v M' => v = some (.int (nI (B 9 0))) ∧ ∃ M1, cpI 1 0 M M1 3 12 ∧ M' = gupd M1 7 1 1) := by
  refine gMet RX6 (by decide +kernel) rfl (Nat.le_of_ble_eq_true rfl) (fun X hC => ?_)
  have hC : gC X (wC q) cX6_keep 3 RX6 (some .int) 8 := hC
  show gG X (wC q) _ 3 M 0 [(0, .ref (q.2.2 0)), (1, .int (nI 0))] []
  refine g_aload_n hC (gDec_at DX6_keep_0 0 rfl) rfl ?_
  refine g_iload_n hC (gDec_at DX6_keep_0 1 rfl) rfl ?_
  refine g_callVd (w := wC q) hC 0 (c_X6_slotNumbered_0 q) vf_X6_slotNumbered ml_X6_221 (by decide) (show 0 < 63 from by decide) rfl rfl rfl rfl rfl (Nat.le_of_ble_eq_true rfl) (gDec_at DX6_keep_0 2 rfl) ?_
  refine g_astore_n hC (gDec_at DX6_keep_0 3 rfl) (by decide) (L' := [(2, .ref (q.2.2 7)), (0, .ref (q.2.2 0)), (1, .int (nI 0))]) rfl ?_
  refine g_aload_n hC (gDec_at DX6_keep_0 4 rfl) rfl ?_
  refine g_ifnonnull hC (gDec_at DX6_keep_0 5 rfl) 12 (by decide) ?_
  refine g_aload_n hC (gDec_at DX6_keep_0 8 rfl) rfl ?_
  refine g_get (w := wC q) hC 7 (v := .ref (q.2.2 27)) fl_X6_225 (show 7 < 63 from by decide) rfl rfl (gDec_at DX6_keep_0 9 rfl) ?_
  refine g_aload_n hC (gDec_at DX6_keep_0 10 rfl) rfl ?_
  refine g_get (w := wC q) hC 0 (v := .ref (q.2.2 9)) fl_X6_19 (show 0 < 63 from by decide) rfl rfl (gDec_at DX6_keep_0 11 rfl) ?_
  refine g_callV (w := wC q) hC (i := 27) (c_X0_copyFrom q (b := 1) (b2 := 0) (by decide) (by decide) (by decide) hI.1) vf_X0_copyFrom ml_X6_226 (by decide) (show 27 < 63 from by decide) rfl rfl rfl rfl rfl (Nat.le_of_ble_eq_true rfl) (gDec_at DX6_keep_0 12 rfl) (fun v_20 M_20 hq_20 => ?_)
  obtain ⟨rfl, hc⟩ := hq_20
  refine g_aload_n hC (gDec_at DX6_keep_0 13 rfl) rfl ?_
  refine g_iconst hC (gDec_at DX6_keep_0 14 rfl) (v := nI 1) (by decide) ?_
  refine g_putZ (w := wC q) hC 7 (Or.inr rfl) fl_X6_230 fp_3_1 (show 7 < 63 from by decide) rfl (Nat.le_of_ble_eq_true rfl) rfl rfl (gDec_at DX6_keep_0 15 rfl) ?_
  refine g_aload_n hC (gDec_at DX6_keep_0 16 rfl) rfl ?_
  refine g_get (w := wC q) hC 0 (v := .ref (q.2.2 9)) fl_X6_19 (show 0 < 63 from by decide) rfl rfl (gDec_at DX6_keep_0 17 rfl) ?_
  refine g_get (w := wC q) hC 9 (v := .int (nI (B 9 0))) fl_X6_53 (show 9 < 63 from by decide) rfl (g_sv (by rw [gupd_get, if_neg (by omega), hc.2.2.2.2.2 9 (by omega)]; exact ci_many hI)) (gDec_at DX6_keep_0 18 rfl) ?_
  refine g_iret hC (gDec_at DX6_keep_0 19 rfl) ?_
  exact ⟨rfl, _, hc, rfl⟩

set_option maxRecDepth 100000 in
set_option maxHeartbeats 4000000 in
theorem c_X6_again_0_no (q : gQ3) {M : gM} {B : gB} (hI : cI M B) (hk0 : M.1 7 1 = nI 0) : gCt (wC q) yX6_again cX6_again 3 (some .int) 8 [.ref (q.2.2 0), .int (nI 0)] M (gR (some (.int (-3))) M) := by
  refine gMet RX6 (by decide +kernel) rfl (Nat.le_of_ble_eq_true rfl) (fun X hC => ?_)
  have hC : gC X (wC q) cX6_again 3 RX6 (some .int) 8 := hC
  show gG X (wC q) _ 3 M 0 [(0, .ref (q.2.2 0)), (1, .int (nI 0))] []
  refine g_aload_n hC (gDec_at DX6_again_0 0 rfl) rfl ?_
  refine g_iload_n hC (gDec_at DX6_again_0 1 rfl) rfl ?_
  refine g_callVd (w := wC q) hC 0 (c_X6_slotNumbered_0 q) vf_X6_slotNumbered ml_X6_221 (by decide) (show 0 < 63 from by decide) rfl rfl rfl rfl rfl (Nat.le_of_ble_eq_true rfl) (gDec_at DX6_again_0 2 rfl) ?_
  refine g_astore_n hC (gDec_at DX6_again_0 3 rfl) (by decide) (L' := [(2, .ref (q.2.2 7)), (0, .ref (q.2.2 0)), (1, .int (nI 0))]) rfl ?_
  refine g_aload_n hC (gDec_at DX6_again_0 4 rfl) rfl ?_
  refine g_ifnonnull hC (gDec_at DX6_again_0 5 rfl) 12 (by decide) ?_
  refine g_aload_n hC (gDec_at DX6_again_0 8 rfl) rfl ?_
  refine g_get (w := wC q) hC 7 (v := .int (nI 0)) fl_X6_230 (show 7 < 63 from by decide) rfl (g_sv hk0) (gDec_at DX6_again_0 9 rfl) ?_
  refine g_if_neN hC (by decide) (gDec_at DX6_again_0 10 rfl) 22 (by decide) (fun h => absurd h (by decide)) (fun h => ?_)
  refine g_bipush hC (gDec_at DX6_again_0 11 rfl) (v := -3) (by decide) ?_
  refine g_iret hC (gDec_at DX6_again_0 12 rfl) ?_
  exact ⟨rfl, rfl⟩

set_option maxRecDepth 100000 in
set_option maxHeartbeats 4000000 in
theorem c_X6_again_0_ok (q : gQ3) {M : gM} {B : gB} (hI : cI M B) (hk0 : M.1 7 1 = nI 1) {K : gB} (hB : bC 1 M K) : gCt (wC q) yX6_again cX6_again 3 (some .int) 8 [.ref (q.2.2 0), .int (nI 0)] M (fun v M' => v = some (.int (nI (K 9 0))) ∧ cpI 0 1 M M' 3 12) := by
  refine gMet RX6 (by decide +kernel) rfl (Nat.le_of_ble_eq_true rfl) (fun X hC => ?_)
  have hC : gC X (wC q) cX6_again 3 RX6 (some .int) 8 := hC
  show gG X (wC q) _ 3 M 0 [(0, .ref (q.2.2 0)), (1, .int (nI 0))] []
  refine g_aload_n hC (gDec_at DX6_again_0 0 rfl) rfl ?_
  refine g_iload_n hC (gDec_at DX6_again_0 1 rfl) rfl ?_
  refine g_callVd (w := wC q) hC 0 (c_X6_slotNumbered_0 q) vf_X6_slotNumbered ml_X6_221 (by decide) (show 0 < 63 from by decide) rfl rfl rfl rfl rfl (Nat.le_of_ble_eq_true rfl) (gDec_at DX6_again_0 2 rfl) ?_
  refine g_astore_n hC (gDec_at DX6_again_0 3 rfl) (by decide) (L' := [(2, .ref (q.2.2 7)), (0, .ref (q.2.2 0)), (1, .int (nI 0))]) rfl ?_
  refine g_aload_n hC (gDec_at DX6_again_0 4 rfl) rfl ?_
  refine g_ifnonnull hC (gDec_at DX6_again_0 5 rfl) 12 (by decide) ?_
  refine g_aload_n hC (gDec_at DX6_again_0 8 rfl) rfl ?_
  refine g_get (w := wC q) hC 7 (v := .int (nI 1)) fl_X6_230 (show 7 < 63 from by decide) rfl (g_sv hk0) (gDec_at DX6_again_0 9 rfl) ?_
  refine g_if_neN hC (by decide) (gDec_at DX6_again_0 10 rfl) 22 (by decide) (fun h => ?_) (fun h => absurd h (by decide))
  refine g_aload_n hC (gDec_at DX6_again_0 13 rfl) rfl ?_
  refine g_get (w := wC q) hC 0 (v := .ref (q.2.2 9)) fl_X6_19 (show 0 < 63 from by decide) rfl rfl (gDec_at DX6_again_0 14 rfl) ?_
  refine g_aload_n hC (gDec_at DX6_again_0 15 rfl) rfl ?_
  refine g_get (w := wC q) hC 7 (v := .ref (q.2.2 27)) fl_X6_225 (show 7 < 63 from by decide) rfl rfl (gDec_at DX6_again_0 16 rfl) ?_
  refine g_callV (w := wC q) hC (i := 9) (c_X0_copyFrom q (b := 0) (b2 := 1) (by decide) (by decide) (by decide) hI.1) vf_X0_copyFrom ml_X6_226 (by decide) (show 9 < 63 from by decide) rfl rfl rfl rfl rfl (Nat.le_of_ble_eq_true rfl) (gDec_at DX6_again_0 17 rfl) (fun v_30 M_30 hq_30 => ?_)
  obtain ⟨rfl, hc⟩ := hq_30
  refine g_aload_n hC (gDec_at DX6_again_0 18 rfl) rfl ?_
  refine g_get (w := wC q) hC 0 (v := .ref (q.2.2 9)) fl_X6_19 (show 0 < 63 from by decide) rfl rfl (gDec_at DX6_again_0 19 rfl) ?_
  refine g_get (w := wC q) hC 9 (v := .int (nI (K 9 0))) fl_X6_53 (show 9 < 63 from by decide) rfl (g_sv (hc.2.1.trans hB.1)) (gDec_at DX6_again_0 20 rfl) ?_
  refine g_iret hC (gDec_at DX6_again_0 21 rfl) ?_
  exact ⟨rfl, hc⟩

set_option maxRecDepth 100000 in
set_option maxHeartbeats 4000000 in
theorem c_X6_keep_1 (q : gQ3) {M : gM} {B : gB} (hI : cI M B) : gCt (wC q) yX6_keep cX6_keep 3 (some .int) 8 [.ref (q.2.2 0), .int (nI 1)] M (fun v M' => v = some (.int (nI (B 9 0))) ∧ ∃ M1, cpI 2 0 M M1 3 12 ∧ M' = gupd M1 8 1 1) := by
  refine gMet RX6 (by decide +kernel) rfl (Nat.le_of_ble_eq_true rfl) (fun X hC => ?_)
  have hC : gC X (wC q) cX6_keep 3 RX6 (some .int) 8 := hC
  show gG X (wC q) _ 3 M 0 [(0, .ref (q.2.2 0)), (1, .int (nI 1))] []
  refine g_aload_n hC (gDec_at DX6_keep_0 0 rfl) rfl ?_
  refine g_iload_n hC (gDec_at DX6_keep_0 1 rfl) rfl ?_
  refine g_callVd (w := wC q) hC 0 (c_X6_slotNumbered_1 q) vf_X6_slotNumbered ml_X6_221 (by decide) (show 0 < 63 from by decide) rfl rfl rfl rfl rfl (Nat.le_of_ble_eq_true rfl) (gDec_at DX6_keep_0 2 rfl) ?_
  refine g_astore_n hC (gDec_at DX6_keep_0 3 rfl) (by decide) (L' := [(2, .ref (q.2.2 8)), (0, .ref (q.2.2 0)), (1, .int (nI 1))]) rfl ?_
  refine g_aload_n hC (gDec_at DX6_keep_0 4 rfl) rfl ?_
  refine g_ifnonnull hC (gDec_at DX6_keep_0 5 rfl) 12 (by decide) ?_
  refine g_aload_n hC (gDec_at DX6_keep_0 8 rfl) rfl ?_
  refine g_get (w := wC q) hC 8 (v := .ref (q.2.2 45)) fl_X6_225 (show 8 < 63 from by decide) rfl rfl (gDec_at DX6_keep_0 9 rfl) ?_
  refine g_aload_n hC (gDec_at DX6_keep_0 10 rfl) rfl ?_
  refine g_get (w := wC q) hC 0 (v := .ref (q.2.2 9)) fl_X6_19 (show 0 < 63 from by decide) rfl rfl (gDec_at DX6_keep_0 11 rfl) ?_
  refine g_callV (w := wC q) hC (i := 45) (c_X0_copyFrom q (b := 2) (b2 := 0) (by decide) (by decide) (by decide) hI.1) vf_X0_copyFrom ml_X6_226 (by decide) (show 45 < 63 from by decide) rfl rfl rfl rfl rfl (Nat.le_of_ble_eq_true rfl) (gDec_at DX6_keep_0 12 rfl) (fun v_20 M_20 hq_20 => ?_)
  obtain ⟨rfl, hc⟩ := hq_20
  refine g_aload_n hC (gDec_at DX6_keep_0 13 rfl) rfl ?_
  refine g_iconst hC (gDec_at DX6_keep_0 14 rfl) (v := nI 1) (by decide) ?_
  refine g_putZ (w := wC q) hC 8 (Or.inr rfl) fl_X6_230 fp_3_1 (show 8 < 63 from by decide) rfl (Nat.le_of_ble_eq_true rfl) rfl rfl (gDec_at DX6_keep_0 15 rfl) ?_
  refine g_aload_n hC (gDec_at DX6_keep_0 16 rfl) rfl ?_
  refine g_get (w := wC q) hC 0 (v := .ref (q.2.2 9)) fl_X6_19 (show 0 < 63 from by decide) rfl rfl (gDec_at DX6_keep_0 17 rfl) ?_
  refine g_get (w := wC q) hC 9 (v := .int (nI (B 9 0))) fl_X6_53 (show 9 < 63 from by decide) rfl (g_sv (by rw [gupd_get, if_neg (by omega), hc.2.2.2.2.2 9 (by omega)]; exact ci_many hI)) (gDec_at DX6_keep_0 18 rfl) ?_
  refine g_iret hC (gDec_at DX6_keep_0 19 rfl) ?_
  exact ⟨rfl, _, hc, rfl⟩

set_option maxRecDepth 100000 in
set_option maxHeartbeats 4000000 in
theorem c_X6_again_1_no (q : gQ3) {M : gM} {B : gB} (hI : cI M B) (hk0 : M.1 8 1 = nI 0) : gCt (wC q) yX6_again cX6_again 3 (some .int) 8 [.ref (q.2.2 0), .int (nI 1)] M (gR (some (.int (-3))) M) := by
  refine gMet RX6 (by decide +kernel) rfl (Nat.le_of_ble_eq_true rfl) (fun X hC => ?_)
  have hC : gC X (wC q) cX6_again 3 RX6 (some .int) 8 := hC
  show gG X (wC q) _ 3 M 0 [(0, .ref (q.2.2 0)), (1, .int (nI 1))] []
  refine g_aload_n hC (gDec_at DX6_again_0 0 rfl) rfl ?_
  refine g_iload_n hC (gDec_at DX6_again_0 1 rfl) rfl ?_
  refine g_callVd (w := wC q) hC 0 (c_X6_slotNumbered_1 q) vf_X6_slotNumbered ml_X6_221 (by decide) (show 0 < 63 from by decide) rfl rfl rfl rfl rfl (Nat.le_of_ble_eq_true rfl) (gDec_at DX6_again_0 2 rfl) ?_
  refine g_astore_n hC (gDec_at DX6_again_0 3 rfl) (by decide) (L' := [(2, .ref (q.2.2 8)), (0, .ref (q.2.2 0)), (1, .int (nI 1))]) rfl ?_
  refine g_aload_n hC (gDec_at DX6_again_0 4 rfl) rfl ?_
  refine g_ifnonnull hC (gDec_at DX6_again_0 5 rfl) 12 (by decide) ?_
  refine g_aload_n hC (gDec_at DX6_again_0 8 rfl) rfl ?_
  refine g_get (w := wC q) hC 8 (v := .int (nI 0)) fl_X6_230 (show 8 < 63 from by decide) rfl (g_sv hk0) (gDec_at DX6_again_0 9 rfl) ?_
  refine g_if_neN hC (by decide) (gDec_at DX6_again_0 10 rfl) 22 (by decide) (fun h => absurd h (by decide)) (fun h => ?_)
  refine g_bipush hC (gDec_at DX6_again_0 11 rfl) (v := -3) (by decide) ?_
  refine g_iret hC (gDec_at DX6_again_0 12 rfl) ?_
  exact ⟨rfl, rfl⟩

set_option maxRecDepth 100000 in
set_option maxHeartbeats 4000000 in
theorem c_X6_again_1_ok (q : gQ3) {M : gM} {B : gB} (hI : cI M B) (hk0 : M.1 8 1 = nI 1) {K : gB} (hB : bC 2 M K) : gCt (wC q) yX6_again cX6_again 3 (some .int) 8 [.ref (q.2.2 0), .int (nI 1)] M (fun v M' => v = some (.int (nI (K 9 0))) ∧ cpI 0 2 M M' 3 12) := by
  refine gMet RX6 (by decide +kernel) rfl (Nat.le_of_ble_eq_true rfl) (fun X hC => ?_)
  have hC : gC X (wC q) cX6_again 3 RX6 (some .int) 8 := hC
  show gG X (wC q) _ 3 M 0 [(0, .ref (q.2.2 0)), (1, .int (nI 1))] []
  refine g_aload_n hC (gDec_at DX6_again_0 0 rfl) rfl ?_
  refine g_iload_n hC (gDec_at DX6_again_0 1 rfl) rfl ?_
  refine g_callVd (w := wC q) hC 0 (c_X6_slotNumbered_1 q) vf_X6_slotNumbered ml_X6_221 (by decide) (show 0 < 63 from by decide) rfl rfl rfl rfl rfl (Nat.le_of_ble_eq_true rfl) (gDec_at DX6_again_0 2 rfl) ?_
  refine g_astore_n hC (gDec_at DX6_again_0 3 rfl) (by decide) (L' := [(2, .ref (q.2.2 8)), (0, .ref (q.2.2 0)), (1, .int (nI 1))]) rfl ?_
  refine g_aload_n hC (gDec_at DX6_again_0 4 rfl) rfl ?_
  refine g_ifnonnull hC (gDec_at DX6_again_0 5 rfl) 12 (by decide) ?_
  refine g_aload_n hC (gDec_at DX6_again_0 8 rfl) rfl ?_
  refine g_get (w := wC q) hC 8 (v := .int (nI 1)) fl_X6_230 (show 8 < 63 from by decide) rfl (g_sv hk0) (gDec_at DX6_again_0 9 rfl) ?_
  refine g_if_neN hC (by decide) (gDec_at DX6_again_0 10 rfl) 22 (by decide) (fun h => ?_) (fun h => absurd h (by decide))
  refine g_aload_n hC (gDec_at DX6_again_0 13 rfl) rfl ?_
  refine g_get (w := wC q) hC 0 (v := .ref (q.2.2 9)) fl_X6_19 (show 0 < 63 from by decide) rfl rfl (gDec_at DX6_again_0 14 rfl) ?_
  refine g_aload_n hC (gDec_at DX6_again_0 15 rfl) rfl ?_
  refine g_get (w := wC q) hC 8 (v := .ref (q.2.2 45)) fl_X6_225 (show 8 < 63 from by decide) rfl rfl (gDec_at DX6_again_0 16 rfl) ?_
  refine g_callV (w := wC q) hC (i := 9) (c_X0_copyFrom q (b := 0) (b2 := 2) (by decide) (by decide) (by decide) hI.1) vf_X0_copyFrom ml_X6_226 (by decide) (show 9 < 63 from by decide) rfl rfl rfl rfl rfl (Nat.le_of_ble_eq_true rfl) (gDec_at DX6_again_0 17 rfl) (fun v_30 M_30 hq_30 => ?_)
  obtain ⟨rfl, hc⟩ := hq_30
  refine g_aload_n hC (gDec_at DX6_again_0 18 rfl) rfl ?_
  refine g_get (w := wC q) hC 0 (v := .ref (q.2.2 9)) fl_X6_19 (show 0 < 63 from by decide) rfl rfl (gDec_at DX6_again_0 19 rfl) ?_
  refine g_get (w := wC q) hC 9 (v := .int (nI (K 9 0))) fl_X6_53 (show 9 < 63 from by decide) rfl (g_sv (hc.2.1.trans hB.1)) (gDec_at DX6_again_0 20 rfl) ?_
  refine g_iret hC (gDec_at DX6_again_0 21 rfl) ?_
  exact ⟨rfl, hc⟩

def dec (B : gB) (j : Nat) : gB := upB B 1 j (B 1 j - 1)
theorem dec_V {B : gB} (hV : bV B) {j : Nat} (h : 4 < B 1 j) : bV (dec B j) := by
  obtain ⟨h1, h2, h3, h4, h5⟩ := hV
  refine ⟨h1, h2, h3, h4, fun i hi ht => ?_⟩
  obtain ⟨a0, a1, a2, a3, a4, a5⟩ := h5 i hi ht
  refine ⟨a0, ?_, a2, a3, a4, a5⟩
  show 4 ≤ (if 1 = 1 ∧ i = j then B 1 j - 1 else B 1 i) ∧ (if 1 = 1 ∧ i = j then B 1 j - 1 else B 1 i) ≤ 40
  by_cases e : i = j
  · subst e; rw [if_pos ⟨rfl, rfl⟩]; omega
  · rw [if_neg (by omega)]; exact a1
theorem dec_I {M : gM} {B : gB} (hI : cI M B) {j : Nat} (h : 4 < B 1 j) : cI (gupd M (15 + j) 4 (nI (B 1 j - 1))) (dec B j) := cI_set hI (by unfold fldOf; omega) (dec_V hI.2.2 h)
theorem dec_sets (B : gB) (j : Nat) : sSets (dec B j) = sSets B := rfl
theorem dec_pull (B : gB) (j x : Nat) : sPull (dec B j) x = sPull B x := rfl
theorem gupd_back {M : gM} {i k : Nat} {x y : Int32} (h : M.1 i k = x) : gupd (gupd M i k y) i k x = M := by
  refine Prod.ext ?_ rfl
  funext a b
  rw [gupd_get, gupd_get]
  by_cases e : a = i ∧ b = k
  · rw [if_pos e, e.1, e.2, h]
  · rw [if_neg e, if_neg e]
theorem n9_le {e : Nat} (h : e < 2147483648) : (-9 : Int32) ≤ nI e := by
  rw [le_I, nI_toInt h, show (-9 : Int32).toInt = -9 by decide]; omega
/-- the next scrape: the greatest EVEN so far, and the place (and 1) -/
def sNx (B : gB) (x f : Nat) : Nat → Nat × Nat
  | 0 => (sEvn B (sPull B x) (sAll B), 0)
  | n + 1 => if n % 6 < B 9 0 ∧ 4 < B 1 n ∧ f * sAll (dec B n) ≤ sPull B x ∧ (sNx B x f n).1 < sEvn (dec B n) (sPull B x) (sAll (dec B n)) then (sEvn (dec B n) (sPull B x) (sAll (dec B n)), n + 1) else sNx B x f n
theorem sNx_le {B : gB} (hm : 1 ≤ B 9 0) (x f : Nat) : ∀ n, (sNx B x f n).1 ≤ 1000
  | 0 => sEvn_le hm _ _
  | n + 1 => by
    rw [sNx]
    split
    · exact sEvn_le (B := dec B n) hm _ _
    · exact sNx_le hm x f n
def nxV (n : Nat) : Int32 := if n = 0 then -9 else nI (sTold (n - 1))
set_option maxRecDepth 100000 in
set_option maxHeartbeats 4000000 in
theorem c_X2_nextPlace (q : gQ3) {M : gM} {B : gB} (hI : cI M B) {x f : Nat} (hx : x ≤ 40) (hf : f ≤ 999) : gCt (wC q) yX2_nextPlace cX2_nextPlace 15 (some .int) 6 [.ref (q.2.2 3), .ref (q.2.2 9), .int (nI x), .int (nI f)] M (gR (some (.int (nxV (sNx B x f 12).2))) M) := by
  refine gMet RX2 (by decide +kernel) rfl (Nat.le_of_ble_eq_true rfl) (fun X hC => ?_)
  have hC : gC X (wC q) cX2_nextPlace 15 RX2 (some .int) 6 := hC
  show gG X (wC q) _ 15 M 0 [(0, .ref (q.2.2 3)), (1, .ref (q.2.2 9)), (2, .int (nI x)), (3, .int (nI f))] []
  have hm := bv_many hI.2.2
  have hpl := sPull_le B hx
  have hal := sAll_le B
  refine g_aload_n hC (gDec_at DX2_nextPlace_0 0 rfl) rfl ?_
  refine g_iload_n hC (gDec_at DX2_nextPlace_0 1 rfl) rfl ?_
  refine g_callVd (w := wC q) hC 9 (c_X0_pullAt q hI (x := x) (by omega)) vf_X0_pullAt ml_X2_22 (by decide) (show 9 < 63 from by decide) rfl rfl rfl rfl rfl (Nat.le_of_ble_eq_true rfl) (gDec_at DX2_nextPlace_0 2 rfl) ?_
  refine g_lstore hC (gDec_at DX2_nextPlace_0 3 rfl) (by decide) (L' := [(4, .long (lN (sPull B x))), (0, .ref (q.2.2 3)), (1, .ref (q.2.2 9)), (2, .int (nI x)), (3, .int (nI f))]) rfl ?_
  refine g_aload_n hC (gDec_at DX2_nextPlace_0 4 rfl) rfl ?_
  refine g_lload hC (gDec_at DX2_nextPlace_0 5 rfl) rfl ?_
  refine g_aload_n hC (gDec_at DX2_nextPlace_0 6 rfl) rfl ?_
  refine g_callVd (w := wC q) hC 9 (c_X0_allGives q hI) vf_X0_allGives ml_X2_28 (by decide) (show 9 < 63 from by decide) rfl rfl rfl rfl rfl (Nat.le_of_ble_eq_true rfl) (gDec_at DX2_nextPlace_0 7 rfl) ?_
  refine g_callVd (w := wC q) hC 9 (c_X0_evenness q hI (pull := (sPull B x)) (gives := (sAll B)) (by omega) (by omega)) vf_X0_evenness ml_X2_32 (by decide) (show 9 < 63 from by decide) rfl rfl rfl rfl rfl (Nat.le_of_ble_eq_true rfl) (gDec_at DX2_nextPlace_0 8 rfl) ?_
  refine g_istore hC (gDec_at DX2_nextPlace_0 9 rfl) (by decide) (L' := [(6, .int (nI (sEvn B (sPull B x) (sAll B)))), (4, .long (lN (sPull B x))), (0, .ref (q.2.2 3)), (1, .ref (q.2.2 9)), (2, .int (nI x)), (3, .int (nI f))]) rfl ?_
  refine g_bipush hC (gDec_at DX2_nextPlace_0 10 rfl) (v := -9) (by decide) ?_
  refine g_istore hC (gDec_at DX2_nextPlace_0 11 rfl) (by decide) (L' := [(7, .int (-9)), (6, .int (nI (sEvn B (sPull B x) (sAll B)))), (4, .long (lN (sPull B x))), (0, .ref (q.2.2 3)), (1, .ref (q.2.2 9)), (2, .int (nI x)), (3, .int (nI f))]) rfl ?_
  refine g_aload_n hC (gDec_at DX2_nextPlace_0 12 rfl) rfl ?_
  refine g_get (w := wC q) hC 9 (v := .ref (q.2.2 11)) fl_X2_36 (show 9 < 63 from by decide) rfl rfl (gDec_at DX2_nextPlace_0 13 rfl) ?_
  refine g_astore hC (gDec_at DX2_nextPlace_0 14 rfl) (by decide) (L' := [(8, .ref (q.2.2 11)), (7, .int (-9)), (6, .int (nI (sEvn B (sPull B x) (sAll B)))), (4, .long (lN (sPull B x))), (0, .ref (q.2.2 3)), (1, .ref (q.2.2 9)), (2, .int (nI x)), (3, .int (nI f))]) rfl ?_
  refine g_aload hC (gDec_at DX2_nextPlace_0 15 rfl) rfl ?_
  refine g_alen (w := wC q) hC 11 3 (show 11 < 63 from by decide) rfl rfl (gDec_at DX2_nextPlace_0 16 rfl) ?_
  refine g_istore hC (gDec_at DX2_nextPlace_0 17 rfl) (by decide) (L' := [(9, .int (nI 12)), (8, .ref (q.2.2 11)), (7, .int (-9)), (6, .int (nI (sEvn B (sPull B x) (sAll B)))), (4, .long (lN (sPull B x))), (0, .ref (q.2.2 3)), (1, .ref (q.2.2 9)), (2, .int (nI x)), (3, .int (nI f))]) rfl ?_
  refine g_iconst hC (gDec_at DX2_nextPlace_0 18 rfl) (v := nI 0) (by decide) ?_
  refine g_istore hC (gDec_at DX2_nextPlace_0 19 rfl) (by decide) (L' := [(10, .int (nI 0)), (9, .int (nI 12)), (8, .ref (q.2.2 11)), (7, .int (-9)), (6, .int (nI (sEvn B (sPull B x) (sAll B)))), (4, .long (lN (sPull B x))), (0, .ref (q.2.2 3)), (1, .ref (q.2.2 9)), (2, .int (nI x)), (3, .int (nI f))]) rfl ?_
  have loop37 : ∀ (fu i : Nat), i ≤ 12 → 12 - i < fu → gG X (wC q) (gR (some (.int (nxV (sNx B x f 12).2))) M) 15 M 37 [(0, .ref (q.2.2 3)), (1, .ref (q.2.2 9)), (2, .int (nI x)), (3, .int (nI f)), (4, .long (lN (sPull B x))), (6, .int (nI ((sNx B x f i).1))), (7, .int (nxV (sNx B x f i).2)), (8, .ref (q.2.2 11)), (9, .int (nI 12)), (10, .int (nI i))] [] := by
    intro fu; induction fu with
    | zero => intro i h1 h2; omega
    | succ fu ih =>
      intro i hi hfu 
      have hle := sNx_le hm.1 x f i
      refine g_iload hC (gDec_at DX2_nextPlace_0 20 rfl) rfl ?_
      refine g_iload hC (gDec_at DX2_nextPlace_0 21 rfl) rfl ?_
      refine g_icmp_geN hC (by omega) (by omega) (gDec_at DX2_nextPlace_0 22 rfl) 148 (by decide) (fun h41 => ?_) (fun h41 => ?_)
      · skip
        obtain rfl : i = 12 := by omega
        refine g_iload hC (gDec_at DX2_nextPlace_1 9 rfl) rfl ?_
        refine g_iret hC (gDec_at DX2_nextPlace_1 10 rfl) ?_
        exact ⟨rfl, rfl⟩
      · skip
        refine g_aload hC (gDec_at DX2_nextPlace_0 23 rfl) rfl ?_
        refine g_iload hC (gDec_at DX2_nextPlace_0 24 rfl) rfl ?_
        refine g_aald (w := wC q) hC 11 3 i (a := q.2.2 (15 + i)) (show 11 < 63 from by decide) rfl rfl (by omega) (by decide) rfl (gDec_at DX2_nextPlace_0 25 rfl) ?_
        refine g_astore hC (gDec_at DX2_nextPlace_0 26 rfl) (by decide) (L' := [(11, .ref (q.2.2 (15 + i))), (0, .ref (q.2.2 3)), (1, .ref (q.2.2 9)), (2, .int (nI x)), (3, .int (nI f)), (4, .long (lN (sPull B x))), (6, .int (nI ((sNx B x f i).1))), (7, .int (nxV (sNx B x f i).2)), (8, .ref (q.2.2 11)), (9, .int (nI 12)), (10, .int (nI i))]) rfl ?_
        refine g_aload_n hC (gDec_at DX2_nextPlace_0 27 rfl) rfl ?_
        refine g_aload hC (gDec_at DX2_nextPlace_0 28 rfl) rfl ?_
        refine g_callVd (w := wC q) hC 9 (c_X0_has q hI (by omega)) vf_X0_has ml_X2_40 (by decide) (show 9 < 63 from by decide) rfl rfl rfl rfl rfl (Nat.le_of_ble_eq_true rfl) (gDec_at DX2_nextPlace_0 29 rfl) ?_
        refine g_if_eqB hC (gDec_at DX2_nextPlace_0 30 rfl) 142 (by decide) (fun h57 => ?_) (fun h57 => ?_)
        · skip
          refine g_iincN hC (gDec_at DX2_nextPlace_1 7 rfl) rfl (by decide) (L' := [(10, .int (nI (i + 1))), (11, .ref (q.2.2 (15 + i))), (0, .ref (q.2.2 3)), (1, .ref (q.2.2 9)), (2, .int (nI x)), (3, .int (nI f)), (4, .long (lN (sPull B x))), (6, .int (nI ((sNx B x f i).1))), (7, .int (nxV (sNx B x f i).2)), (8, .ref (q.2.2 11)), (9, .int (nI 12))]) rfl ?_
          refine g_goto hC (gDec_at DX2_nextPlace_1 8 rfl) 37 (by decide) ?_
          refine g_sub [2, 3, 4, 5, 6, 7, 8, 9, 10, 0] (L' := [(0, .ref (q.2.2 3)), (1, .ref (q.2.2 9)), (2, .int (nI x)), (3, .int (nI f)), (4, .long (lN (sPull B x))), (6, .int (nI ((sNx B x f i).1))), (7, .int (nxV (sNx B x f i).2)), (8, .ref (q.2.2 11)), (9, .int (nI 12)), (10, .int (nI (i + 1)))]) rfl ?_
          have e9 : (sNx B x f (i + 1)) = (sNx B x f i) := if_neg (fun z => h57 z.1)
          have h9 := ih (i + 1) (by omega) (by omega)
          rw [e9] at h9
          exact h9
        · skip
          have h1i := bv_f1 hI.2.2 (by omega : i < 12) h57
          refine g_aload hC (gDec_at DX2_nextPlace_0 31 rfl) rfl ?_
          refine g_get (w := wC q) hC (15 + i) (v := .int (nI (B 1 i))) fl_X2_44 (show 15 + i < 63 from by have := (by omega); omega) (cC_p0 q _ _ (by omega)) (g_sv (ci_f1 hI (by omega) (by omega))) (gDec_at DX2_nextPlace_0 32 rfl) ?_
          refine g_iconst hC (gDec_at DX2_nextPlace_0 33 rfl) (v := nI 4) (by decide) ?_
          refine g_icmp_leN hC (by omega) (by omega) (gDec_at DX2_nextPlace_0 34 rfl) 142 (by decide) (fun h66 => ?_) (fun h66 => ?_)
          · skip
            refine g_iincN hC (gDec_at DX2_nextPlace_1 7 rfl) rfl (by decide) (L' := [(10, .int (nI (i + 1))), (11, .ref (q.2.2 (15 + i))), (0, .ref (q.2.2 3)), (1, .ref (q.2.2 9)), (2, .int (nI x)), (3, .int (nI f)), (4, .long (lN (sPull B x))), (6, .int (nI ((sNx B x f i).1))), (7, .int (nxV (sNx B x f i).2)), (8, .ref (q.2.2 11)), (9, .int (nI 12))]) rfl ?_
            refine g_goto hC (gDec_at DX2_nextPlace_1 8 rfl) 37 (by decide) ?_
            refine g_sub [2, 3, 4, 5, 6, 7, 8, 9, 10, 0] (L' := [(0, .ref (q.2.2 3)), (1, .ref (q.2.2 9)), (2, .int (nI x)), (3, .int (nI f)), (4, .long (lN (sPull B x))), (6, .int (nI ((sNx B x f i).1))), (7, .int (nxV (sNx B x f i).2)), (8, .ref (q.2.2 11)), (9, .int (nI 12)), (10, .int (nI (i + 1)))]) rfl ?_
            have e9 : (sNx B x f (i + 1)) = (sNx B x f i) := if_neg (fun z => by have z2 := z.2.1; omega)
            have h9 := ih (i + 1) (by omega) (by omega)
            rw [e9] at h9
            exact h9
          · skip
            refine g_aload hC (gDec_at DX2_nextPlace_0 35 rfl) rfl ?_
            refine g_dup hC (gDec_at DX2_nextPlace_0 36 rfl) rfl ?_
            refine g_get (w := wC q) hC (15 + i) (v := .int (nI (B 1 i))) fl_X2_44 (show 15 + i < 63 from by have := (by omega); omega) (cC_p0 q _ _ (by omega)) (g_sv (ci_f1 hI (by omega) (by omega))) (gDec_at DX2_nextPlace_0 37 rfl) ?_
            refine g_iconst hC (gDec_at DX2_nextPlace_0 38 rfl) (v := nI 1) (by decide) ?_
            refine g_isubN hC (by omega) (gDec_at DX2_nextPlace_0 39 rfl) ?_
            refine g_putI (w := wC q) hC (15 + i) fl_X2_44 fp_1_4 (show 15 + i < 63 from by have := (by omega); omega) (cC_p0 q _ _ (by omega)) (Nat.le_of_ble_eq_true rfl) (cC_p0 q _ _ (by omega)) rfl (gDec_at DX2_nextPlace_0 40 rfl) ?_
            have hI2 := dec_I hI (j := i) (by omega)
            have hev := sEvn_le (B := dec B i) hm.1 (sPull B x) (sAll (dec B i))
            have hal2 := sAll_le (dec B i)
            have hty : i % 6 < dec B i 9 0 := by show i % 6 < B 9 0; omega
            refine g_aload_n hC (gDec_at DX2_nextPlace_0 41 rfl) rfl ?_
            refine g_callVd (w := wC q) hC 9 (c_X0_allGives q hI2) vf_X0_allGives ml_X2_28 (by decide) (show 9 < 63 from by decide) rfl rfl rfl rfl rfl (Nat.le_of_ble_eq_true rfl) (gDec_at DX2_nextPlace_0 42 rfl) ?_
            refine g_lstore hC (gDec_at DX2_nextPlace_0 43 rfl) (by decide) (L' := [(12, .long (lN (sAll (dec B i)))), (11, .ref (q.2.2 (15 + i))), (0, .ref (q.2.2 3)), (1, .ref (q.2.2 9)), (2, .int (nI x)), (3, .int (nI f)), (4, .long (lN (sPull B x))), (6, .int (nI ((sNx B x f i).1))), (7, .int (nxV (sNx B x f i).2)), (8, .ref (q.2.2 11)), (9, .int (nI 12)), (10, .int (nI i))]) rfl ?_
            refine g_aload_n hC (gDec_at DX2_nextPlace_0 44 rfl) rfl ?_
            refine g_iload_n hC (gDec_at DX2_nextPlace_0 45 rfl) rfl ?_
            refine g_lload hC (gDec_at DX2_nextPlace_0 46 rfl) rfl ?_
            refine g_lload hC (gDec_at DX2_nextPlace_0 47 rfl) rfl ?_
            refine g_callVd (w := wC q) hC 9 (c_X0_weighs q (f := f) (pull := sPull B x) (gives := sAll (dec B i)) (by omega) (by omega) (by omega)) vf_X0_weighs ml_X2_49 (by decide) (show 9 < 63 from by decide) rfl rfl rfl rfl rfl (Nat.le_of_ble_eq_true rfl) (gDec_at DX2_nextPlace_0 48 rfl) ?_
            refine g_if_eqB hC (gDec_at DX2_nextPlace_0 49 rfl) 109 (by decide) (fun h95 => ?_) (fun h95 => ?_)
            · skip
              refine g_bipush hC (gDec_at DX2_nextPlace_0 55 rfl) (v := -9) (by decide) ?_
              refine g_istore hC (gDec_at DX2_nextPlace_0 56 rfl) (by decide) (L' := [(14, .int (-9)), (12, .long (lN (sAll (dec B i)))), (11, .ref (q.2.2 (15 + i))), (0, .ref (q.2.2 3)), (1, .ref (q.2.2 9)), (2, .int (nI x)), (3, .int (nI f)), (4, .long (lN (sPull B x))), (6, .int (nI ((sNx B x f i).1))), (7, .int (nxV (sNx B x f i).2)), (8, .ref (q.2.2 11)), (9, .int (nI 12)), (10, .int (nI i))]) rfl ?_
              refine g_aload hC (gDec_at DX2_nextPlace_0 57 rfl) rfl ?_
              refine g_dup hC (gDec_at DX2_nextPlace_0 58 rfl) rfl ?_
              refine g_get (w := wC q) hC (15 + i) (v := .int (nI (B 1 i - 1))) fl_X2_44 (show 15 + i < 63 from by have := (by omega); omega) (cC_p0 q _ _ (by omega)) (g_sv (by rw [gupd_get, if_pos ⟨rfl, rfl⟩])) (gDec_at DX2_nextPlace_0 59 rfl) ?_
              refine g_iconst hC (gDec_at DX2_nextPlace_0 60 rfl) (v := nI 1) (by decide) ?_
              refine g_iaddN hC (gDec_at DX2_nextPlace_0 61 rfl) ?_
              refine g_putI (w := wC q) hC (15 + i) fl_X2_44 fp_1_4 (show 15 + i < 63 from by have := (by omega); omega) (cC_p0 q _ _ (by omega)) (Nat.le_of_ble_eq_true rfl) (cC_p0 q _ _ (by omega)) rfl (gDec_at DX2_nextPlace_0 62 rfl) ?_
              rw [show B 1 i - 1 + 1 = B 1 i by omega]
              refine g_M (M' := M) (gupd_back (ci_f1 hI (by omega) (by omega))) ?_
              refine g_iload hC (gDec_at DX2_nextPlace_0 63 rfl) rfl ?_
              refine g_iload hC (gDec_at DX2_nextPlace_1 0 rfl) rfl ?_
              refine g_icmp_le hC (gDec_at DX2_nextPlace_1 1 rfl) 142 (by decide) (fun h128 => ?_) (fun h128 => ?_)
              · skip
                refine g_iincN hC (gDec_at DX2_nextPlace_1 7 rfl) rfl (by decide) (L' := [(10, .int (nI (i + 1))), (14, .int (-9)), (12, .long (lN (sAll (dec B i)))), (11, .ref (q.2.2 (15 + i))), (0, .ref (q.2.2 3)), (1, .ref (q.2.2 9)), (2, .int (nI x)), (3, .int (nI f)), (4, .long (lN (sPull B x))), (6, .int (nI ((sNx B x f i).1))), (7, .int (nxV (sNx B x f i).2)), (8, .ref (q.2.2 11)), (9, .int (nI 12))]) rfl ?_
                refine g_goto hC (gDec_at DX2_nextPlace_1 8 rfl) 37 (by decide) ?_
                refine g_sub [4, 5, 6, 7, 8, 9, 10, 11, 12, 0] (L' := [(0, .ref (q.2.2 3)), (1, .ref (q.2.2 9)), (2, .int (nI x)), (3, .int (nI f)), (4, .long (lN (sPull B x))), (6, .int (nI ((sNx B x f i).1))), (7, .int (nxV (sNx B x f i).2)), (8, .ref (q.2.2 11)), (9, .int (nI 12)), (10, .int (nI (i + 1)))]) rfl ?_
                have e9 : (sNx B x f (i + 1)) = (sNx B x f i) := if_neg (fun z => h95 z.2.2.1)
                have h9 := ih (i + 1) (by omega) (by omega)
                rw [e9] at h9
                exact h9
              · skip
                exact absurd (n9_le (by omega)) h128
            · skip
              refine g_aload_n hC (gDec_at DX2_nextPlace_0 50 rfl) rfl ?_
              refine g_lload hC (gDec_at DX2_nextPlace_0 51 rfl) rfl ?_
              refine g_lload hC (gDec_at DX2_nextPlace_0 52 rfl) rfl ?_
              refine g_callVd (w := wC q) hC 9 (c_X0_evenness q hI2 (pull := (sPull B x)) (gives := (sAll (dec B i))) (by omega) (by omega)) vf_X0_evenness ml_X2_32 (by decide) (show 9 < 63 from by decide) rfl rfl rfl rfl rfl (Nat.le_of_ble_eq_true rfl) (gDec_at DX2_nextPlace_0 53 rfl) ?_
              refine g_goto hC (gDec_at DX2_nextPlace_0 54 rfl) 111 (by decide) ?_
              refine g_istore hC (gDec_at DX2_nextPlace_0 56 rfl) (by decide) (L' := [(14, .int (nI (sEvn (dec B i) (sPull B x) (sAll (dec B i))))), (12, .long (lN (sAll (dec B i)))), (11, .ref (q.2.2 (15 + i))), (0, .ref (q.2.2 3)), (1, .ref (q.2.2 9)), (2, .int (nI x)), (3, .int (nI f)), (4, .long (lN (sPull B x))), (6, .int (nI ((sNx B x f i).1))), (7, .int (nxV (sNx B x f i).2)), (8, .ref (q.2.2 11)), (9, .int (nI 12)), (10, .int (nI i))]) rfl ?_
              refine g_aload hC (gDec_at DX2_nextPlace_0 57 rfl) rfl ?_
              refine g_dup hC (gDec_at DX2_nextPlace_0 58 rfl) rfl ?_
              refine g_get (w := wC q) hC (15 + i) (v := .int (nI (B 1 i - 1))) fl_X2_44 (show 15 + i < 63 from by have := (by omega); omega) (cC_p0 q _ _ (by omega)) (g_sv (by rw [gupd_get, if_pos ⟨rfl, rfl⟩])) (gDec_at DX2_nextPlace_0 59 rfl) ?_
              refine g_iconst hC (gDec_at DX2_nextPlace_0 60 rfl) (v := nI 1) (by decide) ?_
              refine g_iaddN hC (gDec_at DX2_nextPlace_0 61 rfl) ?_
              refine g_putI (w := wC q) hC (15 + i) fl_X2_44 fp_1_4 (show 15 + i < 63 from by have := (by omega); omega) (cC_p0 q _ _ (by omega)) (Nat.le_of_ble_eq_true rfl) (cC_p0 q _ _ (by omega)) rfl (gDec_at DX2_nextPlace_0 62 rfl) ?_
              rw [show B 1 i - 1 + 1 = B 1 i by omega]
              refine g_M (M' := M) (gupd_back (ci_f1 hI (by omega) (by omega))) ?_
              refine g_iload hC (gDec_at DX2_nextPlace_0 63 rfl) rfl ?_
              refine g_iload hC (gDec_at DX2_nextPlace_1 0 rfl) rfl ?_
              refine g_icmp_leN hC (by omega) (by omega) (gDec_at DX2_nextPlace_1 1 rfl) 142 (by decide) (fun h128_1 => ?_) (fun h128_1 => ?_)
              · skip
                refine g_iincN hC (gDec_at DX2_nextPlace_1 7 rfl) rfl (by decide) (L' := [(10, .int (nI (i + 1))), (14, .int (nI (sEvn (dec B i) (sPull B x) (sAll (dec B i))))), (12, .long (lN (sAll (dec B i)))), (11, .ref (q.2.2 (15 + i))), (0, .ref (q.2.2 3)), (1, .ref (q.2.2 9)), (2, .int (nI x)), (3, .int (nI f)), (4, .long (lN (sPull B x))), (6, .int (nI ((sNx B x f i).1))), (7, .int (nxV (sNx B x f i).2)), (8, .ref (q.2.2 11)), (9, .int (nI 12))]) rfl ?_
                refine g_goto hC (gDec_at DX2_nextPlace_1 8 rfl) 37 (by decide) ?_
                refine g_sub [4, 5, 6, 7, 8, 9, 10, 11, 12, 0] (L' := [(0, .ref (q.2.2 3)), (1, .ref (q.2.2 9)), (2, .int (nI x)), (3, .int (nI f)), (4, .long (lN (sPull B x))), (6, .int (nI ((sNx B x f i).1))), (7, .int (nxV (sNx B x f i).2)), (8, .ref (q.2.2 11)), (9, .int (nI 12)), (10, .int (nI (i + 1)))]) rfl ?_
                have e9 : (sNx B x f (i + 1)) = (sNx B x f i) := if_neg (fun z => by have z2 := z.2.2.2; omega)
                have h9 := ih (i + 1) (by omega) (by omega)
                rw [e9] at h9
                exact h9
              · skip
                refine g_iload hC (gDec_at DX2_nextPlace_1 2 rfl) rfl ?_
                refine g_istore hC (gDec_at DX2_nextPlace_1 3 rfl) (by decide) (L' := [(6, .int (nI (sEvn (dec B i) (sPull B x) (sAll (dec B i))))), (14, .int (nI (sEvn (dec B i) (sPull B x) (sAll (dec B i))))), (12, .long (lN (sAll (dec B i)))), (11, .ref (q.2.2 (15 + i))), (0, .ref (q.2.2 3)), (1, .ref (q.2.2 9)), (2, .int (nI x)), (3, .int (nI f)), (4, .long (lN (sPull B x))), (7, .int (nxV (sNx B x f i).2)), (8, .ref (q.2.2 11)), (9, .int (nI 12)), (10, .int (nI i))]) rfl ?_
                refine g_aload hC (gDec_at DX2_nextPlace_1 4 rfl) rfl ?_
                refine g_get (w := wC q) hC (15 + i) (v := .int (nI (10 * (i / 6) + i % 6))) fl_X2_53 (show 15 + i < 63 from by have := (by omega); omega) (cC_p0 q _ _ (by omega)) (g_sv (ci_told hI (by omega))) (gDec_at DX2_nextPlace_1 5 rfl) ?_
                refine g_istore hC (gDec_at DX2_nextPlace_1 6 rfl) (by decide) (L' := [(7, .int (nI (10 * (i / 6) + i % 6))), (6, .int (nI (sEvn (dec B i) (sPull B x) (sAll (dec B i))))), (14, .int (nI (sEvn (dec B i) (sPull B x) (sAll (dec B i))))), (12, .long (lN (sAll (dec B i)))), (11, .ref (q.2.2 (15 + i))), (0, .ref (q.2.2 3)), (1, .ref (q.2.2 9)), (2, .int (nI x)), (3, .int (nI f)), (4, .long (lN (sPull B x))), (8, .ref (q.2.2 11)), (9, .int (nI 12)), (10, .int (nI i))]) rfl ?_
                refine g_iincN hC (gDec_at DX2_nextPlace_1 7 rfl) rfl (by decide) (L' := [(10, .int (nI (i + 1))), (7, .int (nI (10 * (i / 6) + i % 6))), (6, .int (nI (sEvn (dec B i) (sPull B x) (sAll (dec B i))))), (14, .int (nI (sEvn (dec B i) (sPull B x) (sAll (dec B i))))), (12, .long (lN (sAll (dec B i)))), (11, .ref (q.2.2 (15 + i))), (0, .ref (q.2.2 3)), (1, .ref (q.2.2 9)), (2, .int (nI x)), (3, .int (nI f)), (4, .long (lN (sPull B x))), (8, .ref (q.2.2 11)), (9, .int (nI 12))]) rfl ?_
                refine g_goto hC (gDec_at DX2_nextPlace_1 8 rfl) 37 (by decide) ?_
                refine g_sub [6, 7, 8, 9, 10, 2, 1, 11, 12, 0] (L' := [(0, .ref (q.2.2 3)), (1, .ref (q.2.2 9)), (2, .int (nI x)), (3, .int (nI f)), (4, .long (lN (sPull B x))), (6, .int (nI (sEvn (dec B i) (sPull B x) (sAll (dec B i))))), (7, .int (nI (10 * (i / 6) + i % 6))), (8, .ref (q.2.2 11)), (9, .int (nI 12)), (10, .int (nI (i + 1)))]) rfl ?_
                have e9 : (sNx B x f (i + 1)) = (sEvn (dec B i) (sPull B x) (sAll (dec B i)), i + 1) := if_pos ⟨h57, by omega, h95, by omega⟩
                have h9 := ih (i + 1) (by omega) (by omega)
                rw [e9] at h9
                exact h9
  exact g_sub [6, 7, 8, 9, 5, 4, 3, 2, 1, 0] rfl (loop37 (12 + 1 - 0) 0 (by omega) (by omega))

set_option maxRecDepth 100000 in
set_option maxHeartbeats 4000000 in
theorem c_X6_next_badx (q : gQ3) {M : gM} {B : gB} (hI : cI M B) {x0 : Int32} (hx0 : ¬ gin x0 0 40) {f : Int32} : gCt (wC q) yX6_next cX6_next 3 (some .int) 8 [.ref (q.2.2 0), .int x0, .int f] M (gR (some (.int (-2))) M) := by
  refine gMet RX6 (by decide +kernel) rfl (Nat.le_of_ble_eq_true rfl) (fun X hC => ?_)
  have hC : gC X (wC q) cX6_next 3 RX6 (some .int) 8 := hC
  show gG X (wC q) _ 3 M 0 [(0, .ref (q.2.2 0)), (1, .int x0), (2, .int f)] []
  refine g_iload_n hC (gDec_at DX6_next_0 0 rfl) rfl ?_
  refine g_callSd (w := wC q) hC (c_X6_isBadDraw_out q hx0) sf_X6_isBadDraw ml_X6_117 (by decide) rfl rfl (Nat.le_of_ble_eq_true rfl) (gDec_at DX6_next_0 1 rfl) ?_
  refine g_if_neN hC (by decide) (gDec_at DX6_next_0 2 rfl) 18 (by decide) (fun h => ?_) (fun h => absurd h (by decide))
  refine g_bipush hC (gDec_at DX6_next_0 8 rfl) (v := -2) (by decide) ?_
  refine g_iret hC (gDec_at DX6_next_0 9 rfl) ?_
  exact ⟨rfl, rfl⟩

set_option maxRecDepth 100000 in
set_option maxHeartbeats 4000000 in
theorem c_X6_next_badf (q : gQ3) {M : gM} {B : gB} (hI : cI M B) {x : Nat} (hx : x ≤ 40) {f : Int32} (hf : ¬ gin f 0 999) : gCt (wC q) yX6_next cX6_next 3 (some .int) 8 [.ref (q.2.2 0), .int (nI x), .int f] M (gR (some (.int (-2))) M) := by
  refine gMet RX6 (by decide +kernel) rfl (Nat.le_of_ble_eq_true rfl) (fun X hC => ?_)
  have hC : gC X (wC q) cX6_next 3 RX6 (some .int) 8 := hC
  show gG X (wC q) _ 3 M 0 [(0, .ref (q.2.2 0)), (1, .int (nI x)), (2, .int f)] []
  refine g_iload_n hC (gDec_at DX6_next_0 0 rfl) rfl ?_
  refine g_callSd (w := wC q) hC (c_X6_isBadDraw_in q (k := x) (by omega)) sf_X6_isBadDraw ml_X6_117 (by decide) rfl rfl (Nat.le_of_ble_eq_true rfl) (gDec_at DX6_next_0 1 rfl) ?_
  refine g_if_neN hC (by decide) (gDec_at DX6_next_0 2 rfl) 18 (by decide) (fun h => absurd h (by decide)) (fun h => ?_)
  refine g_iload_n hC (gDec_at DX6_next_0 3 rfl) rfl ?_
  refine g_iconst hC (gDec_at DX6_next_0 4 rfl) (v := nI 0) (by decide) ?_
  refine g_sipush hC (gDec_at DX6_next_0 5 rfl) (v := nI 999) (by decide) ?_
  refine g_callSd (w := wC q) hC (c_X6_isOutside_out q (by omega) (by omega) hf) sf_X6_isOutside ml_X6_60 (by decide) rfl rfl (Nat.le_of_ble_eq_true rfl) (gDec_at DX6_next_0 6 rfl) ?_
  refine g_if_eqN hC (by decide) (gDec_at DX6_next_0 7 rfl) 21 (by decide) (fun h => absurd h (by decide)) (fun h => ?_)
  refine g_bipush hC (gDec_at DX6_next_0 8 rfl) (v := -2) (by decide) ?_
  refine g_iret hC (gDec_at DX6_next_0 9 rfl) ?_
  exact ⟨rfl, rfl⟩

set_option maxRecDepth 100000 in
set_option maxHeartbeats 4000000 in
theorem c_X6_next_ok (q : gQ3) {M : gM} {B : gB} (hI : cI M B) {x : Nat} (hx : x ≤ 40) {f : Nat} (hfa : 0 ≤ f) (hfb : f ≤ 999) : gCt (wC q) yX6_next cX6_next 3 (some .int) 8 [.ref (q.2.2 0), .int (nI x), .int (nI f)] M (gR (some (.int (nxV (sNx B x f 12).2))) M) := by
  refine gMet RX6 (by decide +kernel) rfl (Nat.le_of_ble_eq_true rfl) (fun X hC => ?_)
  have hC : gC X (wC q) cX6_next 3 RX6 (some .int) 8 := hC
  show gG X (wC q) _ 3 M 0 [(0, .ref (q.2.2 0)), (1, .int (nI x)), (2, .int (nI f))] []
  refine g_iload_n hC (gDec_at DX6_next_0 0 rfl) rfl ?_
  refine g_callSd (w := wC q) hC (c_X6_isBadDraw_in q (k := x) (by omega)) sf_X6_isBadDraw ml_X6_117 (by decide) rfl rfl (Nat.le_of_ble_eq_true rfl) (gDec_at DX6_next_0 1 rfl) ?_
  refine g_if_neN hC (by decide) (gDec_at DX6_next_0 2 rfl) 18 (by decide) (fun h => absurd h (by decide)) (fun h => ?_)
  refine g_iload_n hC (gDec_at DX6_next_0 3 rfl) rfl ?_
  refine g_iconst hC (gDec_at DX6_next_0 4 rfl) (v := nI 0) (by decide) ?_
  refine g_sipush hC (gDec_at DX6_next_0 5 rfl) (v := nI 999) (by decide) ?_
  refine g_callSd (w := wC q) hC (c_X6_isOutside_in q (by omega) (by omega) (nI_gin (k := f) (a := 0) (b := 999) (by omega) (by omega) (by omega))) sf_X6_isOutside ml_X6_60 (by decide) rfl rfl (Nat.le_of_ble_eq_true rfl) (gDec_at DX6_next_0 6 rfl) ?_
  refine g_if_eqN hC (by decide) (gDec_at DX6_next_0 7 rfl) 21 (by decide) (fun h => ?_) (fun h => absurd h (by decide))
  refine g_aload_n hC (gDec_at DX6_next_0 10 rfl) rfl ?_
  refine g_get (w := wC q) hC 0 (v := .ref (q.2.2 3)) fl_X6_26 (show 0 < 63 from by decide) rfl rfl (gDec_at DX6_next_0 11 rfl) ?_
  refine g_aload_n hC (gDec_at DX6_next_0 12 rfl) rfl ?_
  refine g_get (w := wC q) hC 0 (v := .ref (q.2.2 9)) fl_X6_19 (show 0 < 63 from by decide) rfl rfl (gDec_at DX6_next_0 13 rfl) ?_
  refine g_iload_n hC (gDec_at DX6_next_0 14 rfl) rfl ?_
  refine g_iload_n hC (gDec_at DX6_next_0 15 rfl) rfl ?_
  refine g_callVd (w := wC q) hC 3 (c_X2_nextPlace q hI (x := x) (f := f) (by omega) (by omega)) vf_X2_nextPlace ml_X6_159 (by decide) (show 3 < 63 from by decide) rfl rfl rfl rfl rfl (Nat.le_of_ble_eq_true rfl) (gDec_at DX6_next_0 16 rfl) ?_
  refine g_iret hC (gDec_at DX6_next_0 17 rfl) ?_
  exact ⟨rfl, rfl⟩

section CPY
variable {X : gX} {w : gW} {post : Option Value → gM → Prop} {nL : Nat} {M : gM} {pc : Nat} {L : List (Nat × Value)} {cc : ByteArray} {own : String} {ret : Option FieldType} {d idx : Nat}
/-- a row of ints put whole -/
def gupR (M : gM) (i : Nat) (r : Nat → Int32) : gM := (fun j => if j = i then r else M.1 j, M.2)
theorem g_copyi (hC : gC X w cc nL own ret d) (i0 i1 t0 : Nat) {cA : ClassId} {n0 n1 n : Nat} {f g : Nat → Int32} (hlk : Cond.methodLink own idx arraycopyName ∈ gTb) (hst : Cond.static arraycopyName ∈ gTb) (hnat : Cond.native arraycopyName ∈ gTb) (hini : Cond.initialized "java/lang/System" ∈ gTb) (hd2 : 2 ≤ d) (h0 : i0 < w.2.2.1) (h1 : i1 < w.2.2.1) (hF0 : w.2.2.2.2 (M.1 i0) (M.2 i0) i0 = .inl (cA, n0, .inl f)) (hF1 : w.2.2.2.2 (M.1 i1) (M.2 i1) i1 = .inl (cA, n1, .inl g)) (ht : w.2.1[t0]? = some (cA, .int)) (hn0 : n ≤ n0) (hn1 : n ≤ n1) (hn : n < 2147483648) (hF' : w.2.2.2.2 (va_cpy f g 0 0 n) (M.2 i1) i1 = .inl (cA, n1, .inl (va_cpy f g 0 0 n))) (hd : decode cc pc = .ok (.invokestatic idx, 3)) (kk : gG X w post nL (gupR M i1 (va_cpy f g 0 0 n)) (pc + 3) L []) : gG X w post nL M pc L [.int (nI n), .int (nI 0), .ref (w.2.2.2.1 i1), .int (nI 0), .ref (w.2.2.2.1 i0)] := by
  intro H locs ls hP hS hL
  have hts := hC.2.2.2.2.1
  have hr := hC.2.2.2.2.2.2.2.2.2.2
  have e0 : (gws w.2.2.1 w.2.2.2.1 (fun i => w.2.2.2.2 (M.1 i) (M.2 i) i))[i0]? = some (w.2.2.2.1 i0, .inl (cA, n0, .inl f)) := by rw [gws_get h0, hF0]
  have e1 : (gws w.2.2.1 w.2.2.2.1 (fun i => w.2.2.2.2 (M.1 i) (M.2 i) i))[i1]? = some (w.2.2.2.1 i1, .inl (cA, n1, .inl g)) := by rw [gws_get h1, hF1]
  have hset : (gws w.2.2.1 w.2.2.2.1 (fun i => w.2.2.2.2 (M.1 i) (M.2 i) i)).set i1 (w.2.2.2.1 i1, .inl (cA, n1, .inl (va_cpy f g 0 0 n))) = gws w.2.2.1 w.2.2.2.1 (fun i => w.2.2.2.2 ((gupR M i1 (va_cpy f g 0 0 n)).1 i) ((gupR M i1 (va_cpy f g 0 0 n)).2 i) i) := gws_set (fun j hj => by
    by_cases e : j = i1
    · subst e; simp only [gupR, if_pos]; exact hF'
    · simp only [gupR, if_neg e])
  have c0 : (nI 0).toNatClampNeg = 0 := rfl
  have cn : (nI n).toNatClampNeg = n := nI_clamp hn
  refine va_copyi hC.1 hC.2.1 (by rw [hC.2.2.1]; exact hL.1.symm) hC.2.2.2.1 (hts _ hlk) (hts _ hnat) (hts _ hst) (hts _ hini) hC.2.2.2.2.2.2.2.1 hP (gI.D hC.2.2.2.2.2.2.2.2.1 _) hS i0 i1 t0 t0 e0 e1 ht ht rfl (nI_pos (by omega)) (nI_pos (by omega)) (nI_pos hn) (by rw [c0, cn]; omega) (by rw [c0, cn]; omega) (fun _ _ => rfl) (by omega) (by show 0 + (5 + 2 + 11) ≤ _; omega) hd (fun H1 locs1 hP1 _ hS1 => ?_)
  rw [c0, cn, hset] at hP1
  exact kk H1 locs1 ls hP1 hS1 hL
end CPY
theorem ac_facts : Cond.static arraycopyName ∈ gTb ∧ Cond.native arraycopyName ∈ gTb ∧ Cond.initialized "java/lang/System" ∈ gTb := ⟨gTb_in (List.mem_of_getElem? (i := 501) (by decide +kernel)) rfl, gTb_in (List.mem_of_getElem? (i := 502) (by decide +kernel)) rfl, gTb_in (List.mem_of_getElem? (i := 42) (by decide +kernel)) rfl⟩
/-- the best so far: EVEN and 1 (0: none), how many scrapes, which -/
abbrev gT : Type := Nat × Nat × (Nat → Nat)
def jdg (P f : Nat) (B : gB) (tk : Nat) (wy : Nat → Nat) (T : gT) : gT := if f * sAll B ≤ P ∧ (T.1 < sEvn B P (sAll B) + 1 ∨ (T.1 = sEvn B P (sAll B) + 1 ∧ tk < T.2.1)) then (sEvn B P (sAll B) + 1, tk, wy) else T
def gfold {α : Type} (g : Nat → α → α) : Nat → α → α
  | 0, T => T
  | n + 1, T => g n (gfold g n T)
/-- the look ahead, d scrapes deep, from a bow B from which tk were taken at the places wy -/
def sTry (P f : Nat) : Nat → gB → Nat → Nat → (Nat → Nat) → gT → gT
  | 0, B, _, tk, wy, T => jdg P f B tk wy T
  | d + 1, B, fr, tk, wy, T => gfold (fun j T => if j % 6 < B 9 0 ∧ fr ≤ sTold j ∧ 4 < B 1 j then sTry P f d (dec B j) (sTold j) (tk + 1) (fun i => if i = tk then sTold j else wy i) T else T) 12 (jdg P f B tk wy T)
/-- what Search holds -/
def qS (M : gM) (P f mo tk : Nat) (wy : Nat → Nat) (T : gT) : Prop := M.2 3 4 = lN P ∧ M.1 3 5 = nI f ∧ M.1 3 6 = nI mo ∧ M.1 3 3 = bk T.1 ∧ M.1 3 2 = nI T.2.1 ∧ T.1 ≤ 1001 ∧ T.2.1 ≤ 3 ∧ (∀ i, i < tk → M.1 4 i = nI (wy i)) ∧ ∀ i, i < T.2.1 → M.1 5 i = nI (T.2.2 i)
/-- only Search's cells are otherwise -/
def qO (M M' : gM) : Prop := ∀ i, i ≠ 3 → i ≠ 4 → i ≠ 5 → M'.1 i = M.1 i
theorem qO_rf {M : gM} : qO M M := fun _ _ _ _ => rfl
theorem qO_tr {M M1 M2 : gM} (h : qO M M1) (h2 : qO M1 M2) : qO M M2 := fun i a b c => (h2 i a b c).trans (h i a b c)
theorem cI_q {M M' : gM} {B : gB} (hI : cI M B) (h : qO M M') : cI M' B := by
  obtain ⟨hK, ⟨h1, h2, h3, h4⟩, hV⟩ := hI
  refine ⟨fun b hb j hj => ?_, ⟨?_, ?_, fun k hk => ?_, fun j hj ht => ?_⟩, hV⟩
  · rw [h _ (by omega) (by omega) (by omega)]; exact hK b hb j hj
  · rw [h _ (by omega) (by omega) (by omega)]; exact h1
  · rw [h _ (by omega) (by omega) (by omega)]; exact h2
  · rw [h _ (by omega) (by omega) (by omega)]; exact h3 k hk
  · rw [h _ (by omega) (by omega) (by omega)]; exact h4 j hj ht
theorem bk_s (e : Nat) : bk (e + 1) = nI e := if_neg (by omega)
theorem bk_lt {e E : Nat} (he : e ≤ 1000) (hE : E ≤ 1001) : bk E < nI e ↔ E < e + 1 := by
  unfold bk
  by_cases h : E = 0
  · rw [if_pos h, lt_I, nI_toInt (by omega), show (-9 : Int32).toInt = -9 by decide]; omega
  · rw [if_neg h, nI_ltI (by omega) (by omega)]; omega
theorem bk_eq {e E : Nat} (he : e ≤ 1000) (hE : E ≤ 1001) : nI e = bk E ↔ E = e + 1 := by
  unfold bk
  by_cases h : E = 0
  · rw [if_pos h]
    constructor
    · intro q; exact absurd q (nI_n9 (by omega))
    · intro q; omega
  · rw [if_neg h, nI_eq (by omega) (by omega)]; omega
theorem gupR_get (M : gM) (i : Nat) (r : Nat → Int32) (a b : Nat) : (gupR M i r).1 a b = if a = i then r b else M.1 a b := by
  unfold gupR
  by_cases h : a = i
  · simp [h]
  · simp [h]
theorem jdg_q {M : gM} {P f mo tk e : Nat} {wy : Nat → Nat} {T : gT} (h : qS M P f mo tk wy T) (he : e ≤ 1000) (ht : tk ≤ 3) : qS (gupR (gupd (gupd M 3 3 (nI e)) 3 2 (nI tk)) 5 (va_cpy (M.1 4) (M.1 5) 0 0 3)) P f mo tk wy (e + 1, tk, wy) := by
  obtain ⟨h1, h2, h3, h4, h5, h6, h7, h8, h9⟩ := h
  refine ⟨h1, ?_, ?_, ?_, ?_, ?_, ht, fun i hi => ?_, fun i hi => ?_⟩
  · rw [gupR_get, if_neg (by decide), gupd_get, if_neg (by decide), gupd_get, if_neg (by decide)]; exact h2
  · rw [gupR_get, if_neg (by decide), gupd_get, if_neg (by decide), gupd_get, if_neg (by decide)]; exact h3
  · rw [gupR_get, if_neg (by decide), gupd_get, if_neg (by decide), gupd_get, if_pos ⟨rfl, rfl⟩, bk_s]
  · rw [gupR_get, if_neg (by decide), gupd_get, if_pos ⟨rfl, rfl⟩]
  · show e + 1 ≤ 1001; omega
  · rw [gupR_get, if_neg (by decide), gupd_get, if_neg (by omega), gupd_get, if_neg (by omega)]; exact h8 i hi
  · have hi : i < tk := hi
    rw [gupR_get, if_pos rfl]
    unfold va_cpy
    rw [if_pos ⟨by omega, by omega⟩]
    simp only [Nat.sub_zero, Nat.zero_add]
    exact h8 i hi
theorem jdg_o {M : gM} {e tk : Nat} {r : Nat → Int32} : qO M (gupR (gupd (gupd M 3 3 (nI e)) 3 2 (nI tk)) 5 r) := by
  intro i h3 h4 h5
  funext b
  rw [gupR_get, if_neg h5, gupd_get, if_neg (by omega), gupd_get, if_neg (by omega)]
set_option maxRecDepth 100000 in
set_option maxHeartbeats 4000000 in
theorem c_X2_judge (q : gQ3) {M : gM} {B : gB} (hI : cI M B) {P f mo tk : Nat} {wy : Nat → Nat} {T : gT} (hq : qS M P f mo tk wy T) (hP : P ≤ 80000000) (hf : f ≤ 999) (htk : tk ≤ 3) : gCt (wC q) yX2_judge cX2_judge 6 none 3 [.ref (q.2.2 3), .ref (q.2.2 9), .int (nI tk), .long (lN (sAll B))] M (fun v M' => v = none ∧ qS M' P f mo tk wy (jdg P f B tk wy T) ∧ qO M M') := by
  refine gMet RX2 (by decide +kernel) rfl (Nat.le_of_ble_eq_true rfl) (fun X hC => ?_)
  have hC : gC X (wC q) cX2_judge 6 RX2 none 3 := hC
  show gG X (wC q) _ 6 M 0 [(0, .ref (q.2.2 3)), (1, .ref (q.2.2 9)), (2, .int (nI tk)), (3, .long (lN (sAll B)))] []
  obtain ⟨q1, q2, q3, q4, q5, q6, q7, q8, q9⟩ := id hq
  have hm := bv_many hI.2.2
  have hal := sAll_le B
  have hev := sEvn_le hm.1 P (sAll B)
  refine g_aload_n hC (gDec_at DX2_judge_0 0 rfl) rfl ?_
  refine g_aload_n hC (gDec_at DX2_judge_0 1 rfl) rfl ?_
  refine g_get (w := wC q) hC 3 (v := .int (nI f)) fl_X2_60 (show 3 < 63 from by decide) rfl (g_sv q2) (gDec_at DX2_judge_0 2 rfl) ?_
  refine g_aload_n hC (gDec_at DX2_judge_0 3 rfl) rfl ?_
  refine g_get (w := wC q) hC 3 (v := .long (lN P)) fl_X2_56 (show 3 < 63 from by decide) rfl (congrArg (fun z => some (Value.long z)) q1) (gDec_at DX2_judge_0 4 rfl) ?_
  refine g_lload_n hC (gDec_at DX2_judge_0 5 rfl) rfl ?_
  refine g_callVd (w := wC q) hC 9 (c_X0_weighs q (f := f) (pull := P) (gives := sAll B) hf hP hal) vf_X0_weighs ml_X2_49 (by decide) (show 9 < 63 from by decide) rfl rfl rfl rfl rfl (Nat.le_of_ble_eq_true rfl) (gDec_at DX2_judge_0 6 rfl) ?_
  refine g_if_neB hC (gDec_at DX2_judge_0 7 rfl) 17 (by decide) (fun h13 => ?_) (fun h13 => ?_)
  · skip
    refine g_aload_n hC (gDec_at DX2_judge_0 9 rfl) rfl ?_
    refine g_aload_n hC (gDec_at DX2_judge_0 10 rfl) rfl ?_
    refine g_get (w := wC q) hC 3 (v := .long (lN P)) fl_X2_56 (show 3 < 63 from by decide) rfl (congrArg (fun z => some (Value.long z)) q1) (gDec_at DX2_judge_0 11 rfl) ?_
    refine g_lload_n hC (gDec_at DX2_judge_0 12 rfl) rfl ?_
    refine g_callVd (w := wC q) hC 9 (c_X0_evenness q hI (pull := P) (gives := sAll B) hP hal) vf_X0_evenness ml_X2_32 (by decide) (show 9 < 63 from by decide) rfl rfl rfl rfl rfl (Nat.le_of_ble_eq_true rfl) (gDec_at DX2_judge_0 13 rfl) ?_
    refine g_istore hC (gDec_at DX2_judge_0 14 rfl) (by decide) (L' := [(5, .int (nI (sEvn B P (sAll B)))), (0, .ref (q.2.2 3)), (1, .ref (q.2.2 9)), (2, .int (nI tk)), (3, .long (lN (sAll B)))]) rfl ?_
    refine g_iload hC (gDec_at DX2_judge_0 15 rfl) rfl ?_
    refine g_aload_n hC (gDec_at DX2_judge_0 16 rfl) rfl ?_
    refine g_get (w := wC q) hC 3 (v := .int (bk T.1)) fl_X2_18 (show 3 < 63 from by decide) rfl (g_sv q4) (gDec_at DX2_judge_0 17 rfl) ?_
    refine g_icmp_gt hC (gDec_at DX2_judge_0 18 rfl) 54 (by decide) (fun h34 => ?_) (fun h34 => ?_)
    · skip
      have h34 := (bk_lt hev q6).mp h34
      refine g_aload_n hC (gDec_at DX2_judge_0 27 rfl) rfl ?_
      refine g_iload hC (gDec_at DX2_judge_0 28 rfl) rfl ?_
      refine g_putI (w := wC q) hC 3 fl_X2_18 fp_2_3 (show 3 < 63 from by decide) rfl (Nat.le_of_ble_eq_true rfl) rfl rfl (gDec_at DX2_judge_0 29 rfl) ?_
      refine g_aload_n hC (gDec_at DX2_judge_0 30 rfl) rfl ?_
      refine g_iload_n hC (gDec_at DX2_judge_0 31 rfl) rfl ?_
      refine g_putI (w := wC q) hC 3 fl_X2_66 fp_2_2 (show 3 < 63 from by decide) rfl (Nat.le_of_ble_eq_true rfl) rfl rfl (gDec_at DX2_judge_0 32 rfl) ?_
      refine g_aload_n hC (gDec_at DX2_judge_0 33 rfl) rfl ?_
      refine g_get (w := wC q) hC 3 (v := .ref (q.2.2 4)) fl_X2_9 (show 3 < 63 from by decide) rfl rfl (gDec_at DX2_judge_0 34 rfl) ?_
      refine g_iconst hC (gDec_at DX2_judge_0 35 rfl) (v := nI 0) (by decide) ?_
      refine g_aload_n hC (gDec_at DX2_judge_0 36 rfl) rfl ?_
      refine g_get (w := wC q) hC 3 (v := .ref (q.2.2 5)) fl_X2_15 (show 3 < 63 from by decide) rfl rfl (gDec_at DX2_judge_0 37 rfl) ?_
      refine g_iconst hC (gDec_at DX2_judge_0 38 rfl) (v := nI 0) (by decide) ?_
      refine g_aload_n hC (gDec_at DX2_judge_0 39 rfl) rfl ?_
      refine g_get (w := wC q) hC 3 (v := .ref (q.2.2 4)) fl_X2_9 (show 3 < 63 from by decide) rfl rfl (gDec_at DX2_judge_0 40 rfl) ?_
      refine g_alen (w := wC q) hC 4 0 (show 4 < 63 from by decide) rfl rfl (gDec_at DX2_judge_0 41 rfl) ?_
      refine g_aload_n hC (gDec_at DX2_judge_0 42 rfl) rfl ?_
      refine g_get (w := wC q) hC 3 (v := .ref (q.2.2 5)) fl_X2_15 (show 3 < 63 from by decide) rfl rfl (gDec_at DX2_judge_0 43 rfl) ?_
      refine g_alen (w := wC q) hC 5 0 (show 5 < 63 from by decide) rfl rfl (gDec_at DX2_judge_0 44 rfl) ?_
      refine g_mmin ml_X2_81 hC jm_min (by decide) (v := (nI 3)) (if_neg (show ¬ nI 3 < nI 3 by decide)) (Nat.le_of_ble_eq_true rfl) (gDec_at DX2_judge_0 45 rfl) ?_
      refine g_copyi (w := wC q) hC 4 5 0 ml_X2_87 ac_facts.1 ac_facts.2.1 ac_facts.2.2 (by decide) (show 4 < 63 from by decide) (show 5 < 63 from by decide) rfl rfl rfl (by decide) (by decide) (by decide) rfl (gDec_at DX2_judge_0 46 rfl) ?_
      refine g_vret hC (gDec_at DX2_judge_0 47 rfl) ?_
      exact ⟨rfl, by rw [show jdg P f B tk wy T = (sEvn B P (sAll B) + 1, tk, wy) from if_pos ⟨h13, Or.inl (by omega)⟩]; exact jdg_q hq hev htk, jdg_o⟩
    · skip
      have h34 : ¬ T.1 < sEvn B P (sAll B) + 1 := fun z => h34 ((bk_lt hev q6).mpr z)
      refine g_iload hC (gDec_at DX2_judge_0 19 rfl) rfl ?_
      refine g_aload_n hC (gDec_at DX2_judge_0 20 rfl) rfl ?_
      refine g_get (w := wC q) hC 3 (v := .int (bk T.1)) fl_X2_18 (show 3 < 63 from by decide) rfl (g_sv q4) (gDec_at DX2_judge_0 21 rfl) ?_
      refine g_icmp_ne hC (gDec_at DX2_judge_0 22 rfl) 91 (by decide) (fun h43 => ?_) (fun h43 => ?_)
      · skip
        have h43 : ¬ T.1 = sEvn B P (sAll B) + 1 := fun z => h43 ((bk_eq hev q6).mpr z)
        refine g_vret hC (gDec_at DX2_judge_0 47 rfl) ?_
        exact ⟨rfl, by rw [show jdg P f B tk wy T = T from if_neg (fun z => by have z2 := z.2; omega)]; exact hq, qO_rf⟩
      · skip
        have h43 := (bk_eq hev q6).mp h43
        refine g_iload_n hC (gDec_at DX2_judge_0 23 rfl) rfl ?_
        refine g_aload_n hC (gDec_at DX2_judge_0 24 rfl) rfl ?_
        refine g_get (w := wC q) hC 3 (v := .int (nI T.2.1)) fl_X2_66 (show 3 < 63 from by decide) rfl (g_sv q5) (gDec_at DX2_judge_0 25 rfl) ?_
        refine g_icmp_geN hC (by omega) (by omega) (gDec_at DX2_judge_0 26 rfl) 91 (by decide) (fun h51 => ?_) (fun h51 => ?_)
        · skip
          refine g_vret hC (gDec_at DX2_judge_0 47 rfl) ?_
          exact ⟨rfl, by rw [show jdg P f B tk wy T = T from if_neg (fun z => by have z2 := z.2; omega)]; exact hq, qO_rf⟩
        · skip
          refine g_aload_n hC (gDec_at DX2_judge_0 27 rfl) rfl ?_
          refine g_iload hC (gDec_at DX2_judge_0 28 rfl) rfl ?_
          refine g_putI (w := wC q) hC 3 fl_X2_18 fp_2_3 (show 3 < 63 from by decide) rfl (Nat.le_of_ble_eq_true rfl) rfl rfl (gDec_at DX2_judge_0 29 rfl) ?_
          refine g_aload_n hC (gDec_at DX2_judge_0 30 rfl) rfl ?_
          refine g_iload_n hC (gDec_at DX2_judge_0 31 rfl) rfl ?_
          refine g_putI (w := wC q) hC 3 fl_X2_66 fp_2_2 (show 3 < 63 from by decide) rfl (Nat.le_of_ble_eq_true rfl) rfl rfl (gDec_at DX2_judge_0 32 rfl) ?_
          refine g_aload_n hC (gDec_at DX2_judge_0 33 rfl) rfl ?_
          refine g_get (w := wC q) hC 3 (v := .ref (q.2.2 4)) fl_X2_9 (show 3 < 63 from by decide) rfl rfl (gDec_at DX2_judge_0 34 rfl) ?_
          refine g_iconst hC (gDec_at DX2_judge_0 35 rfl) (v := nI 0) (by decide) ?_
          refine g_aload_n hC (gDec_at DX2_judge_0 36 rfl) rfl ?_
          refine g_get (w := wC q) hC 3 (v := .ref (q.2.2 5)) fl_X2_15 (show 3 < 63 from by decide) rfl rfl (gDec_at DX2_judge_0 37 rfl) ?_
          refine g_iconst hC (gDec_at DX2_judge_0 38 rfl) (v := nI 0) (by decide) ?_
          refine g_aload_n hC (gDec_at DX2_judge_0 39 rfl) rfl ?_
          refine g_get (w := wC q) hC 3 (v := .ref (q.2.2 4)) fl_X2_9 (show 3 < 63 from by decide) rfl rfl (gDec_at DX2_judge_0 40 rfl) ?_
          refine g_alen (w := wC q) hC 4 0 (show 4 < 63 from by decide) rfl rfl (gDec_at DX2_judge_0 41 rfl) ?_
          refine g_aload_n hC (gDec_at DX2_judge_0 42 rfl) rfl ?_
          refine g_get (w := wC q) hC 3 (v := .ref (q.2.2 5)) fl_X2_15 (show 3 < 63 from by decide) rfl rfl (gDec_at DX2_judge_0 43 rfl) ?_
          refine g_alen (w := wC q) hC 5 0 (show 5 < 63 from by decide) rfl rfl (gDec_at DX2_judge_0 44 rfl) ?_
          refine g_mmin ml_X2_81 hC jm_min (by decide) (v := (nI 3)) (if_neg (show ¬ nI 3 < nI 3 by decide)) (Nat.le_of_ble_eq_true rfl) (gDec_at DX2_judge_0 45 rfl) ?_
          refine g_copyi (w := wC q) hC 4 5 0 ml_X2_87 ac_facts.1 ac_facts.2.1 ac_facts.2.2 (by decide) (show 4 < 63 from by decide) (show 5 < 63 from by decide) rfl rfl rfl (by decide) (by decide) (by decide) rfl (gDec_at DX2_judge_0 46 rfl) ?_
          refine g_vret hC (gDec_at DX2_judge_0 47 rfl) ?_
          exact ⟨rfl, by rw [show jdg P f B tk wy T = (sEvn B P (sAll B) + 1, tk, wy) from if_pos ⟨h13, Or.inr ⟨by omega, by omega⟩⟩]; exact jdg_q hq hev htk, jdg_o⟩
  · skip
    refine g_vret hC (gDec_at DX2_judge_0 8 rfl) ?_
    exact ⟨rfl, by rw [show jdg P f B tk wy T = T from if_neg (fun z => h13 z.1)]; exact hq, qO_rf⟩
