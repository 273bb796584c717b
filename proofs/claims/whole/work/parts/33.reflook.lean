/-! THE REFERENCE: best, bestAt -/
theorem c_X7_findBest (q : gQ3) {M : gM} {B : gB} (hI : mI M B) {x f n : Nat} (hx : x ≤ 40) (hf : f ≤ 999) (h1 : 1 ≤ n) (h3 : n ≤ 3) : gCt (wM q) yX7_findBest cX7_findBest 6 none 9 [.ref (q.2.2 0), .int (nI x), .int (nI f), .int (nI n)] M (fun v M' => v = none ∧ tS M' 0 (fun _ => 0) (mBest B x f n) ∧ mQ M M') := by
  rcases (show n = 1 ∨ n = 2 ∨ n = 3 by omega) with rfl | rfl | rfl
  · exact c_X7_findBest_1 q hI hx hf
  · exact c_X7_findBest_2 q hI hx hf
  · exact c_X7_findBest_3 q hI hx hf
set_option maxRecDepth 100000 in
set_option maxHeartbeats 4000000 in
theorem c_X7_in_gen (q : gQ3) {M : gM} {v a b : Int64} : gCt (wM q) yX7_in cX7_in 6 (some .boolean) 0 [.long v, .long a, .long b] M (gR (some (.int (gb (¬ v < a ∧ ¬ b < v)))) M) := by
  refine gMet RX7 (by decide +kernel) rfl (Nat.le_of_ble_eq_true rfl) (fun X hC => ?_)
  have hC : gC X (wM q) cX7_in 6 RX7 (some .boolean) 0 := hC
  show gG X (wM q) _ 6 M 0 [(0, .long v), (2, .long a), (4, .long b)] []
  refine g_lload_n hC (gDec_at DX7_in_0 0 rfl) rfl ?_
  refine g_lload_n hC (gDec_at DX7_in_0 1 rfl) rfl ?_
  refine g_lc_lt hC (gDec_at DX7_in_0 2 rfl) (gDec_at DX7_in_0 3 rfl) 17 (by decide) (fun h2 => ?_) (fun h2 => ?_)
  · skip
    refine g_iconst hC (gDec_at DX7_in_0 10 rfl) (v := nI 0) (by decide) ?_
    refine g_zret hC (Or.inl rfl) (gDec_at DX7_in_0 11 rfl) ?_
    exact ⟨by rw [gb_f (show ¬ (¬ v < a ∧ ¬ b < v) from fun z => absurd (by assumption) z.1)]; rfl, rfl⟩
  · skip
    refine g_lload_n hC (gDec_at DX7_in_0 4 rfl) rfl ?_
    refine g_lload hC (gDec_at DX7_in_0 5 rfl) rfl ?_
    refine g_lc_gt hC (gDec_at DX7_in_0 6 rfl) (gDec_at DX7_in_0 7 rfl) 17 (by decide) (fun h9 => ?_) (fun h9 => ?_)
    · skip
      refine g_iconst hC (gDec_at DX7_in_0 10 rfl) (v := nI 0) (by decide) ?_
      refine g_zret hC (Or.inl rfl) (gDec_at DX7_in_0 11 rfl) ?_
      exact ⟨by rw [gb_f (show ¬ (¬ v < a ∧ ¬ b < v) from fun z => absurd (by assumption) z.2)]; rfl, rfl⟩
    · skip
      refine g_iconst hC (gDec_at DX7_in_0 8 rfl) (v := nI 1) (by decide) ?_
      refine g_goto hC (gDec_at DX7_in_0 9 rfl) 18 (by decide) ?_
      refine g_zret hC (Or.inr rfl) (gDec_at DX7_in_0 11 rfl) ?_
      exact ⟨by rw [gb_t (show ¬ v < a ∧ ¬ b < v from ⟨by assumption, by assumption⟩)]; rfl, rfl⟩

set_option maxRecDepth 100000 in
set_option maxHeartbeats 4000000 in
theorem c_X7_best_badx (q : gQ3) {M : gM} {B : gB} (hI : mI M B) {x : Int32} (hx : ¬ gin x 0 40) {f n : Int32} : gCt (wM q) yX7_best cX7_best 4 (some .int) 8 [.ref (q.2.2 0), .int x, .int f, .int n] M (gR (some (.int (-2))) M) := by
  refine gMet RX7 (by decide +kernel) rfl (Nat.le_of_ble_eq_true rfl) (fun X hC => ?_)
  have hC : gC X (wM q) cX7_best 4 RX7 (some .int) 8 := hC
  show gG X (wM q) _ 4 M 0 [(0, .ref (q.2.2 0)), (1, .int x), (2, .int f), (3, .int n)] []
  refine g_aload_n hC (gDec_at DX7_best_0 0 rfl) rfl ?_
  refine g_iconst hC (gDec_at DX7_best_0 1 rfl) (v := nI 0) (by decide) ?_
  refine g_putI (w := wM q) hC 0 fl_X7_67 fp_7_0 (show 0 < 17 from by decide) rfl (Nat.le_of_ble_eq_true rfl) rfl rfl (gDec_at DX7_best_0 2 rfl) ?_
  refine g_M (mi_0 hI) ?_
  refine g_iload_n hC (gDec_at DX7_best_0 3 rfl) rfl ?_
  refine g_iload_n hC (gDec_at DX7_best_0 4 rfl) rfl ?_
  refine g_iload_n hC (gDec_at DX7_best_0 5 rfl) rfl ?_
  refine g_callSd (w := wM q) hC (c_X7_noSearch_0 q hx) sf_X7_noSearch ml_X7_199 (by decide) rfl rfl (Nat.le_of_ble_eq_true rfl) (gDec_at DX7_best_0 6 rfl) ?_
  refine g_if_eqN hC (by decide) (gDec_at DX7_best_0 7 rfl) 17 (by decide) (fun h => absurd h (by decide)) (fun h => ?_)
  refine g_bipush hC (gDec_at DX7_best_0 8 rfl) (v := -2) (by decide) ?_
  refine g_iret hC (gDec_at DX7_best_0 9 rfl) ?_
  exact ⟨rfl, rfl⟩

set_option maxRecDepth 100000 in
set_option maxHeartbeats 4000000 in
theorem c_X7_best_badf (q : gQ3) {M : gM} {B : gB} (hI : mI M B) {x : Nat} (hx : x ≤ 40) {f : Int32} (hf : ¬ gin f 0 999) {n : Int32} : gCt (wM q) yX7_best cX7_best 4 (some .int) 8 [.ref (q.2.2 0), .int (nI x), .int f, .int n] M (gR (some (.int (-2))) M) := by
  refine gMet RX7 (by decide +kernel) rfl (Nat.le_of_ble_eq_true rfl) (fun X hC => ?_)
  have hC : gC X (wM q) cX7_best 4 RX7 (some .int) 8 := hC
  show gG X (wM q) _ 4 M 0 [(0, .ref (q.2.2 0)), (1, .int (nI x)), (2, .int f), (3, .int n)] []
  refine g_aload_n hC (gDec_at DX7_best_0 0 rfl) rfl ?_
  refine g_iconst hC (gDec_at DX7_best_0 1 rfl) (v := nI 0) (by decide) ?_
  refine g_putI (w := wM q) hC 0 fl_X7_67 fp_7_0 (show 0 < 17 from by decide) rfl (Nat.le_of_ble_eq_true rfl) rfl rfl (gDec_at DX7_best_0 2 rfl) ?_
  refine g_M (mi_0 hI) ?_
  refine g_iload_n hC (gDec_at DX7_best_0 3 rfl) rfl ?_
  refine g_iload_n hC (gDec_at DX7_best_0 4 rfl) rfl ?_
  refine g_iload_n hC (gDec_at DX7_best_0 5 rfl) rfl ?_
  refine g_callSd (w := wM q) hC (c_X7_noSearch_1 q (by omega) (by omega) hf) sf_X7_noSearch ml_X7_199 (by decide) rfl rfl (Nat.le_of_ble_eq_true rfl) (gDec_at DX7_best_0 6 rfl) ?_
  refine g_if_eqN hC (by decide) (gDec_at DX7_best_0 7 rfl) 17 (by decide) (fun h => absurd h (by decide)) (fun h => ?_)
  refine g_bipush hC (gDec_at DX7_best_0 8 rfl) (v := -2) (by decide) ?_
  refine g_iret hC (gDec_at DX7_best_0 9 rfl) ?_
  exact ⟨rfl, rfl⟩

set_option maxRecDepth 100000 in
set_option maxHeartbeats 4000000 in
theorem c_X7_best_badn (q : gQ3) {M : gM} {B : gB} (hI : mI M B) {x : Nat} (hx : x ≤ 40) {f : Nat} (hfa : 0 ≤ f) (hfb : f ≤ 999) {n : Int32} (hn : ¬ gin n 1 3) : gCt (wM q) yX7_best cX7_best 4 (some .int) 8 [.ref (q.2.2 0), .int (nI x), .int (nI f), .int n] M (gR (some (.int (-2))) M) := by
  refine gMet RX7 (by decide +kernel) rfl (Nat.le_of_ble_eq_true rfl) (fun X hC => ?_)
  have hC : gC X (wM q) cX7_best 4 RX7 (some .int) 8 := hC
  show gG X (wM q) _ 4 M 0 [(0, .ref (q.2.2 0)), (1, .int (nI x)), (2, .int (nI f)), (3, .int n)] []
  refine g_aload_n hC (gDec_at DX7_best_0 0 rfl) rfl ?_
  refine g_iconst hC (gDec_at DX7_best_0 1 rfl) (v := nI 0) (by decide) ?_
  refine g_putI (w := wM q) hC 0 fl_X7_67 fp_7_0 (show 0 < 17 from by decide) rfl (Nat.le_of_ble_eq_true rfl) rfl rfl (gDec_at DX7_best_0 2 rfl) ?_
  refine g_M (mi_0 hI) ?_
  refine g_iload_n hC (gDec_at DX7_best_0 3 rfl) rfl ?_
  refine g_iload_n hC (gDec_at DX7_best_0 4 rfl) rfl ?_
  refine g_iload_n hC (gDec_at DX7_best_0 5 rfl) rfl ?_
  refine g_callSd (w := wM q) hC (c_X7_noSearch_2 q (by omega) (by omega) (by omega) (by omega) hn) sf_X7_noSearch ml_X7_199 (by decide) rfl rfl (Nat.le_of_ble_eq_true rfl) (gDec_at DX7_best_0 6 rfl) ?_
  refine g_if_eqN hC (by decide) (gDec_at DX7_best_0 7 rfl) 17 (by decide) (fun h => absurd h (by decide)) (fun h => ?_)
  refine g_bipush hC (gDec_at DX7_best_0 8 rfl) (v := -2) (by decide) ?_
  refine g_iret hC (gDec_at DX7_best_0 9 rfl) ?_
  exact ⟨rfl, rfl⟩

set_option maxRecDepth 100000 in
set_option maxHeartbeats 4000000 in
theorem c_X7_bestAt_badx (q : gQ3) {M : gM} {B : gB} (hI : mI M B) {x : Int32} (hx : ¬ gin x 0 40) {f n : Int32} {y : Int32} : gCt (wM q) yX7_bestAt cX7_bestAt 5 (some .int) 8 [.ref (q.2.2 0), .int x, .int f, .int n, .int y] M (gR (some (.int (-2))) M) := by
  refine gMet RX7 (by decide +kernel) rfl (Nat.le_of_ble_eq_true rfl) (fun X hC => ?_)
  have hC : gC X (wM q) cX7_bestAt 5 RX7 (some .int) 8 := hC
  show gG X (wM q) _ 5 M 0 [(0, .ref (q.2.2 0)), (1, .int x), (2, .int f), (3, .int n), (4, .int y)] []
  refine g_aload_n hC (gDec_at DX7_bestAt_0 0 rfl) rfl ?_
  refine g_iconst hC (gDec_at DX7_bestAt_0 1 rfl) (v := nI 0) (by decide) ?_
  refine g_putI (w := wM q) hC 0 fl_X7_67 fp_7_0 (show 0 < 17 from by decide) rfl (Nat.le_of_ble_eq_true rfl) rfl rfl (gDec_at DX7_bestAt_0 2 rfl) ?_
  refine g_M (mi_0 hI) ?_
  refine g_iload_n hC (gDec_at DX7_bestAt_0 3 rfl) rfl ?_
  refine g_iload_n hC (gDec_at DX7_bestAt_0 4 rfl) rfl ?_
  refine g_iload_n hC (gDec_at DX7_bestAt_0 5 rfl) rfl ?_
  refine g_callSd (w := wM q) hC (c_X7_noSearch_0 q hx) sf_X7_noSearch ml_X7_199 (by decide) rfl rfl (Nat.le_of_ble_eq_true rfl) (gDec_at DX7_bestAt_0 6 rfl) ?_
  refine g_if_eqN hC (by decide) (gDec_at DX7_bestAt_0 7 rfl) 17 (by decide) (fun h => absurd h (by decide)) (fun h => ?_)
  refine g_bipush hC (gDec_at DX7_bestAt_0 8 rfl) (v := -2) (by decide) ?_
  refine g_iret hC (gDec_at DX7_bestAt_0 9 rfl) ?_
  exact ⟨rfl, rfl⟩

set_option maxRecDepth 100000 in
set_option maxHeartbeats 4000000 in
theorem c_X7_bestAt_badf (q : gQ3) {M : gM} {B : gB} (hI : mI M B) {x : Nat} (hx : x ≤ 40) {f : Int32} (hf : ¬ gin f 0 999) {n : Int32} {y : Int32} : gCt (wM q) yX7_bestAt cX7_bestAt 5 (some .int) 8 [.ref (q.2.2 0), .int (nI x), .int f, .int n, .int y] M (gR (some (.int (-2))) M) := by
  refine gMet RX7 (by decide +kernel) rfl (Nat.le_of_ble_eq_true rfl) (fun X hC => ?_)
  have hC : gC X (wM q) cX7_bestAt 5 RX7 (some .int) 8 := hC
  show gG X (wM q) _ 5 M 0 [(0, .ref (q.2.2 0)), (1, .int (nI x)), (2, .int f), (3, .int n), (4, .int y)] []
  refine g_aload_n hC (gDec_at DX7_bestAt_0 0 rfl) rfl ?_
  refine g_iconst hC (gDec_at DX7_bestAt_0 1 rfl) (v := nI 0) (by decide) ?_
  refine g_putI (w := wM q) hC 0 fl_X7_67 fp_7_0 (show 0 < 17 from by decide) rfl (Nat.le_of_ble_eq_true rfl) rfl rfl (gDec_at DX7_bestAt_0 2 rfl) ?_
  refine g_M (mi_0 hI) ?_
  refine g_iload_n hC (gDec_at DX7_bestAt_0 3 rfl) rfl ?_
  refine g_iload_n hC (gDec_at DX7_bestAt_0 4 rfl) rfl ?_
  refine g_iload_n hC (gDec_at DX7_bestAt_0 5 rfl) rfl ?_
  refine g_callSd (w := wM q) hC (c_X7_noSearch_1 q (by omega) (by omega) hf) sf_X7_noSearch ml_X7_199 (by decide) rfl rfl (Nat.le_of_ble_eq_true rfl) (gDec_at DX7_bestAt_0 6 rfl) ?_
  refine g_if_eqN hC (by decide) (gDec_at DX7_bestAt_0 7 rfl) 17 (by decide) (fun h => absurd h (by decide)) (fun h => ?_)
  refine g_bipush hC (gDec_at DX7_bestAt_0 8 rfl) (v := -2) (by decide) ?_
  refine g_iret hC (gDec_at DX7_bestAt_0 9 rfl) ?_
  exact ⟨rfl, rfl⟩

set_option maxRecDepth 100000 in
set_option maxHeartbeats 4000000 in
theorem c_X7_bestAt_badn (q : gQ3) {M : gM} {B : gB} (hI : mI M B) {x : Nat} (hx : x ≤ 40) {f : Nat} (hfa : 0 ≤ f) (hfb : f ≤ 999) {n : Int32} (hn : ¬ gin n 1 3) {y : Int32} : gCt (wM q) yX7_bestAt cX7_bestAt 5 (some .int) 8 [.ref (q.2.2 0), .int (nI x), .int (nI f), .int n, .int y] M (gR (some (.int (-2))) M) := by
  refine gMet RX7 (by decide +kernel) rfl (Nat.le_of_ble_eq_true rfl) (fun X hC => ?_)
  have hC : gC X (wM q) cX7_bestAt 5 RX7 (some .int) 8 := hC
  show gG X (wM q) _ 5 M 0 [(0, .ref (q.2.2 0)), (1, .int (nI x)), (2, .int (nI f)), (3, .int n), (4, .int y)] []
  refine g_aload_n hC (gDec_at DX7_bestAt_0 0 rfl) rfl ?_
  refine g_iconst hC (gDec_at DX7_bestAt_0 1 rfl) (v := nI 0) (by decide) ?_
  refine g_putI (w := wM q) hC 0 fl_X7_67 fp_7_0 (show 0 < 17 from by decide) rfl (Nat.le_of_ble_eq_true rfl) rfl rfl (gDec_at DX7_bestAt_0 2 rfl) ?_
  refine g_M (mi_0 hI) ?_
  refine g_iload_n hC (gDec_at DX7_bestAt_0 3 rfl) rfl ?_
  refine g_iload_n hC (gDec_at DX7_bestAt_0 4 rfl) rfl ?_
  refine g_iload_n hC (gDec_at DX7_bestAt_0 5 rfl) rfl ?_
  refine g_callSd (w := wM q) hC (c_X7_noSearch_2 q (by omega) (by omega) (by omega) (by omega) hn) sf_X7_noSearch ml_X7_199 (by decide) rfl rfl (Nat.le_of_ble_eq_true rfl) (gDec_at DX7_bestAt_0 6 rfl) ?_
  refine g_if_eqN hC (by decide) (gDec_at DX7_bestAt_0 7 rfl) 17 (by decide) (fun h => absurd h (by decide)) (fun h => ?_)
  refine g_bipush hC (gDec_at DX7_bestAt_0 8 rfl) (v := -2) (by decide) ?_
  refine g_iret hC (gDec_at DX7_bestAt_0 9 rfl) ?_
  exact ⟨rfl, rfl⟩

set_option maxRecDepth 100000 in
set_option maxHeartbeats 4000000 in
theorem c_X7_best_ok (q : gQ3) {M : gM} {B : gB} (hI : mI M B) {x : Nat} (hx : x ≤ 40) {f n : Nat} (hfb : f ≤ 999) (hna : 1 ≤ n) (hnb : n ≤ 3) : gCt (wM q) yX7_best cX7_best 4 (some .int) 10 [.ref (q.2.2 0), .int (nI x), .int (nI f), .int (nI n)] M (fun v M' => v = some (.int (bk (mBest B x f n).1)) ∧ mQ M M') := by
  refine gMet RX7 (by decide +kernel) rfl (Nat.le_of_ble_eq_true rfl) (fun X hC => ?_)
  have hC : gC X (wM q) cX7_best 4 RX7 (some .int) 10 := hC
  show gG X (wM q) _ 4 M 0 [(0, .ref (q.2.2 0)), (1, .int (nI x)), (2, .int (nI f)), (3, .int (nI n))] []
  refine g_aload_n hC (gDec_at DX7_best_0 0 rfl) rfl ?_
  refine g_iconst hC (gDec_at DX7_best_0 1 rfl) (v := nI 0) (by decide) ?_
  refine g_putI (w := wM q) hC 0 fl_X7_67 fp_7_0 (show 0 < 17 from by decide) rfl (Nat.le_of_ble_eq_true rfl) rfl rfl (gDec_at DX7_best_0 2 rfl) ?_
  refine g_M (mi_0 hI) ?_
  refine g_iload_n hC (gDec_at DX7_best_0 3 rfl) rfl ?_
  refine g_iload_n hC (gDec_at DX7_best_0 4 rfl) rfl ?_
  refine g_iload_n hC (gDec_at DX7_best_0 5 rfl) rfl ?_
  refine g_callSd (w := wM q) hC (c_X7_noSearch_3 q (by omega) (by omega) (by omega) (by omega) (by omega) (by omega)) sf_X7_noSearch ml_X7_199 (by decide) rfl rfl (Nat.le_of_ble_eq_true rfl) (gDec_at DX7_best_0 6 rfl) ?_
  refine g_if_eqN hC (by decide) (gDec_at DX7_best_0 7 rfl) 17 (by decide) (fun h => ?_) (fun h => absurd h (by decide))
  refine g_aload_n hC (gDec_at DX7_best_0 10 rfl) rfl ?_
  refine g_iload_n hC (gDec_at DX7_best_0 11 rfl) rfl ?_
  refine g_iload_n hC (gDec_at DX7_best_0 12 rfl) rfl ?_
  refine g_iload_n hC (gDec_at DX7_best_0 13 rfl) rfl ?_
  refine g_callV (w := wM q) hC (i := 0) (c_X7_findBest q hI (x := x) (f := f) (n := n) hx hfb hna hnb) vf_X7_findBest ml_X7_203 (by decide) (show 0 < 17 from by decide) rfl rfl rfl rfl rfl (Nat.le_of_ble_eq_true rfl) (gDec_at DX7_best_0 14 rfl) (fun v_21 M_21 hq_21 => ?_)
  obtain ⟨rfl, hT, hq⟩ := hq_21
  have hT23 := hT.2.2.2.1
  refine g_aload_n hC (gDec_at DX7_best_0 15 rfl) rfl ?_
  refine g_get (w := wM q) hC 0 (v := .int (bk (mBest B x f n).1)) fl_X7_181 (show 0 < 17 from by decide) rfl (g_sv hT.1) (gDec_at DX7_best_0 16 rfl) ?_
  refine g_iret hC (gDec_at DX7_best_0 17 rfl) ?_
  exact ⟨rfl, hq⟩

set_option maxRecDepth 100000 in
set_option maxHeartbeats 4000000 in
theorem c_X7_bestAt_in (q : gQ3) {M : gM} {B : gB} (hI : mI M B) {x : Nat} (hx : x ≤ 40) {f n : Nat} (hfb : f ≤ 999) (hna : 1 ≤ n) (hnb : n ≤ 3) {i : Nat} (hi : i < (mBest B x f n).2.1) : gCt (wM q) yX7_bestAt cX7_bestAt 5 (some .int) 10 [.ref (q.2.2 0), .int (nI x), .int (nI f), .int (nI n), .int (nI i)] M (fun v M' => v = some (.int (nI ((mBest B x f n).2.2 i))) ∧ mQ M M') := by
  refine gMet RX7 (by decide +kernel) rfl (Nat.le_of_ble_eq_true rfl) (fun X hC => ?_)
  have hC : gC X (wM q) cX7_bestAt 5 RX7 (some .int) 10 := hC
  show gG X (wM q) _ 5 M 0 [(0, .ref (q.2.2 0)), (1, .int (nI x)), (2, .int (nI f)), (3, .int (nI n)), (4, .int (nI i))] []
  refine g_aload_n hC (gDec_at DX7_bestAt_0 0 rfl) rfl ?_
  refine g_iconst hC (gDec_at DX7_bestAt_0 1 rfl) (v := nI 0) (by decide) ?_
  refine g_putI (w := wM q) hC 0 fl_X7_67 fp_7_0 (show 0 < 17 from by decide) rfl (Nat.le_of_ble_eq_true rfl) rfl rfl (gDec_at DX7_bestAt_0 2 rfl) ?_
  refine g_M (mi_0 hI) ?_
  refine g_iload_n hC (gDec_at DX7_bestAt_0 3 rfl) rfl ?_
  refine g_iload_n hC (gDec_at DX7_bestAt_0 4 rfl) rfl ?_
  refine g_iload_n hC (gDec_at DX7_bestAt_0 5 rfl) rfl ?_
  refine g_callSd (w := wM q) hC (c_X7_noSearch_3 q (by omega) (by omega) (by omega) (by omega) (by omega) (by omega)) sf_X7_noSearch ml_X7_199 (by decide) rfl rfl (Nat.le_of_ble_eq_true rfl) (gDec_at DX7_bestAt_0 6 rfl) ?_
  refine g_if_eqN hC (by decide) (gDec_at DX7_bestAt_0 7 rfl) 17 (by decide) (fun h => ?_) (fun h => absurd h (by decide))
  refine g_aload_n hC (gDec_at DX7_bestAt_0 10 rfl) rfl ?_
  refine g_iload_n hC (gDec_at DX7_bestAt_0 11 rfl) rfl ?_
  refine g_iload_n hC (gDec_at DX7_bestAt_0 12 rfl) rfl ?_
  refine g_iload_n hC (gDec_at DX7_bestAt_0 13 rfl) rfl ?_
  refine g_callV (w := wM q) hC (i := 0) (c_X7_findBest q hI (x := x) (f := f) (n := n) hx hfb hna hnb) vf_X7_findBest ml_X7_203 (by decide) (show 0 < 17 from by decide) rfl rfl rfl rfl rfl (Nat.le_of_ble_eq_true rfl) (gDec_at DX7_bestAt_0 14 rfl) (fun v_21 M_21 hq_21 => ?_)
  obtain ⟨rfl, hT, hq⟩ := hq_21
  have hT23 := hT.2.2.2.1
  refine g_iload hC (gDec_at DX7_bestAt_0 15 rfl) rfl ?_
  refine g_i2lN hC (by omega) (gDec_at DX7_bestAt_0 16 rfl) ?_
  refine g_lconst hC (gDec_at DX7_bestAt_0 17 rfl) (v := lN 0) (by decide) ?_
  refine g_aload_n hC (gDec_at DX7_bestAt_0 18 rfl) rfl ?_
  refine g_get (w := wM q) hC 0 (v := .int (nI ((mBest B x f n).2.1))) fl_X7_184 (show 0 < 17 from by decide) rfl (g_sv hT.2.1) (gDec_at DX7_bestAt_0 19 rfl) ?_
  refine g_iconst hC (gDec_at DX7_bestAt_0 20 rfl) (v := nI 1) (by decide) ?_
  refine g_isubN hC (by omega) (gDec_at DX7_bestAt_0 21 rfl) ?_
  refine g_i2lN hC (by omega) (gDec_at DX7_bestAt_0 22 rfl) ?_
  refine g_callSd (w := wM q) hC (c_X7_in_yes q (v := i) (a := 0) (b := (((mBest B x f n).2.1) - 1)) (by omega) (by omega) (by omega)) sf_X7_in ml_X7_72 (by decide) rfl rfl (Nat.le_of_ble_eq_true rfl) (gDec_at DX7_bestAt_0 23 rfl) ?_
  refine g_if_eqN hC (by decide) (gDec_at DX7_bestAt_0 24 rfl) 51 (by decide) (fun h => absurd h (by decide)) (fun h => ?_)
  refine g_aload_n hC (gDec_at DX7_bestAt_0 25 rfl) rfl ?_
  refine g_get (w := wM q) hC 0 (v := .ref (q.2.2 14)) fl_X7_57 (show 0 < 17 from by decide) rfl rfl (gDec_at DX7_bestAt_0 26 rfl) ?_
  refine g_iload hC (gDec_at DX7_bestAt_0 27 rfl) rfl ?_
  refine g_iald (w := wM q) hC 14 0 i (x := (nI ((mBest B x f n).2.2 i))) (show 14 < 17 from by decide) rfl rfl (by omega) (by decide) (hT.2.2.2.2.2 i hi) (gDec_at DX7_bestAt_0 28 rfl) ?_
  refine g_goto hC (gDec_at DX7_bestAt_0 29 rfl) 53 (by decide) ?_
  refine g_iret hC (gDec_at DX7_bestAt_0 31 rfl) ?_
  exact ⟨rfl, hq⟩

theorem in_ginl {y : Int32} {b : Nat} (hb : b ≤ 3) (h : ¬ Int32.toInt64 y < lN 0 ∧ ¬ Int32.toInt64 (nI b - nI 1) < Int32.toInt64 y) : ginl y b := by
  rw [Int64.lt_iff_toInt_lt, Int64.lt_iff_toInt_lt, toL_int, toL_int, pk_sub_toInt (by omega) (by omega), show (lN 0).toInt = 0 from rfl] at h
  unfold ginl
  omega
set_option maxRecDepth 100000 in
set_option maxHeartbeats 4000000 in
theorem c_X7_bestAt_none (q : gQ3) {M : gM} {B : gB} (hI : mI M B) {x : Nat} (hx : x ≤ 40) {f n : Nat} (hfb : f ≤ 999) (hna : 1 ≤ n) (hnb : n ≤ 3) {y : Int32} (hy : ¬ ginl y (mBest B x f n).2.1) : gCt (wM q) yX7_bestAt cX7_bestAt 5 (some .int) 10 [.ref (q.2.2 0), .int (nI x), .int (nI f), .int (nI n), .int y] M (fun v M' => v = some (.int (-9)) ∧ mQ M M') := by
  refine gMet RX7 (by decide +kernel) rfl (Nat.le_of_ble_eq_true rfl) (fun X hC => ?_)
  have hC : gC X (wM q) cX7_bestAt 5 RX7 (some .int) 10 := hC
  show gG X (wM q) _ 5 M 0 [(0, .ref (q.2.2 0)), (1, .int (nI x)), (2, .int (nI f)), (3, .int (nI n)), (4, .int y)] []
  refine g_aload_n hC (gDec_at DX7_bestAt_0 0 rfl) rfl ?_
  refine g_iconst hC (gDec_at DX7_bestAt_0 1 rfl) (v := nI 0) (by decide) ?_
  refine g_putI (w := wM q) hC 0 fl_X7_67 fp_7_0 (show 0 < 17 from by decide) rfl (Nat.le_of_ble_eq_true rfl) rfl rfl (gDec_at DX7_bestAt_0 2 rfl) ?_
  refine g_M (mi_0 hI) ?_
  refine g_iload_n hC (gDec_at DX7_bestAt_0 3 rfl) rfl ?_
  refine g_iload_n hC (gDec_at DX7_bestAt_0 4 rfl) rfl ?_
  refine g_iload_n hC (gDec_at DX7_bestAt_0 5 rfl) rfl ?_
  refine g_callSd (w := wM q) hC (c_X7_noSearch_3 q (by omega) (by omega) (by omega) (by omega) (by omega) (by omega)) sf_X7_noSearch ml_X7_199 (by decide) rfl rfl (Nat.le_of_ble_eq_true rfl) (gDec_at DX7_bestAt_0 6 rfl) ?_
  refine g_if_eqN hC (by decide) (gDec_at DX7_bestAt_0 7 rfl) 17 (by decide) (fun h => ?_) (fun h => absurd h (by decide))
  refine g_aload_n hC (gDec_at DX7_bestAt_0 10 rfl) rfl ?_
  refine g_iload_n hC (gDec_at DX7_bestAt_0 11 rfl) rfl ?_
  refine g_iload_n hC (gDec_at DX7_bestAt_0 12 rfl) rfl ?_
  refine g_iload_n hC (gDec_at DX7_bestAt_0 13 rfl) rfl ?_
  refine g_callV (w := wM q) hC (i := 0) (c_X7_findBest q hI (x := x) (f := f) (n := n) hx hfb hna hnb) vf_X7_findBest ml_X7_203 (by decide) (show 0 < 17 from by decide) rfl rfl rfl rfl rfl (Nat.le_of_ble_eq_true rfl) (gDec_at DX7_bestAt_0 14 rfl) (fun v_21 M_21 hq_21 => ?_)
  obtain ⟨rfl, hT, hq⟩ := hq_21
  have hT23 := hT.2.2.2.1
  refine g_iload hC (gDec_at DX7_bestAt_0 15 rfl) rfl ?_
  refine g_i2l hC (gDec_at DX7_bestAt_0 16 rfl) rfl ?_
  refine g_lconst hC (gDec_at DX7_bestAt_0 17 rfl) (v := lN 0) (by decide) ?_
  refine g_aload_n hC (gDec_at DX7_bestAt_0 18 rfl) rfl ?_
  refine g_get (w := wM q) hC 0 (v := .int (nI ((mBest B x f n).2.1))) fl_X7_184 (show 0 < 17 from by decide) rfl (g_sv hT.2.1) (gDec_at DX7_bestAt_0 19 rfl) ?_
  refine g_iconst hC (gDec_at DX7_bestAt_0 20 rfl) (v := nI 1) (by decide) ?_
  refine g_isub hC (gDec_at DX7_bestAt_0 21 rfl) (v := (nI (mBest B x f n).2.1 - nI 1)) rfl ?_
  refine g_i2l hC (gDec_at DX7_bestAt_0 22 rfl) rfl ?_
  refine g_callSd (w := wM q) hC (c_X7_in_gen q (v := Int32.toInt64 y) (a := lN 0) (b := Int32.toInt64 (nI (mBest B x f n).2.1 - nI 1))) sf_X7_in ml_X7_72 (by decide) rfl rfl (Nat.le_of_ble_eq_true rfl) (gDec_at DX7_bestAt_0 23 rfl) ?_
  refine g_if_eqB hC (gDec_at DX7_bestAt_0 24 rfl) 51 (by decide) (fun h38 => ?_) (fun h38 => ?_)
  · skip
    refine g_bipush hC (gDec_at DX7_bestAt_0 30 rfl) (v := -9) (by decide) ?_
    refine g_iret hC (gDec_at DX7_bestAt_0 31 rfl) ?_
    exact ⟨rfl, hq⟩
  · skip
    exact absurd (in_ginl hT23 h38) hy
