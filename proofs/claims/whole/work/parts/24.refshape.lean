/-! THE REFERENCE: shape, next -/
set_option maxRecDepth 100000 in
set_option maxHeartbeats 4000000 in
theorem c_X7_shape_badf (q : gQ3) {M : gM} {B : gB} (hI : mI M B) {f : Int32} (hf : ¬ gin f 1 999) {s : Int32} : gCt (wM q) yX7_shape cX7_shape 5 (some .int) 8 [.ref (q.2.2 0), .int f, .int s] M (gR (some (.int (-2))) M) := by
  refine gMet RX7 (by decide +kernel) rfl (Nat.le_of_ble_eq_true rfl) (fun X hC => ?_)
  have hC : gC X (wM q) cX7_shape 5 RX7 (some .int) 8 := hC
  show gG X (wM q) _ 5 M 0 [(0, .ref (q.2.2 0)), (1, .int f), (2, .int s)] []
  refine g_aload_n hC (gDec_at DX7_shape_0 0 rfl) rfl ?_
  refine g_iconst hC (gDec_at DX7_shape_0 1 rfl) (v := nI 0) (by decide) ?_
  refine g_putI (w := wM q) hC 0 fl_X7_67 fp_7_0 (show 0 < 17 from by decide) rfl (Nat.le_of_ble_eq_true rfl) rfl rfl (gDec_at DX7_shape_0 2 rfl) ?_
  refine g_M (mi_0 hI) ?_
  refine g_iload_n hC (gDec_at DX7_shape_0 3 rfl) rfl ?_
  refine g_iload_n hC (gDec_at DX7_shape_0 4 rfl) rfl ?_
  refine g_callSd (w := wM q) hC (c_X7_noForm_0 q hf) sf_X7_noForm ml_X7_206 (by decide) rfl rfl (Nat.le_of_ble_eq_true rfl) (gDec_at DX7_shape_0 5 rfl) ?_
  refine g_if_eqN hC (by decide) (gDec_at DX7_shape_0 6 rfl) 16 (by decide) (fun h => absurd h (by decide)) (fun h => ?_)
  refine g_bipush hC (gDec_at DX7_shape_0 7 rfl) (v := -2) (by decide) ?_
  refine g_iret hC (gDec_at DX7_shape_0 8 rfl) ?_
  exact ⟨rfl, rfl⟩

set_option maxRecDepth 100000 in
set_option maxHeartbeats 4000000 in
theorem c_X7_shape_bads (q : gQ3) {M : gM} {B : gB} (hI : mI M B) {f : Nat} (hfa : 1 ≤ f) (hfb : f ≤ 999) {s : Int32} (hs : ¬ gin s 1 99) : gCt (wM q) yX7_shape cX7_shape 5 (some .int) 8 [.ref (q.2.2 0), .int (nI f), .int s] M (gR (some (.int (-2))) M) := by
  refine gMet RX7 (by decide +kernel) rfl (Nat.le_of_ble_eq_true rfl) (fun X hC => ?_)
  have hC : gC X (wM q) cX7_shape 5 RX7 (some .int) 8 := hC
  show gG X (wM q) _ 5 M 0 [(0, .ref (q.2.2 0)), (1, .int (nI f)), (2, .int s)] []
  refine g_aload_n hC (gDec_at DX7_shape_0 0 rfl) rfl ?_
  refine g_iconst hC (gDec_at DX7_shape_0 1 rfl) (v := nI 0) (by decide) ?_
  refine g_putI (w := wM q) hC 0 fl_X7_67 fp_7_0 (show 0 < 17 from by decide) rfl (Nat.le_of_ble_eq_true rfl) rfl rfl (gDec_at DX7_shape_0 2 rfl) ?_
  refine g_M (mi_0 hI) ?_
  refine g_iload_n hC (gDec_at DX7_shape_0 3 rfl) rfl ?_
  refine g_iload_n hC (gDec_at DX7_shape_0 4 rfl) rfl ?_
  refine g_callSd (w := wM q) hC (c_X7_noForm_1 q (by omega) (by omega) hs) sf_X7_noForm ml_X7_206 (by decide) rfl rfl (Nat.le_of_ble_eq_true rfl) (gDec_at DX7_shape_0 5 rfl) ?_
  refine g_if_eqN hC (by decide) (gDec_at DX7_shape_0 6 rfl) 16 (by decide) (fun h => absurd h (by decide)) (fun h => ?_)
  refine g_bipush hC (gDec_at DX7_shape_0 7 rfl) (v := -2) (by decide) ?_
  refine g_iret hC (gDec_at DX7_shape_0 8 rfl) ?_
  exact ⟨rfl, rfl⟩

set_option maxRecDepth 100000 in
set_option maxHeartbeats 4000000 in
theorem c_X7_shape_no (q : gQ3) {M : gM} {B : gB} (hI : mI M B) {f : Nat} (hfa : 1 ≤ f) (hfb : f ≤ 999) {s : Nat} (hsa : 1 ≤ s) (hsb : s ≤ 99) (hh : ¬ sHas B f s) : gCt (wM q) yX7_shape cX7_shape 5 (some .int) 8 [.ref (q.2.2 0), .int (nI f), .int (nI s)] M (gR (some (.int (-3))) M) := by
  refine gMet RX7 (by decide +kernel) rfl (Nat.le_of_ble_eq_true rfl) (fun X hC => ?_)
  have hC : gC X (wM q) cX7_shape 5 RX7 (some .int) 8 := hC
  show gG X (wM q) _ 5 M 0 [(0, .ref (q.2.2 0)), (1, .int (nI f)), (2, .int (nI s))] []
  refine g_aload_n hC (gDec_at DX7_shape_0 0 rfl) rfl ?_
  refine g_iconst hC (gDec_at DX7_shape_0 1 rfl) (v := nI 0) (by decide) ?_
  refine g_putI (w := wM q) hC 0 fl_X7_67 fp_7_0 (show 0 < 17 from by decide) rfl (Nat.le_of_ble_eq_true rfl) rfl rfl (gDec_at DX7_shape_0 2 rfl) ?_
  refine g_M (mi_0 hI) ?_
  refine g_iload_n hC (gDec_at DX7_shape_0 3 rfl) rfl ?_
  refine g_iload_n hC (gDec_at DX7_shape_0 4 rfl) rfl ?_
  refine g_callSd (w := wM q) hC (c_X7_noForm_2 q (by omega) (by omega) (by omega) (by omega)) sf_X7_noForm ml_X7_206 (by decide) rfl rfl (Nat.le_of_ble_eq_true rfl) (gDec_at DX7_shape_0 5 rfl) ?_
  refine g_if_eqN hC (by decide) (gDec_at DX7_shape_0 6 rfl) 16 (by decide) (fun h => ?_) (fun h => absurd h (by decide))
  refine g_iconst hC (gDec_at DX7_shape_0 9 rfl) (v := nI 0) (by decide) ?_
  refine g_istore_n hC (gDec_at DX7_shape_0 10 rfl) (by decide) (L' := [(3, .int (nI 0)), (0, .ref (q.2.2 0)), (1, .int (nI f)), (2, .int (nI s))]) rfl ?_
  have loop18 : ∀ (fu i : Nat), i ≤ 12 → 12 - i < fu → (∀ j, j < i → j % 6 < B 9 0 → ¬ sForm B j f s = 0) → gG X (wM q) (gR (some (.int (-3))) M) 5 M 18 [(0, .ref (q.2.2 0)), (1, .int (nI f)), (2, .int (nI s)), (3, .int (nI i))] [] := by
    intro fu; induction fu with
    | zero => intro i h1 h2; omega
    | succ fu ih =>
      intro i hi hfu hno
      refine g_iload_n hC (gDec_at DX7_shape_0 11 rfl) rfl ?_
      refine g_bipush hC (gDec_at DX7_shape_0 12 rfl) (v := nI 12) (by decide) ?_
      refine g_icmp_geN hC (by omega) (by omega) (gDec_at DX7_shape_0 13 rfl) 53 (by decide) (fun h21 => ?_) (fun h21 => ?_)
      · skip
        obtain rfl : i = 12 := by omega
        exact absurd hno hh --end
      · skip
        refine g_aload_n hC (gDec_at DX7_shape_0 14 rfl) rfl ?_
        refine g_iload_n hC (gDec_at DX7_shape_0 15 rfl) rfl ?_
        refine g_callVd (w := wM q) hC 0 (c_X7_isThere q hI (i := i) (by omega)) vf_X7_isThere ml_X7_128 (by decide) (show 0 < 17 from by decide) rfl rfl rfl rfl rfl (Nat.le_of_ble_eq_true rfl) (gDec_at DX7_shape_0 16 rfl) ?_
        refine g_if_eqB hC (gDec_at DX7_shape_0 17 rfl) 47 (by decide) (fun h29 => ?_) (fun h29 => ?_)
        · skip
          refine g_iincN hC (gDec_at DX7_shape_0 27 rfl) rfl (by decide) (L' := [(3, .int (nI (i + 1))), (0, .ref (q.2.2 0)), (1, .int (nI f)), (2, .int (nI s))]) rfl ?_
          refine g_goto hC (gDec_at DX7_shape_0 28 rfl) 18 (by decide) ?_
          refine g_sub [1, 2, 3, 0] (L' := [(0, .ref (q.2.2 0)), (1, .int (nI f)), (2, .int (nI s)), (3, .int (nI (i + 1)))]) rfl ?_
          have h9 := ih (i + 1) (by omega) (by omega) (fun j hj2 ht2 => by rcases Nat.lt_succ_iff_lt_or_eq.mp hj2 with q | q; exact hno j q ht2; subst q; exact absurd ht2 h29)
          exact h9
        · skip
          refine g_aload_n hC (gDec_at DX7_shape_0 18 rfl) rfl ?_
          refine g_iload_n hC (gDec_at DX7_shape_0 19 rfl) rfl ?_
          refine g_iload_n hC (gDec_at DX7_shape_0 20 rfl) rfl ?_
          refine g_iload_n hC (gDec_at DX7_shape_0 21 rfl) rfl ?_
          refine g_callVd (w := wM q) hC 0 (c_X7_formOf q hI (j := i) (by omega) (by omega) (f := f) (s := s) (by omega) (by omega)) vf_X7_formOf ml_X7_209 (by decide) (show 0 < 17 from by decide) rfl rfl rfl rfl rfl (Nat.le_of_ble_eq_true rfl) (gDec_at DX7_shape_0 22 rfl) ?_
          refine g_bipush hC (gDec_at DX7_shape_0 23 rfl) (v := -9) (by decide) ?_
          refine g_icmp_ne hC (gDec_at DX7_shape_0 24 rfl) 47 (by decide) (fun h41 => ?_) (fun h41 => ?_)
          · skip
            refine g_iincN hC (gDec_at DX7_shape_0 27 rfl) rfl (by decide) (L' := [(3, .int (nI (i + 1))), (0, .ref (q.2.2 0)), (1, .int (nI f)), (2, .int (nI s))]) rfl ?_
            refine g_goto hC (gDec_at DX7_shape_0 28 rfl) 18 (by decide) ?_
            refine g_sub [1, 2, 3, 0] (L' := [(0, .ref (q.2.2 0)), (1, .int (nI f)), (2, .int (nI s)), (3, .int (nI (i + 1)))]) rfl ?_
            have h9 := ih (i + 1) (by omega) (by omega) (fun j hj2 ht2 => by rcases Nat.lt_succ_iff_lt_or_eq.mp hj2 with q | q; exact hno j q ht2; subst q; exact fk_ne.mp h41)
            exact h9
          · skip
            refine g_bipush hC (gDec_at DX7_shape_0 25 rfl) (v := -3) (by decide) ?_
            refine g_iret hC (gDec_at DX7_shape_0 26 rfl) ?_
            exact ⟨rfl, rfl⟩
  exact g_sub [1, 2, 3, 0] rfl (loop18 (12 + 1 - 0) 0 (by omega) (by omega) (fun j h => absurd h (Nat.not_lt_zero j)))

set_option maxRecDepth 100000 in
set_option maxHeartbeats 4000000 in
theorem c_X7_shape_ok (q : gQ3) {M : gM} {B : gB} (hI : mI M B) {f : Nat} (hfa : 1 ≤ f) (hfb : f ≤ 999) {s : Nat} (hsa : 1 ≤ s) (hsb : s ≤ 99) (hh : sHas B f s) : gCt (wM q) yX7_shape cX7_shape 5 (some .int) 8 [.ref (q.2.2 0), .int (nI f), .int (nI s)] M (fun v M' => v = some (.int (nI (sFmN B f s 12))) ∧ mI M' (fmB B f s 12) ∧ sameO (fun c => c = 3) M M') := by
  refine gMet RX7 (by decide +kernel) rfl (Nat.le_of_ble_eq_true rfl) (fun X hC => ?_)
  have hC : gC X (wM q) cX7_shape 5 RX7 (some .int) 8 := hC
  show gG X (wM q) _ 5 M 0 [(0, .ref (q.2.2 0)), (1, .int (nI f)), (2, .int (nI s))] []
  refine g_aload_n hC (gDec_at DX7_shape_0 0 rfl) rfl ?_
  refine g_iconst hC (gDec_at DX7_shape_0 1 rfl) (v := nI 0) (by decide) ?_
  refine g_putI (w := wM q) hC 0 fl_X7_67 fp_7_0 (show 0 < 17 from by decide) rfl (Nat.le_of_ble_eq_true rfl) rfl rfl (gDec_at DX7_shape_0 2 rfl) ?_
  refine g_M (mi_0 hI) ?_
  refine g_iload_n hC (gDec_at DX7_shape_0 3 rfl) rfl ?_
  refine g_iload_n hC (gDec_at DX7_shape_0 4 rfl) rfl ?_
  refine g_callSd (w := wM q) hC (c_X7_noForm_2 q (by omega) (by omega) (by omega) (by omega)) sf_X7_noForm ml_X7_206 (by decide) rfl rfl (Nat.le_of_ble_eq_true rfl) (gDec_at DX7_shape_0 5 rfl) ?_
  refine g_if_eqN hC (by decide) (gDec_at DX7_shape_0 6 rfl) 16 (by decide) (fun h => ?_) (fun h => absurd h (by decide))
  refine g_iconst hC (gDec_at DX7_shape_0 9 rfl) (v := nI 0) (by decide) ?_
  refine g_istore_n hC (gDec_at DX7_shape_0 10 rfl) (by decide) (L' := [(3, .int (nI 0)), (0, .ref (q.2.2 0)), (1, .int (nI f)), (2, .int (nI s))]) rfl ?_
  have loop18 : ∀ (fu i : Nat), i ≤ 12 → 12 - i < fu → gG X (wM q) (fun v M' => v = some (.int (nI (sFmN B f s 12))) ∧ mI M' (fmB B f s 12) ∧ sameO (fun c => c = 3) M M') 5 M 18 [(0, .ref (q.2.2 0)), (1, .int (nI f)), (2, .int (nI s)), (3, .int (nI i))] [] := by
    intro fu; induction fu with
    | zero => intro i h1 h2; omega
    | succ fu ih =>
      intro i hi hfu 
      refine g_iload_n hC (gDec_at DX7_shape_0 11 rfl) rfl ?_
      refine g_bipush hC (gDec_at DX7_shape_0 12 rfl) (v := nI 12) (by decide) ?_
      refine g_icmp_geN hC (by omega) (by omega) (gDec_at DX7_shape_0 13 rfl) 53 (by decide) (fun h21 => ?_) (fun h21 => ?_)
      · skip
        obtain rfl : i = 12 := by omega
        refine g_iconst hC (gDec_at DX7_shape_0 29 rfl) (v := nI 0) (by decide) ?_
        refine g_istore_n hC (gDec_at DX7_shape_0 30 rfl) (by decide) (L' := [(3, .int (nI 0)), (0, .ref (q.2.2 0)), (1, .int (nI f)), (2, .int (nI s))]) rfl ?_
        refine g_iconst hC (gDec_at DX7_shape_0 31 rfl) (v := nI 0) (by decide) ?_
        refine g_istore hC (gDec_at DX7_shape_0 32 rfl) (by decide) (L' := [(4, .int (nI 0)), (3, .int (nI 0)), (0, .ref (q.2.2 0)), (1, .int (nI f)), (2, .int (nI s))]) rfl ?_
        have lp2 : ∀ (fu i : Nat) (M1 : gM), i ≤ 12 → 12 - i < fu → mI M1 (fmB B f s i) → sameO (fun c => c = 3) M M1 → gG X (wM q) (fun v M' => v = some (.int (nI (sFmN B f s 12))) ∧ mI M' (fmB B f s 12) ∧ sameO (fun c => c = 3) M M') 5 M1 58 [(0, .ref (q.2.2 0)), (1, .int (nI f)), (2, .int (nI s)), (3, .int (nI (sFmN B f s i))), (4, .int (nI i))] [] := by
          intro fu; induction fu with
          | zero => intro i M1 h1 h2; omega
          | succ fu ih_lp2 =>
            intro i M1 hi hfu hI1 hs1
            refine g_iload hC (gDec_at DX7_shape_0 33 rfl) rfl ?_
            refine g_bipush hC (gDec_at DX7_shape_0 34 rfl) (v := nI 12) (by decide) ?_
            refine g_icmp_geN hC (by omega) (by omega) (gDec_at DX7_shape_0 35 rfl) 121 (by decide) (fun h62 => ?_) (fun h62 => ?_)
            · skip
              obtain rfl : i = 12 := by omega
              refine g_iload_n hC (gDec_at DX7_shape_1 3 rfl) rfl ?_
              refine g_iret hC (gDec_at DX7_shape_1 4 rfl) ?_
              exact ⟨rfl, hI1, hs1⟩
            · skip
              refine g_aload_n hC (gDec_at DX7_shape_0 36 rfl) rfl ?_
              refine g_iload hC (gDec_at DX7_shape_0 37 rfl) rfl ?_
              refine g_callVd (w := wM q) hC 0 (c_X7_isThere_f q hI1 (i := i) (by omega)) vf_X7_isThere ml_X7_128 (by decide) (show 0 < 17 from by decide) rfl rfl rfl rfl rfl (Nat.le_of_ble_eq_true rfl) (gDec_at DX7_shape_0 38 rfl) ?_
              refine g_if_eqB hC (gDec_at DX7_shape_0 39 rfl) 115 (by decide) (fun h71 => ?_) (fun h71 => ?_)
              · skip
                refine g_iincN hC (gDec_at DX7_shape_1 1 rfl) rfl (by decide) (L' := [(4, .int (nI (i + 1))), (0, .ref (q.2.2 0)), (1, .int (nI f)), (2, .int (nI s)), (3, .int (nI (sFmN B f s i)))]) rfl ?_
                refine g_goto hC (gDec_at DX7_shape_1 2 rfl) 58 (by decide) ?_
                refine g_sub [1, 2, 3, 4, 0] (L' := [(0, .ref (q.2.2 0)), (1, .int (nI f)), (2, .int (nI s)), (3, .int (nI (sFmN B f s i))), (4, .int (nI (i + 1)))]) rfl ?_
                have h9 := ih_lp2 (i + 1) _ (by omega) (by omega) (by rw [fmB_k B f s i h71]; exact hI1) (hs1)
                rw [show sFmN B f s (i + 1) = _ from gsm_s0 (f := (fun j => if j % 6 < B 9 0 ∧ ¬ sForm B j f s = B 1 j then 1 else 0)) (if_neg (fun z => h71 z.1))] at h9
                exact h9
              · skip
                have hti : i % 6 < fmB B f s i 9 0 := h71
                have hzi := hh i (by omega) h71
                have hfi := sForm_in B i f s
                have h1i := bv_f1 hI.2.2 (by omega : i < 12) h71
                refine g_iload_n hC (gDec_at DX7_shape_0 40 rfl) rfl ?_
                refine g_aload_n hC (gDec_at DX7_shape_0 41 rfl) rfl ?_
                refine g_iload hC (gDec_at DX7_shape_0 42 rfl) rfl ?_
                refine g_iload_n hC (gDec_at DX7_shape_0 43 rfl) rfl ?_
                refine g_iload_n hC (gDec_at DX7_shape_0 44 rfl) rfl ?_
                refine g_callVd (w := wM q) hC 0 (c_X7_formOf_f q hI1 (j := i) (by omega) (by omega) (f := f) (s := s) (by omega) (by omega) hzi) vf_X7_formOf ml_X7_209 (by decide) (show 0 < 17 from by decide) rfl rfl rfl rfl rfl (Nat.le_of_ble_eq_true rfl) (gDec_at DX7_shape_0 45 rfl) ?_
                refine g_aload_n hC (gDec_at DX7_shape_0 46 rfl) rfl ?_
                refine g_get (w := wM q) hC 0 (v := .ref (q.2.2 3)) fl_X7_20 (show 0 < 17 from by decide) rfl rfl (gDec_at DX7_shape_0 47 rfl) ?_
                refine g_iload hC (gDec_at DX7_shape_0 48 rfl) rfl ?_
                refine g_iald (w := wM q) hC 3 0 i (x := (nI (B 1 i))) (show 3 < 17 from by decide) rfl rfl (by omega) (by decide) ((mi_f1 hI1 (by omega) (by omega)).trans (congrArg nI (fmB_i B f s i))) (gDec_at DX7_shape_0 49 rfl) ?_
                refine g_icmp_neN hC (by omega) (by omega) (gDec_at DX7_shape_0 50 rfl) 97 (by decide) (fun h90 => ?_) (fun h90 => ?_)
                · skip
                  refine g_iconst hC (gDec_at DX7_shape_0 53 rfl) (v := nI 1) (by decide) ?_
                  refine g_iaddN hC (gDec_at DX7_shape_0 54 rfl) ?_
                  refine g_istore_n hC (gDec_at DX7_shape_0 55 rfl) (by decide) (L' := [(3, .int (nI ((sFmN B f s i) + 1))), (0, .ref (q.2.2 0)), (1, .int (nI f)), (2, .int (nI s)), (4, .int (nI i))]) rfl ?_
                  refine g_aload_n hC (gDec_at DX7_shape_0 56 rfl) rfl ?_
                  refine g_get (w := wM q) hC 0 (v := .ref (q.2.2 3)) fl_X7_20 (show 0 < 17 from by decide) rfl rfl (gDec_at DX7_shape_0 57 rfl) ?_
                  refine g_iload hC (gDec_at DX7_shape_0 58 rfl) rfl ?_
                  refine g_aload_n hC (gDec_at DX7_shape_0 59 rfl) rfl ?_
                  refine g_iload hC (gDec_at DX7_shape_0 60 rfl) rfl ?_
                  refine g_iload_n hC (gDec_at DX7_shape_0 61 rfl) rfl ?_
                  refine g_iload_n hC (gDec_at DX7_shape_0 62 rfl) rfl ?_
                  refine g_callVd (w := wM q) hC 0 (c_X7_formOf_f q hI1 (j := i) (by omega) (by omega) (f := f) (s := s) (by omega) (by omega) hzi) vf_X7_formOf ml_X7_209 (by decide) (show 0 < 17 from by decide) rfl rfl rfl rfl rfl (Nat.le_of_ble_eq_true rfl) (gDec_at DX7_shape_0 63 rfl) ?_
                  refine g_iast (w := wM q) hC 3 0 i (show 3 < 17 from by decide) rfl rfl rfl (by omega) (by decide) (gDec_at DX7_shape_1 0 rfl) ?_
                  refine g_iincN hC (gDec_at DX7_shape_1 1 rfl) rfl (by decide) (L' := [(4, .int (nI (i + 1))), (3, .int (nI ((sFmN B f s i) + 1))), (0, .ref (q.2.2 0)), (1, .int (nI f)), (2, .int (nI s))]) rfl ?_
                  refine g_goto hC (gDec_at DX7_shape_1 2 rfl) 58 (by decide) ?_
                  refine g_sub [2, 3, 4, 1, 0] (L' := [(0, .ref (q.2.2 0)), (1, .int (nI f)), (2, .int (nI s)), (3, .int (nI ((sFmN B f s i) + 1))), (4, .int (nI (i + 1)))]) rfl ?_
                  have h9 := ih_lp2 (i + 1) _ (by omega) (by omega) (by rw [← fmB_s B f s i h71]; exact mI_set (f := 1) hI1 (by omega) (by rw [fmB_s B f s i h71]; exact fmB_V hI.2.2 hh _)) (sameO_up hs1 rfl)
                  rw [show sFmN B f s (i + 1) = _ from gsm_s (f := (fun j => if j % 6 < B 9 0 ∧ ¬ sForm B j f s = B 1 j then 1 else 0)) (if_pos ⟨h71, h90⟩)] at h9
                  exact h9
                · skip
                  refine g_iconst hC (gDec_at DX7_shape_0 51 rfl) (v := nI 0) (by decide) ?_
                  refine g_goto hC (gDec_at DX7_shape_0 52 rfl) 98 (by decide) ?_
                  refine g_iaddN hC (gDec_at DX7_shape_0 54 rfl) ?_
                  refine g_istore_n hC (gDec_at DX7_shape_0 55 rfl) (by decide) (L' := [(3, .int (nI ((sFmN B f s i) + 0))), (0, .ref (q.2.2 0)), (1, .int (nI f)), (2, .int (nI s)), (4, .int (nI i))]) rfl ?_
                  refine g_aload_n hC (gDec_at DX7_shape_0 56 rfl) rfl ?_
                  refine g_get (w := wM q) hC 0 (v := .ref (q.2.2 3)) fl_X7_20 (show 0 < 17 from by decide) rfl rfl (gDec_at DX7_shape_0 57 rfl) ?_
                  refine g_iload hC (gDec_at DX7_shape_0 58 rfl) rfl ?_
                  refine g_aload_n hC (gDec_at DX7_shape_0 59 rfl) rfl ?_
                  refine g_iload hC (gDec_at DX7_shape_0 60 rfl) rfl ?_
                  refine g_iload_n hC (gDec_at DX7_shape_0 61 rfl) rfl ?_
                  refine g_iload_n hC (gDec_at DX7_shape_0 62 rfl) rfl ?_
                  refine g_callVd (w := wM q) hC 0 (c_X7_formOf_f q hI1 (j := i) (by omega) (by omega) (f := f) (s := s) (by omega) (by omega) hzi) vf_X7_formOf ml_X7_209 (by decide) (show 0 < 17 from by decide) rfl rfl rfl rfl rfl (Nat.le_of_ble_eq_true rfl) (gDec_at DX7_shape_0 63 rfl) ?_
                  refine g_iast (w := wM q) hC 3 0 i (show 3 < 17 from by decide) rfl rfl rfl (by omega) (by decide) (gDec_at DX7_shape_1 0 rfl) ?_
                  refine g_iincN hC (gDec_at DX7_shape_1 1 rfl) rfl (by decide) (L' := [(4, .int (nI (i + 1))), (3, .int (nI ((sFmN B f s i) + 0))), (0, .ref (q.2.2 0)), (1, .int (nI f)), (2, .int (nI s))]) rfl ?_
                  refine g_goto hC (gDec_at DX7_shape_1 2 rfl) 58 (by decide) ?_
                  refine g_sub [2, 3, 4, 1, 0] (L' := [(0, .ref (q.2.2 0)), (1, .int (nI f)), (2, .int (nI s)), (3, .int (nI ((sFmN B f s i) + 0))), (4, .int (nI (i + 1)))]) rfl ?_
                  have h9 := ih_lp2 (i + 1) _ (by omega) (by omega) (by rw [← fmB_s B f s i h71]; exact mI_set (f := 1) hI1 (by omega) (by rw [fmB_s B f s i h71]; exact fmB_V hI.2.2 hh _)) (sameO_up hs1 rfl)
                  rw [show sFmN B f s (i + 1) = _ from gsm_s0 (f := (fun j => if j % 6 < B 9 0 ∧ ¬ sForm B j f s = B 1 j then 1 else 0)) (if_neg (fun z => z.2 h90))] at h9
                  exact h9
        exact g_sub [2, 3, 4, 1, 0] rfl (lp2 (12 + 1 - 0) 0 M (by omega) (by omega) (by rw [fmB_0]; exact hI) sameO_rf)
      · skip
        refine g_aload_n hC (gDec_at DX7_shape_0 14 rfl) rfl ?_
        refine g_iload_n hC (gDec_at DX7_shape_0 15 rfl) rfl ?_
        refine g_callVd (w := wM q) hC 0 (c_X7_isThere q hI (i := i) (by omega)) vf_X7_isThere ml_X7_128 (by decide) (show 0 < 17 from by decide) rfl rfl rfl rfl rfl (Nat.le_of_ble_eq_true rfl) (gDec_at DX7_shape_0 16 rfl) ?_
        refine g_if_eqB hC (gDec_at DX7_shape_0 17 rfl) 47 (by decide) (fun h29 => ?_) (fun h29 => ?_)
        · skip
          refine g_iincN hC (gDec_at DX7_shape_0 27 rfl) rfl (by decide) (L' := [(3, .int (nI (i + 1))), (0, .ref (q.2.2 0)), (1, .int (nI f)), (2, .int (nI s))]) rfl ?_
          refine g_goto hC (gDec_at DX7_shape_0 28 rfl) 18 (by decide) ?_
          refine g_sub [1, 2, 3, 0] (L' := [(0, .ref (q.2.2 0)), (1, .int (nI f)), (2, .int (nI s)), (3, .int (nI (i + 1)))]) rfl ?_
          have h9 := ih (i + 1) (by omega) (by omega)
          exact h9
        · skip
          refine g_aload_n hC (gDec_at DX7_shape_0 18 rfl) rfl ?_
          refine g_iload_n hC (gDec_at DX7_shape_0 19 rfl) rfl ?_
          refine g_iload_n hC (gDec_at DX7_shape_0 20 rfl) rfl ?_
          refine g_iload_n hC (gDec_at DX7_shape_0 21 rfl) rfl ?_
          refine g_callVd (w := wM q) hC 0 (c_X7_formOf q hI (j := i) (by omega) (by omega) (f := f) (s := s) (by omega) (by omega)) vf_X7_formOf ml_X7_209 (by decide) (show 0 < 17 from by decide) rfl rfl rfl rfl rfl (Nat.le_of_ble_eq_true rfl) (gDec_at DX7_shape_0 22 rfl) ?_
          refine g_bipush hC (gDec_at DX7_shape_0 23 rfl) (v := -9) (by decide) ?_
          refine g_icmp_ne hC (gDec_at DX7_shape_0 24 rfl) 47 (by decide) (fun h41 => ?_) (fun h41 => ?_)
          · skip
            refine g_iincN hC (gDec_at DX7_shape_0 27 rfl) rfl (by decide) (L' := [(3, .int (nI (i + 1))), (0, .ref (q.2.2 0)), (1, .int (nI f)), (2, .int (nI s))]) rfl ?_
            refine g_goto hC (gDec_at DX7_shape_0 28 rfl) 18 (by decide) ?_
            refine g_sub [1, 2, 3, 0] (L' := [(0, .ref (q.2.2 0)), (1, .int (nI f)), (2, .int (nI s)), (3, .int (nI (i + 1)))]) rfl ?_
            have h9 := ih (i + 1) (by omega) (by omega)
            exact h9
          · skip
            exact absurd h41 (fk_ne.mpr (hh i (by omega) h29))
  exact g_sub [1, 2, 3, 0] rfl (loop18 (12 + 1 - 0) 0 (by omega) (by omega))

set_option maxRecDepth 100000 in
set_option maxHeartbeats 4000000 in
theorem c_X7_next_badx (q : gQ3) {M : gM} {B : gB} (hI : mI M B) {x0 : Int32} (hx0 : ¬ gin x0 0 40) {f : Int32} : gCt (wM q) yX7_next cX7_next 7 (some .int) 8 [.ref (q.2.2 0), .int x0, .int f] M (gR (some (.int (-2))) M) := by
  refine gMet RX7 (by decide +kernel) rfl (Nat.le_of_ble_eq_true rfl) (fun X hC => ?_)
  have hC : gC X (wM q) cX7_next 7 RX7 (some .int) 8 := hC
  show gG X (wM q) _ 7 M 0 [(0, .ref (q.2.2 0)), (1, .int x0), (2, .int f)] []
  refine g_aload_n hC (gDec_at DX7_next_0 0 rfl) rfl ?_
  refine g_iconst hC (gDec_at DX7_next_0 1 rfl) (v := nI 0) (by decide) ?_
  refine g_putI (w := wM q) hC 0 fl_X7_67 fp_7_0 (show 0 < 17 from by decide) rfl (Nat.le_of_ble_eq_true rfl) rfl rfl (gDec_at DX7_next_0 2 rfl) ?_
  refine g_M (mi_0 hI) ?_
  refine g_iload_n hC (gDec_at DX7_next_0 3 rfl) rfl ?_
  refine g_callSd (w := wM q) hC (c_X7_noInches_out q hx0) sf_X7_noInches ml_X7_147 (by decide) rfl rfl (Nat.le_of_ble_eq_true rfl) (gDec_at DX7_next_0 4 rfl) ?_
  refine g_if_neN hC (by decide) (gDec_at DX7_next_0 5 rfl) 24 (by decide) (fun h => ?_) (fun h => absurd h (by decide))
  refine g_bipush hC (gDec_at DX7_next_0 12 rfl) (v := -2) (by decide) ?_
  refine g_iret hC (gDec_at DX7_next_0 13 rfl) ?_
  exact ⟨rfl, rfl⟩

set_option maxRecDepth 100000 in
set_option maxHeartbeats 4000000 in
theorem c_X7_next_badf (q : gQ3) {M : gM} {B : gB} (hI : mI M B) {x : Nat} (hx : x ≤ 40) {f : Int32} (hf : ¬ gin f 0 999) : gCt (wM q) yX7_next cX7_next 7 (some .int) 8 [.ref (q.2.2 0), .int (nI x), .int f] M (gR (some (.int (-2))) M) := by
  refine gMet RX7 (by decide +kernel) rfl (Nat.le_of_ble_eq_true rfl) (fun X hC => ?_)
  have hC : gC X (wM q) cX7_next 7 RX7 (some .int) 8 := hC
  show gG X (wM q) _ 7 M 0 [(0, .ref (q.2.2 0)), (1, .int (nI x)), (2, .int f)] []
  refine g_aload_n hC (gDec_at DX7_next_0 0 rfl) rfl ?_
  refine g_iconst hC (gDec_at DX7_next_0 1 rfl) (v := nI 0) (by decide) ?_
  refine g_putI (w := wM q) hC 0 fl_X7_67 fp_7_0 (show 0 < 17 from by decide) rfl (Nat.le_of_ble_eq_true rfl) rfl rfl (gDec_at DX7_next_0 2 rfl) ?_
  refine g_M (mi_0 hI) ?_
  refine g_iload_n hC (gDec_at DX7_next_0 3 rfl) rfl ?_
  refine g_callSd (w := wM q) hC (c_X7_noInches_in q (k := x) (by omega)) sf_X7_noInches ml_X7_147 (by decide) rfl rfl (Nat.le_of_ble_eq_true rfl) (gDec_at DX7_next_0 4 rfl) ?_
  refine g_if_neN hC (by decide) (gDec_at DX7_next_0 5 rfl) 24 (by decide) (fun h => absurd h (by decide)) (fun h => ?_)
  refine g_iload_n hC (gDec_at DX7_next_0 6 rfl) rfl ?_
  refine g_i2l hC (gDec_at DX7_next_0 7 rfl) rfl ?_
  refine g_lconst hC (gDec_at DX7_next_0 8 rfl) (v := lN 0) (by decide) ?_
  refine g_ldc2 hC cl_X7_168 (v' := lN 999) (by decide) (gDec_at DX7_next_0 9 rfl) ?_
  refine g_callSd (w := wM q) hC (c_X7_in_no q (by omega) (by omega) hf) sf_X7_in ml_X7_72 (by decide) rfl rfl (Nat.le_of_ble_eq_true rfl) (gDec_at DX7_next_0 10 rfl) ?_
  refine g_if_neN hC (by decide) (gDec_at DX7_next_0 11 rfl) 27 (by decide) (fun h => absurd h (by decide)) (fun h => ?_)
  refine g_bipush hC (gDec_at DX7_next_0 12 rfl) (v := -2) (by decide) ?_
  refine g_iret hC (gDec_at DX7_next_0 13 rfl) ?_
  exact ⟨rfl, rfl⟩

theorem dec_m {M : gM} {B : gB} (hI : mI M B) {j : Nat} (h : 4 < B 1 j) : mI (gupd M 3 j (nI (B 1 j - 1))) (dec B j) := mI_set (f := 1) hI (by omega) (dec_V hI.2.2 h)
theorem c_X7_evenOf_d (q : gQ3) {M : gM} {B : gB} {i : Nat} (hI : mI M (dec B i)) {x : Nat} (hx : x ≤ 40) : gCt (wM q) yX7_evenOf cX7_evenOf 4 (some .int) 6 [.ref (q.2.2 0), .int (nI x)] M (gR (some (.int (nI (sEvn (dec B i) (sPull B x) (sAll (dec B i)))))) M) := c_X7_evenOf q hI hx
theorem c_X7_isHeavy_d (q : gQ3) {M : gM} {B : gB} {i : Nat} (hI : mI M (dec B i)) {x f : Nat} (hx : x ≤ 40) (hf : f ≤ 999) : gCt (wM q) yX7_isHeavy cX7_isHeavy 3 (some .boolean) 4 [.ref (q.2.2 0), .int (nI x), .int (nI f)] M (gR (some (.int (gb (f * sAll (dec B i) ≤ sPull B x)))) M) := c_X7_isHeavy q hI hx hf
set_option maxRecDepth 100000 in
set_option maxHeartbeats 4000000 in
theorem c_X7_next_ok (q : gQ3) {M : gM} {B : gB} (hI : mI M B) {x : Nat} (hx : x ≤ 40) {f : Nat} (hfa : 0 ≤ f) (hfb : f ≤ 999) : gCt (wM q) yX7_next cX7_next 7 (some .int) 8 [.ref (q.2.2 0), .int (nI x), .int (nI f)] M (gR (some (.int (nxV (sNx B x f 12).2))) M) := by
  refine gMet RX7 (by decide +kernel) rfl (Nat.le_of_ble_eq_true rfl) (fun X hC => ?_)
  have hC : gC X (wM q) cX7_next 7 RX7 (some .int) 8 := hC
  show gG X (wM q) _ 7 M 0 [(0, .ref (q.2.2 0)), (1, .int (nI x)), (2, .int (nI f))] []
  have hm := bv_many hI.2.2
  have hpl := sPull_le B hx
  refine g_aload_n hC (gDec_at DX7_next_0 0 rfl) rfl ?_
  refine g_iconst hC (gDec_at DX7_next_0 1 rfl) (v := nI 0) (by decide) ?_
  refine g_putI (w := wM q) hC 0 fl_X7_67 fp_7_0 (show 0 < 17 from by decide) rfl (Nat.le_of_ble_eq_true rfl) rfl rfl (gDec_at DX7_next_0 2 rfl) ?_
  refine g_M (mi_0 hI) ?_
  refine g_iload_n hC (gDec_at DX7_next_0 3 rfl) rfl ?_
  refine g_callSd (w := wM q) hC (c_X7_noInches_in q (k := x) (by omega)) sf_X7_noInches ml_X7_147 (by decide) rfl rfl (Nat.le_of_ble_eq_true rfl) (gDec_at DX7_next_0 4 rfl) ?_
  refine g_if_neN hC (by decide) (gDec_at DX7_next_0 5 rfl) 24 (by decide) (fun h => absurd h (by decide)) (fun h => ?_)
  refine g_iload_n hC (gDec_at DX7_next_0 6 rfl) rfl ?_
  refine g_i2lN hC (by omega) (gDec_at DX7_next_0 7 rfl) ?_
  refine g_lconst hC (gDec_at DX7_next_0 8 rfl) (v := lN 0) (by decide) ?_
  refine g_ldc2 hC cl_X7_168 (v' := lN 999) (by decide) (gDec_at DX7_next_0 9 rfl) ?_
  refine g_callSd (w := wM q) hC (c_X7_in_yes q (v := f) (a := 0) (b := 999) (by omega) (by omega) (by omega)) sf_X7_in ml_X7_72 (by decide) rfl rfl (Nat.le_of_ble_eq_true rfl) (gDec_at DX7_next_0 10 rfl) ?_
  refine g_if_neN hC (by decide) (gDec_at DX7_next_0 11 rfl) 27 (by decide) (fun h => ?_) (fun h => absurd h (by decide))
  refine g_aload_n hC (gDec_at DX7_next_0 14 rfl) rfl ?_
  refine g_iload_n hC (gDec_at DX7_next_0 15 rfl) rfl ?_
  refine g_callVd (w := wM q) hC 0 (c_X7_evenOf q hI (x := x) (by omega)) vf_X7_evenOf ml_X7_174 (by decide) (show 0 < 17 from by decide) rfl rfl rfl rfl rfl (Nat.le_of_ble_eq_true rfl) (gDec_at DX7_next_0 16 rfl) ?_
  refine g_istore_n hC (gDec_at DX7_next_0 17 rfl) (by decide) (L' := [(3, .int (nI (sEvn B (sPull B x) (sAll B)))), (0, .ref (q.2.2 0)), (1, .int (nI x)), (2, .int (nI f))]) rfl ?_
  refine g_bipush hC (gDec_at DX7_next_0 18 rfl) (v := -9) (by decide) ?_
  refine g_istore hC (gDec_at DX7_next_0 19 rfl) (by decide) (L' := [(4, .int (-9)), (3, .int (nI (sEvn B (sPull B x) (sAll B)))), (0, .ref (q.2.2 0)), (1, .int (nI x)), (2, .int (nI f))]) rfl ?_
  refine g_iconst hC (gDec_at DX7_next_0 20 rfl) (v := nI 0) (by decide) ?_
  refine g_istore hC (gDec_at DX7_next_0 21 rfl) (by decide) (L' := [(5, .int (nI 0)), (4, .int (-9)), (3, .int (nI (sEvn B (sPull B x) (sAll B)))), (0, .ref (q.2.2 0)), (1, .int (nI x)), (2, .int (nI f))]) rfl ?_
  have loop40 : ∀ (fu i : Nat), i ≤ 12 → 12 - i < fu → gG X (wM q) (gR (some (.int (nxV (sNx B x f 12).2))) M) 7 M 40 [(0, .ref (q.2.2 0)), (1, .int (nI x)), (2, .int (nI f)), (3, .int (nI ((sNx B x f i).1))), (4, .int (nxV (sNx B x f i).2)), (5, .int (nI i))] [] := by
    intro fu; induction fu with
    | zero => intro i h1 h2; omega
    | succ fu ih =>
      intro i hi hfu 
      have hle := sNx_le hm.1 x f i
      refine g_iload hC (gDec_at DX7_next_0 22 rfl) rfl ?_
      refine g_bipush hC (gDec_at DX7_next_0 23 rfl) (v := nI 12) (by decide) ?_
      refine g_icmp_geN hC (by omega) (by omega) (gDec_at DX7_next_0 24 rfl) 127 (by decide) (fun h44 => ?_) (fun h44 => ?_)
      · skip
        obtain rfl : i = 12 := by omega
        refine g_iload hC (gDec_at DX7_next_1 6 rfl) rfl ?_
        refine g_iret hC (gDec_at DX7_next_1 7 rfl) ?_
        exact ⟨rfl, rfl⟩
      · skip
        refine g_aload_n hC (gDec_at DX7_next_0 25 rfl) rfl ?_
        refine g_iload hC (gDec_at DX7_next_0 26 rfl) rfl ?_
        refine g_callVd (w := wM q) hC 0 (c_X7_isThere q hI (i := i) (by omega)) vf_X7_isThere ml_X7_128 (by decide) (show 0 < 17 from by decide) rfl rfl rfl rfl rfl (Nat.le_of_ble_eq_true rfl) (gDec_at DX7_next_0 27 rfl) ?_
        refine g_if_eqB hC (gDec_at DX7_next_0 28 rfl) 121 (by decide) (fun h53 => ?_) (fun h53 => ?_)
        · skip
          refine g_iincN hC (gDec_at DX7_next_1 4 rfl) rfl (by decide) (L' := [(5, .int (nI (i + 1))), (0, .ref (q.2.2 0)), (1, .int (nI x)), (2, .int (nI f)), (3, .int (nI ((sNx B x f i).1))), (4, .int (nxV (sNx B x f i).2))]) rfl ?_
          refine g_goto hC (gDec_at DX7_next_1 5 rfl) 40 (by decide) ?_
          refine g_sub [1, 2, 3, 4, 5, 0] (L' := [(0, .ref (q.2.2 0)), (1, .int (nI x)), (2, .int (nI f)), (3, .int (nI ((sNx B x f i).1))), (4, .int (nxV (sNx B x f i).2)), (5, .int (nI (i + 1)))]) rfl ?_
          have e9 : (sNx B x f (i + 1)) = (sNx B x f i) := if_neg (fun z => h53 z.1)
          have h9 := ih (i + 1) (by omega) (by omega)
          rw [e9] at h9
          exact h9
        · skip
          have h1i := bv_f1 hI.2.2 (by omega : i < 12) h53
          refine g_aload_n hC (gDec_at DX7_next_0 29 rfl) rfl ?_
          refine g_get (w := wM q) hC 0 (v := .ref (q.2.2 3)) fl_X7_20 (show 0 < 17 from by decide) rfl rfl (gDec_at DX7_next_0 30 rfl) ?_
          refine g_iload hC (gDec_at DX7_next_0 31 rfl) rfl ?_
          refine g_iald (w := wM q) hC 3 0 i (x := (nI (B 1 i))) (show 3 < 17 from by decide) rfl rfl (by omega) (by decide) (mi_f1 hI (by omega) (by omega)) (gDec_at DX7_next_0 32 rfl) ?_
          refine g_iconst hC (gDec_at DX7_next_0 33 rfl) (v := nI 4) (by decide) ?_
          refine g_icmp_leN hC (by omega) (by omega) (gDec_at DX7_next_0 34 rfl) 121 (by decide) (fun h64 => ?_) (fun h64 => ?_)
          · skip
            refine g_iincN hC (gDec_at DX7_next_1 4 rfl) rfl (by decide) (L' := [(5, .int (nI (i + 1))), (0, .ref (q.2.2 0)), (1, .int (nI x)), (2, .int (nI f)), (3, .int (nI ((sNx B x f i).1))), (4, .int (nxV (sNx B x f i).2))]) rfl ?_
            refine g_goto hC (gDec_at DX7_next_1 5 rfl) 40 (by decide) ?_
            refine g_sub [1, 2, 3, 4, 5, 0] (L' := [(0, .ref (q.2.2 0)), (1, .int (nI x)), (2, .int (nI f)), (3, .int (nI ((sNx B x f i).1))), (4, .int (nxV (sNx B x f i).2)), (5, .int (nI (i + 1)))]) rfl ?_
            have e9 : (sNx B x f (i + 1)) = (sNx B x f i) := if_neg (fun z => by have z2 := z.2.1; omega)
            have h9 := ih (i + 1) (by omega) (by omega)
            rw [e9] at h9
            exact h9
          · skip
            refine g_aload_n hC (gDec_at DX7_next_0 35 rfl) rfl ?_
            refine g_get (w := wM q) hC 0 (v := .ref (q.2.2 3)) fl_X7_20 (show 0 < 17 from by decide) rfl rfl (gDec_at DX7_next_0 36 rfl) ?_
            refine g_iload hC (gDec_at DX7_next_0 37 rfl) rfl ?_
            refine g_dup2 hC (gDec_at DX7_next_0 38 rfl) rfl rfl ?_
            refine g_iald (w := wM q) hC 3 0 i (x := (nI (B 1 i))) (show 3 < 17 from by decide) rfl rfl (by omega) (by decide) (mi_f1 hI (by omega) (by omega)) (gDec_at DX7_next_0 39 rfl) ?_
            refine g_iconst hC (gDec_at DX7_next_0 40 rfl) (v := nI 1) (by decide) ?_
            refine g_isubN hC (by omega) (gDec_at DX7_next_0 41 rfl) ?_
            refine g_iast (w := wM q) hC 3 0 i (show 3 < 17 from by decide) rfl rfl rfl (by omega) (by decide) (gDec_at DX7_next_0 42 rfl) ?_
            have hI2 := dec_m hI (j := i) (by omega)
            have hev := sEvn_le (B := dec B i) hm.1 (sPull B x) (sAll (dec B i))
            refine g_aload_n hC (gDec_at DX7_next_0 43 rfl) rfl ?_
            refine g_iload_n hC (gDec_at DX7_next_0 44 rfl) rfl ?_
            refine g_callVd (w := wM q) hC 0 (c_X7_evenOf_d q hI2 (x := x) (by omega)) vf_X7_evenOf ml_X7_174 (by decide) (show 0 < 17 from by decide) rfl rfl rfl rfl rfl (Nat.le_of_ble_eq_true rfl) (gDec_at DX7_next_0 45 rfl) ?_
            refine g_istore hC (gDec_at DX7_next_0 46 rfl) (by decide) (L' := [(6, .int (nI (sEvn (dec B i) (sPull B x) (sAll (dec B i))))), (0, .ref (q.2.2 0)), (1, .int (nI x)), (2, .int (nI f)), (3, .int (nI ((sNx B x f i).1))), (4, .int (nxV (sNx B x f i).2)), (5, .int (nI i))]) rfl ?_
            refine g_iload hC (gDec_at DX7_next_0 47 rfl) rfl ?_
            refine g_iload_n hC (gDec_at DX7_next_0 48 rfl) rfl ?_
            refine g_icmp_leN hC (by omega) (by omega) (gDec_at DX7_next_0 49 rfl) 110 (by decide) (fun h88 => ?_) (fun h88 => ?_)
            · skip
              refine g_aload_n hC (gDec_at DX7_next_0 60 rfl) rfl ?_
              refine g_get (w := wM q) hC 0 (v := .ref (q.2.2 3)) fl_X7_20 (show 0 < 17 from by decide) rfl rfl (gDec_at DX7_next_0 61 rfl) ?_
              refine g_iload hC (gDec_at DX7_next_0 62 rfl) rfl ?_
              refine g_dup2 hC (gDec_at DX7_next_0 63 rfl) rfl rfl ?_
              refine g_iald (w := wM q) hC 3 0 i (x := (nI (B 1 i - 1))) (show 3 < 17 from by decide) rfl rfl (by omega) (by decide) (by rw [gupd_get, if_pos ⟨rfl, rfl⟩]) (gDec_at DX7_next_1 0 rfl) ?_
              refine g_iconst hC (gDec_at DX7_next_1 1 rfl) (v := nI 1) (by decide) ?_
              refine g_iaddN hC (gDec_at DX7_next_1 2 rfl) ?_
              refine g_iast (w := wM q) hC 3 0 i (show 3 < 17 from by decide) rfl rfl rfl (by omega) (by decide) (gDec_at DX7_next_1 3 rfl) ?_
              rw [show B 1 i - 1 + 1 = B 1 i by omega]
              refine g_M (M' := M) (gupd_back (mi_f1 hI (by omega) (by omega))) ?_
              refine g_iincN hC (gDec_at DX7_next_1 4 rfl) rfl (by decide) (L' := [(5, .int (nI (i + 1))), (6, .int (nI (sEvn (dec B i) (sPull B x) (sAll (dec B i))))), (0, .ref (q.2.2 0)), (1, .int (nI x)), (2, .int (nI f)), (3, .int (nI ((sNx B x f i).1))), (4, .int (nxV (sNx B x f i).2))]) rfl ?_
              refine g_goto hC (gDec_at DX7_next_1 5 rfl) 40 (by decide) ?_
              refine g_sub [2, 3, 4, 5, 6, 0] (L' := [(0, .ref (q.2.2 0)), (1, .int (nI x)), (2, .int (nI f)), (3, .int (nI ((sNx B x f i).1))), (4, .int (nxV (sNx B x f i).2)), (5, .int (nI (i + 1)))]) rfl ?_
              have e9 : (sNx B x f (i + 1)) = (sNx B x f i) := if_neg (fun z => by have z2 := z.2.2.2; omega)
              have h9 := ih (i + 1) (by omega) (by omega)
              rw [e9] at h9
              exact h9
            · skip
              refine g_aload_n hC (gDec_at DX7_next_0 50 rfl) rfl ?_
              refine g_iload_n hC (gDec_at DX7_next_0 51 rfl) rfl ?_
              refine g_iload_n hC (gDec_at DX7_next_0 52 rfl) rfl ?_
              refine g_callVd (w := wM q) hC 0 (c_X7_isHeavy_d q hI2 (x := x) (f := f) (by omega) (by omega)) vf_X7_isHeavy ml_X7_177 (by decide) (show 0 < 17 from by decide) rfl rfl rfl rfl rfl (Nat.le_of_ble_eq_true rfl) (gDec_at DX7_next_0 53 rfl) ?_
              refine g_if_eqB hC (gDec_at DX7_next_0 54 rfl) 110 (by decide) (fun h97 => ?_) (fun h97 => ?_)
              · skip
                refine g_aload_n hC (gDec_at DX7_next_0 60 rfl) rfl ?_
                refine g_get (w := wM q) hC 0 (v := .ref (q.2.2 3)) fl_X7_20 (show 0 < 17 from by decide) rfl rfl (gDec_at DX7_next_0 61 rfl) ?_
                refine g_iload hC (gDec_at DX7_next_0 62 rfl) rfl ?_
                refine g_dup2 hC (gDec_at DX7_next_0 63 rfl) rfl rfl ?_
                refine g_iald (w := wM q) hC 3 0 i (x := (nI (B 1 i - 1))) (show 3 < 17 from by decide) rfl rfl (by omega) (by decide) (by rw [gupd_get, if_pos ⟨rfl, rfl⟩]) (gDec_at DX7_next_1 0 rfl) ?_
                refine g_iconst hC (gDec_at DX7_next_1 1 rfl) (v := nI 1) (by decide) ?_
                refine g_iaddN hC (gDec_at DX7_next_1 2 rfl) ?_
                refine g_iast (w := wM q) hC 3 0 i (show 3 < 17 from by decide) rfl rfl rfl (by omega) (by decide) (gDec_at DX7_next_1 3 rfl) ?_
                rw [show B 1 i - 1 + 1 = B 1 i by omega]
                refine g_M (M' := M) (gupd_back (mi_f1 hI (by omega) (by omega))) ?_
                refine g_iincN hC (gDec_at DX7_next_1 4 rfl) rfl (by decide) (L' := [(5, .int (nI (i + 1))), (6, .int (nI (sEvn (dec B i) (sPull B x) (sAll (dec B i))))), (0, .ref (q.2.2 0)), (1, .int (nI x)), (2, .int (nI f)), (3, .int (nI ((sNx B x f i).1))), (4, .int (nxV (sNx B x f i).2))]) rfl ?_
                refine g_goto hC (gDec_at DX7_next_1 5 rfl) 40 (by decide) ?_
                refine g_sub [2, 3, 4, 5, 6, 0] (L' := [(0, .ref (q.2.2 0)), (1, .int (nI x)), (2, .int (nI f)), (3, .int (nI ((sNx B x f i).1))), (4, .int (nxV (sNx B x f i).2)), (5, .int (nI (i + 1)))]) rfl ?_
                have e9 : (sNx B x f (i + 1)) = (sNx B x f i) := if_neg (fun z => h97 z.2.2.1)
                have h9 := ih (i + 1) (by omega) (by omega)
                rw [e9] at h9
                exact h9
              · skip
                refine g_iload hC (gDec_at DX7_next_0 55 rfl) rfl ?_
                refine g_istore_n hC (gDec_at DX7_next_0 56 rfl) (by decide) (L' := [(3, .int (nI (sEvn (dec B i) (sPull B x) (sAll (dec B i))))), (6, .int (nI (sEvn (dec B i) (sPull B x) (sAll (dec B i))))), (0, .ref (q.2.2 0)), (1, .int (nI x)), (2, .int (nI f)), (4, .int (nxV (sNx B x f i).2)), (5, .int (nI i))]) rfl ?_
                refine g_iload hC (gDec_at DX7_next_0 57 rfl) rfl ?_
                refine g_callSd (w := wM q) hC (c_X7_code q (i := i) (by omega)) sf_X7_code ml_X7_165 (by decide) rfl rfl (Nat.le_of_ble_eq_true rfl) (gDec_at DX7_next_0 58 rfl) ?_
                refine g_istore hC (gDec_at DX7_next_0 59 rfl) (by decide) (L' := [(4, .int (nI (sTold i))), (3, .int (nI (sEvn (dec B i) (sPull B x) (sAll (dec B i))))), (6, .int (nI (sEvn (dec B i) (sPull B x) (sAll (dec B i))))), (0, .ref (q.2.2 0)), (1, .int (nI x)), (2, .int (nI f)), (5, .int (nI i))]) rfl ?_
                refine g_aload_n hC (gDec_at DX7_next_0 60 rfl) rfl ?_
                refine g_get (w := wM q) hC 0 (v := .ref (q.2.2 3)) fl_X7_20 (show 0 < 17 from by decide) rfl rfl (gDec_at DX7_next_0 61 rfl) ?_
                refine g_iload hC (gDec_at DX7_next_0 62 rfl) rfl ?_
                refine g_dup2 hC (gDec_at DX7_next_0 63 rfl) rfl rfl ?_
                refine g_iald (w := wM q) hC 3 0 i (x := (nI (B 1 i - 1))) (show 3 < 17 from by decide) rfl rfl (by omega) (by decide) (by rw [gupd_get, if_pos ⟨rfl, rfl⟩]) (gDec_at DX7_next_1 0 rfl) ?_
                refine g_iconst hC (gDec_at DX7_next_1 1 rfl) (v := nI 1) (by decide) ?_
                refine g_iaddN hC (gDec_at DX7_next_1 2 rfl) ?_
                refine g_iast (w := wM q) hC 3 0 i (show 3 < 17 from by decide) rfl rfl rfl (by omega) (by decide) (gDec_at DX7_next_1 3 rfl) ?_
                rw [show B 1 i - 1 + 1 = B 1 i by omega]
                refine g_M (M' := M) (gupd_back (mi_f1 hI (by omega) (by omega))) ?_
                refine g_iincN hC (gDec_at DX7_next_1 4 rfl) rfl (by decide) (L' := [(5, .int (nI (i + 1))), (4, .int (nI (sTold i))), (3, .int (nI (sEvn (dec B i) (sPull B x) (sAll (dec B i))))), (6, .int (nI (sEvn (dec B i) (sPull B x) (sAll (dec B i))))), (0, .ref (q.2.2 0)), (1, .int (nI x)), (2, .int (nI f))]) rfl ?_
                refine g_goto hC (gDec_at DX7_next_1 5 rfl) 40 (by decide) ?_
                refine g_sub [4, 5, 6, 2, 1, 0] (L' := [(0, .ref (q.2.2 0)), (1, .int (nI x)), (2, .int (nI f)), (3, .int (nI (sEvn (dec B i) (sPull B x) (sAll (dec B i))))), (4, .int (nI (sTold i))), (5, .int (nI (i + 1)))]) rfl ?_
                have e9 : (sNx B x f (i + 1)) = (sEvn (dec B i) (sPull B x) (sAll (dec B i)), i + 1) := if_pos ⟨h53, by omega, h97, by omega⟩
                have h9 := ih (i + 1) (by omega) (by omega)
                rw [e9] at h9
                rw [show ((sEvn (dec B i) (sPull B x) (sAll (dec B i)), i + 1) : Nat × Nat).2 = i + 1 from rfl, nxV_s] at h9
                exact h9
  exact g_sub [3, 4, 5, 2, 1, 0] rfl (loop40 (12 + 1 - 0) 0 (by omega) (by omega))
