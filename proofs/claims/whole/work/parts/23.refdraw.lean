/-! THE REFERENCE: draw -/
set_option maxRecDepth 100000 in
set_option maxHeartbeats 4000000 in
theorem c_X7_draw_bad (q : gQ3) {M : gM} {B : gB} (hI : mI M B) {x0 : Int32} (hx0 : ¬ gin x0 0 40) : gCt (wM q) yX7_draw cX7_draw 8 (some .int) 8 [.ref (q.2.2 0), .int x0] M (gR (some (.int (-2))) M) := by
  refine gMet RX7 (by decide +kernel) rfl (Nat.le_of_ble_eq_true rfl) (fun X hC => ?_)
  have hC : gC X (wM q) cX7_draw 8 RX7 (some .int) 8 := hC
  show gG X (wM q) _ 8 M 0 [(0, .ref (q.2.2 0)), (1, .int x0)] []
  refine g_aload_n hC (gDec_at DX7_draw_0 0 rfl) rfl ?_
  refine g_iconst hC (gDec_at DX7_draw_0 1 rfl) (v := nI 0) (by decide) ?_
  refine g_putI (w := wM q) hC 0 fl_X7_67 fp_7_0 (show 0 < 17 from by decide) rfl (Nat.le_of_ble_eq_true rfl) rfl rfl (gDec_at DX7_draw_0 2 rfl) ?_
  refine g_M (mi_0 hI) ?_
  refine g_iload_n hC (gDec_at DX7_draw_0 3 rfl) rfl ?_
  refine g_callSd (w := wM q) hC (c_X7_noInches_out q hx0) sf_X7_noInches ml_X7_147 (by decide) rfl rfl (Nat.le_of_ble_eq_true rfl) (gDec_at DX7_draw_0 4 rfl) ?_
  refine g_if_eqN hC (by decide) (gDec_at DX7_draw_0 5 rfl) 15 (by decide) (fun h => absurd h (by decide)) (fun h => ?_)
  refine g_bipush hC (gDec_at DX7_draw_0 6 rfl) (v := -2) (by decide) ?_
  refine g_iret hC (gDec_at DX7_draw_0 7 rfl) ?_
  exact ⟨rfl, rfl⟩

set_option maxRecDepth 100000 in
set_option maxHeartbeats 4000000 in
theorem c_X7_draw_brk (q : gQ3) {M : gM} {B : gB} (hI : mI M B) {x : Nat} (hx : x ≤ 40) (hb1 : 0 < B 9 1) : gCt (wM q) yX7_draw cX7_draw 8 (some .int) 8 [.ref (q.2.2 0), .int (nI x)] M (gR (some (.int (-3))) M) := by
  refine gMet RX7 (by decide +kernel) rfl (Nat.le_of_ble_eq_true rfl) (fun X hC => ?_)
  have hC : gC X (wM q) cX7_draw 8 RX7 (some .int) 8 := hC
  show gG X (wM q) _ 8 M 0 [(0, .ref (q.2.2 0)), (1, .int (nI x))] []
  have h16 := hI.2.2.2.2.1
  refine g_aload_n hC (gDec_at DX7_draw_0 0 rfl) rfl ?_
  refine g_iconst hC (gDec_at DX7_draw_0 1 rfl) (v := nI 0) (by decide) ?_
  refine g_putI (w := wM q) hC 0 fl_X7_67 fp_7_0 (show 0 < 17 from by decide) rfl (Nat.le_of_ble_eq_true rfl) rfl rfl (gDec_at DX7_draw_0 2 rfl) ?_
  refine g_M (mi_0 hI) ?_
  refine g_iload_n hC (gDec_at DX7_draw_0 3 rfl) rfl ?_
  refine g_callSd (w := wM q) hC (c_X7_noInches_in q (k := x) (by omega)) sf_X7_noInches ml_X7_147 (by decide) rfl rfl (Nat.le_of_ble_eq_true rfl) (gDec_at DX7_draw_0 4 rfl) ?_
  refine g_if_eqN hC (by decide) (gDec_at DX7_draw_0 5 rfl) 15 (by decide) (fun h => ?_) (fun h => absurd h (by decide))
  refine g_aload_n hC (gDec_at DX7_draw_0 8 rfl) rfl ?_
  refine g_get (w := wM q) hC 0 (v := .int (nI (B 9 1 - 1))) fl_X7_35 (show 0 < 17 from by decide) rfl (g_sv ((mi_brk hI).trans (if_neg (by omega)))) (gDec_at DX7_draw_0 9 rfl) ?_
  refine g_bipush hC (gDec_at DX7_draw_0 10 rfl) (v := -9) (by decide) ?_
  refine g_icmp_eq hC (gDec_at DX7_draw_0 11 rfl) 27 (by decide) (fun h => absurd h (nI_n9 (by omega))) (fun h => ?_)
  refine g_bipush hC (gDec_at DX7_draw_0 12 rfl) (v := -3) (by decide) ?_
  refine g_iret hC (gDec_at DX7_draw_0 13 rfl) ?_
  exact ⟨rfl, rfl⟩

set_option maxRecDepth 100000 in
set_option maxHeartbeats 4000000 in
theorem c_X7_draw_breaks (q : gQ3) {M : gM} {B : gB} (hI : mI M B) {x : Nat} (hx : x ≤ 40) (hb0 : B 9 1 = 0) {j : Nat} (hk : (sBk B (sAb B (sPl B) (sPull B x) (sAll B)) 12).1 = j + 1) : gCt (wM q) yX7_draw cX7_draw 8 (some .int) 8 [.ref (q.2.2 0), .int (nI x)] M (gR (some (.int (nI (100 + sTold j)))) (gupd M 0 11 (nI (sTold j)))) := by
  refine gMet RX7 (by decide +kernel) rfl (Nat.le_of_ble_eq_true rfl) (fun X hC => ?_)
  have hC : gC X (wM q) cX7_draw 8 RX7 (some .int) 8 := hC
  show gG X (wM q) _ 8 M 0 [(0, .ref (q.2.2 0)), (1, .int (nI x))] []
  have hm := bv_many hI.2.2
  have hpl := sPull_le B hx
  have hst := fun j => sStr_le B j (gives := sAll B) hpl
  have hx2 := hx
  have hal := sAll_le B
  have hbd := fun n => sBk_bd (B := B) (a := (sAb B (sPl B) (sPull B x) (sAll B))) (c := 480000000000000) (fun j => by have := hst j; unfold sAb; omega) n
  have hja := sBk_at (B := B) (a := (sAb B (sPl B) (sPull B x) (sAll B))) 12
  have hj : j < 12 := by omega
  refine g_aload_n hC (gDec_at DX7_draw_0 0 rfl) rfl ?_
  refine g_iconst hC (gDec_at DX7_draw_0 1 rfl) (v := nI 0) (by decide) ?_
  refine g_putI (w := wM q) hC 0 fl_X7_67 fp_7_0 (show 0 < 17 from by decide) rfl (Nat.le_of_ble_eq_true rfl) rfl rfl (gDec_at DX7_draw_0 2 rfl) ?_
  refine g_M (mi_0 hI) ?_
  refine g_iload_n hC (gDec_at DX7_draw_0 3 rfl) rfl ?_
  refine g_callSd (w := wM q) hC (c_X7_noInches_in q (k := x) (by omega)) sf_X7_noInches ml_X7_147 (by decide) rfl rfl (Nat.le_of_ble_eq_true rfl) (gDec_at DX7_draw_0 4 rfl) ?_
  refine g_if_eqN hC (by decide) (gDec_at DX7_draw_0 5 rfl) 15 (by decide) (fun h => ?_) (fun h => absurd h (by decide))
  refine g_aload_n hC (gDec_at DX7_draw_0 8 rfl) rfl ?_
  refine g_get (w := wM q) hC 0 (v := .int (-9)) fl_X7_35 (show 0 < 17 from by decide) rfl (g_sv ((mi_brk hI).trans (by rw [hb0]; rfl))) (gDec_at DX7_draw_0 9 rfl) ?_
  refine g_bipush hC (gDec_at DX7_draw_0 10 rfl) (v := -9) (by decide) ?_
  refine g_icmp_eq hC (gDec_at DX7_draw_0 11 rfl) 27 (by decide) (fun h => ?_) (fun h => absurd rfl h)
  refine g_lconst hC (gDec_at DX7_draw_0 14 rfl) (v := lN 0) (by decide) ?_
  refine g_lstore_n hC (gDec_at DX7_draw_0 15 rfl) (by decide) (L' := [(2, .long (lN 0)), (0, .ref (q.2.2 0)), (1, .int (nI x))]) rfl ?_
  refine g_M (M' := (gupd M 0 11 (nxV (sBk B (sAb B (sPl B) (sPull B x) (sAll B)) 0).1))) (gupd_id ((mi_brk hI).trans (by rw [hb0]; rfl))).symm ?_
  refine g_iconst hC (gDec_at DX7_draw_0 16 rfl) (v := nI 0) (by decide) ?_
  refine g_istore hC (gDec_at DX7_draw_0 17 rfl) (by decide) (L' := [(4, .int (nI 0)), (2, .long (lN 0)), (0, .ref (q.2.2 0)), (1, .int (nI x))]) rfl ?_
  have loop32 : ∀ (fu i : Nat), i ≤ 12 → 12 - i < fu → gG X (wM q) (gR (some (.int (nI (100 + sTold j)))) (gupd M 0 11 (nI (sTold j)))) 8 (gupd M 0 11 (nxV (sBk B (sAb B (sPl B) (sPull B x) (sAll B)) i).1)) 32 [(0, .ref (q.2.2 0)), (1, .int (nI x)), (2, .long (lN ((sBk B (sAb B (sPl B) (sPull B x) (sAll B)) i).2))), (4, .int (nI i))] [] := by
    intro fu; induction fu with
    | zero => intro i h1 h2; omega
    | succ fu ih =>
      intro i hi hfu 
      have hbk := sBk_at (B := B) (a := (sAb B (sPl B) (sPull B x) (sAll B))) i
      have hI1 := mI_br hI (r := (sBk B (sAb B (sPl B) (sPull B x) (sAll B)) i).1) (by omega)
      have hsi := hst i
      have hbi := hbd i
      refine g_iload hC (gDec_at DX7_draw_0 18 rfl) rfl ?_
      refine g_bipush hC (gDec_at DX7_draw_0 19 rfl) (v := nI 12) (by decide) ?_
      refine g_icmp_geN hC (by omega) (by omega) (gDec_at DX7_draw_0 20 rfl) 93 (by decide) (fun h36 => ?_) (fun h36 => ?_)
      · skip
        obtain rfl : i = 12 := by omega
        rw [hk, nxV_s]
        refine g_sub [0, 1] rfl ?_
        refine g_aload_n hC (gDec_at DX7_draw_0 48 rfl) rfl ?_
        refine g_get (w := wM q) hC 0 (v := .int (nI (sTold j))) fl_X7_35 (show 0 < 17 from by decide) rfl (g_sv (by rw [gupd_get, if_pos ⟨rfl, rfl⟩])) (gDec_at DX7_draw_0 49 rfl) ?_
        refine g_bipush hC (gDec_at DX7_draw_0 50 rfl) (v := -9) (by decide) ?_
        refine g_icmp_eq hC (gDec_at DX7_draw_0 51 rfl) 110 (by decide) (fun h => absurd h (nI_n9 (by unfold sTold; omega))) (fun h => ?_)
        refine g_bipush hC (gDec_at DX7_draw_0 52 rfl) (v := nI 100) (by decide) ?_
        refine g_aload_n hC (gDec_at DX7_draw_0 53 rfl) rfl ?_
        refine g_get (w := wM q) hC 0 (v := .int (nI (sTold j))) fl_X7_35 (show 0 < 17 from by decide) rfl (g_sv (by rw [gupd_get, if_pos ⟨rfl, rfl⟩])) (gDec_at DX7_draw_0 54 rfl) ?_
        refine g_iaddN hC (gDec_at DX7_draw_0 55 rfl) ?_
        refine g_iret hC (gDec_at DX7_draw_0 56 rfl) ?_
        exact ⟨rfl, rfl⟩
      · skip
        refine g_aload_n hC (gDec_at DX7_draw_0 21 rfl) rfl ?_
        refine g_iload hC (gDec_at DX7_draw_0 22 rfl) rfl ?_
        refine g_callVd (w := wM q) hC 0 (c_X7_isThere_b q hI1 (i := i) (by omega)) vf_X7_isThere ml_X7_128 (by decide) (show 0 < 17 from by decide) rfl rfl rfl rfl rfl (Nat.le_of_ble_eq_true rfl) (gDec_at DX7_draw_0 23 rfl) ?_
        refine g_if_eqB hC (gDec_at DX7_draw_0 24 rfl) 65 (by decide) (fun h45 => ?_) (fun h45 => ?_)
        · skip
          refine g_lconst hC (gDec_at DX7_draw_0 34 rfl) (v := lN 0) (by decide) ?_
          refine g_lstore hC (gDec_at DX7_draw_0 35 rfl) (by decide) (L' := [(5, .long (lN 0)), (0, .ref (q.2.2 0)), (1, .int (nI x)), (2, .long (lN ((sBk B (sAb B (sPl B) (sPull B x) (sAll B)) i).2))), (4, .int (nI i))]) rfl ?_
          refine g_lload hC (gDec_at DX7_draw_0 36 rfl) rfl ?_
          refine g_lload_n hC (gDec_at DX7_draw_0 37 rfl) rfl ?_
          refine g_lc_leN hC (by omega) (by omega) (gDec_at DX7_draw_0 38 rfl) (gDec_at DX7_draw_0 39 rfl) 87 (by decide) (fun h71 => ?_) (fun h71 => ?_)
          · skip
            refine g_iincN hC (gDec_at DX7_draw_0 46 rfl) rfl (by decide) (L' := [(4, .int (nI (i + 1))), (5, .long (lN 0)), (0, .ref (q.2.2 0)), (1, .int (nI x)), (2, .long (lN ((sBk B (sAb B (sPl B) (sPull B x) (sAll B)) i).2)))]) rfl ?_
            refine g_goto hC (gDec_at DX7_draw_0 47 rfl) 32 (by decide) ?_
            refine g_sub [2, 3, 4, 0] (L' := [(0, .ref (q.2.2 0)), (1, .int (nI x)), (2, .long (lN ((sBk B (sAb B (sPl B) (sPull B x) (sAll B)) i).2))), (4, .int (nI (i + 1)))]) rfl ?_
            have e9 : sBk B (sAb B (sPl B) (sPull B x) (sAll B)) (i + 1) = sBk B (sAb B (sPl B) (sPull B x) (sAll B)) i := if_neg (fun z => h45 z.1)
            have h9 := ih (i + 1) (by omega) (by omega)
            rw [e9] at h9
            exact h9
          · skip
            exact absurd h71 (by omega)
        · skip
          have hpl2 := sPl_le hI.2.2 (by omega : i < 12) h45
          refine g_aload_n hC (gDec_at DX7_draw_0 25 rfl) rfl ?_
          refine g_iload hC (gDec_at DX7_draw_0 26 rfl) rfl ?_
          refine g_iload_n hC (gDec_at DX7_draw_0 27 rfl) rfl ?_
          refine g_callVd (w := wM q) hC 0 (c_X7_strainOf_b q hI1 (j := i) (by omega) (by omega) (x := x) hx) vf_X7_strainOf ml_X7_156 (by decide) (show 0 < 17 from by decide) rfl rfl rfl rfl rfl (Nat.le_of_ble_eq_true rfl) (gDec_at DX7_draw_0 28 rfl) ?_
          refine g_aload_n hC (gDec_at DX7_draw_0 29 rfl) rfl ?_
          refine g_iload hC (gDec_at DX7_draw_0 30 rfl) rfl ?_
          refine g_callVd (w := wM q) hC 0 (c_X7_pullLine_b q hI1 (j := i) (by omega) (by omega)) vf_X7_pullLine ml_X7_162 (by decide) (show 0 < 17 from by decide) rfl rfl rfl rfl rfl (Nat.le_of_ble_eq_true rfl) (gDec_at DX7_draw_0 31 rfl) ?_
          refine g_lsub hC (gDec_at DX7_draw_0 32 rfl) (v := (lN (sStr B (sPull B x) (sAll B) i) - lN (1000 * sPl B i))) rfl ?_
          refine g_goto hC (gDec_at DX7_draw_0 33 rfl) 66 (by decide) ?_
          refine g_lstore hC (gDec_at DX7_draw_0 35 rfl) (by decide) (L' := [(5, .long (lN (sStr B (sPull B x) (sAll B) i) - lN (1000 * sPl B i))), (0, .ref (q.2.2 0)), (1, .int (nI x)), (2, .long (lN ((sBk B (sAb B (sPl B) (sPull B x) (sAll B)) i).2))), (4, .int (nI i))]) rfl ?_
          refine g_lload hC (gDec_at DX7_draw_0 36 rfl) rfl ?_
          refine g_lload_n hC (gDec_at DX7_draw_0 37 rfl) rfl ?_
          refine g_lc_le hC (gDec_at DX7_draw_0 38 rfl) (gDec_at DX7_draw_0 39 rfl) 87 (by decide) (fun h71_1 => ?_) (fun h71_1 => ?_)
          · skip
            have h71_1n : sStr B (sPull B x) (sAll B) i - 1000 * sPl B i ≤ (sBk B (sAb B (sPl B) (sPull B x) (sAll B)) i).2 := (lsub_le (by omega) (by omega) (by omega)).mp h71_1
            refine g_iincN hC (gDec_at DX7_draw_0 46 rfl) rfl (by decide) (L' := [(4, .int (nI (i + 1))), (5, .long (lN (sStr B (sPull B x) (sAll B) i) - lN (1000 * sPl B i))), (0, .ref (q.2.2 0)), (1, .int (nI x)), (2, .long (lN ((sBk B (sAb B (sPl B) (sPull B x) (sAll B)) i).2)))]) rfl ?_
            refine g_goto hC (gDec_at DX7_draw_0 47 rfl) 32 (by decide) ?_
            refine g_sub [2, 3, 4, 0] (L' := [(0, .ref (q.2.2 0)), (1, .int (nI x)), (2, .long (lN ((sBk B (sAb B (sPl B) (sPull B x) (sAll B)) i).2))), (4, .int (nI (i + 1)))]) rfl ?_
            have e9 : sBk B (sAb B (sPl B) (sPull B x) (sAll B)) (i + 1) = sBk B (sAb B (sPl B) (sPull B x) (sAll B)) i := if_neg (fun z => by have z2 : (sBk B (sAb B (sPl B) (sPull B x) (sAll B)) i).2 < sStr B (sPull B x) (sAll B) i - 1000 * sPl B i := z.2; omega)
            have h9 := ih (i + 1) (by omega) (by omega)
            rw [e9] at h9
            exact h9
          · skip
            have h71_1n : (sBk B (sAb B (sPl B) (sPull B x) (sAll B)) i).2 < sStr B (sPull B x) (sAll B) i - 1000 * sPl B i := Nat.lt_of_not_le (fun z => h71_1 ((lsub_le (by omega) (by omega) (by omega)).mpr z))
            rw [lN_sub (show 1000 * sPl B i ≤ sStr B (sPull B x) (sAll B) i from by omega)]
            refine g_sub [0, 1, 2, 4] (L' := [(5, .long (lN (sStr B (sPull B x) (sAll B) i - 1000 * sPl B i))), (0, .ref (q.2.2 0)), (1, .int (nI x)), (4, .int (nI i))]) rfl ?_
            refine g_lload hC (gDec_at DX7_draw_0 40 rfl) rfl ?_
            refine g_lstore_n hC (gDec_at DX7_draw_0 41 rfl) (by decide) (L' := [(2, .long (lN (sStr B (sPull B x) (sAll B) i - 1000 * sPl B i))), (5, .long (lN (sStr B (sPull B x) (sAll B) i - 1000 * sPl B i))), (0, .ref (q.2.2 0)), (1, .int (nI x)), (4, .int (nI i))]) rfl ?_
            refine g_aload_n hC (gDec_at DX7_draw_0 42 rfl) rfl ?_
            refine g_iload hC (gDec_at DX7_draw_0 43 rfl) rfl ?_
            refine g_callSd (w := wM q) hC (c_X7_code q (i := i) (by omega)) sf_X7_code ml_X7_165 (by decide) rfl rfl (Nat.le_of_ble_eq_true rfl) (gDec_at DX7_draw_0 44 rfl) ?_
            refine g_putI (w := wM q) hC 0 fl_X7_35 fp_7_11 (show 0 < 17 from by decide) rfl (Nat.le_of_ble_eq_true rfl) rfl rfl (gDec_at DX7_draw_0 45 rfl) ?_
            refine g_M (gupd_2) ?_
            refine g_iincN hC (gDec_at DX7_draw_0 46 rfl) rfl (by decide) (L' := [(4, .int (nI (i + 1))), (2, .long (lN (sStr B (sPull B x) (sAll B) i - 1000 * sPl B i))), (5, .long (lN (sStr B (sPull B x) (sAll B) i - 1000 * sPl B i))), (0, .ref (q.2.2 0)), (1, .int (nI x))]) rfl ?_
            refine g_goto hC (gDec_at DX7_draw_0 47 rfl) 32 (by decide) ?_
            refine g_sub [3, 4, 1, 0] (L' := [(0, .ref (q.2.2 0)), (1, .int (nI x)), (2, .long (lN (sStr B (sPull B x) (sAll B) i - 1000 * sPl B i))), (4, .int (nI (i + 1)))]) rfl ?_
            have e9 : sBk B (sAb B (sPl B) (sPull B x) (sAll B)) (i + 1) = (i + 1, sStr B (sPull B x) (sAll B) i - 1000 * sPl B i) := if_pos ⟨h45, by show _ < sStr B (sPull B x) (sAll B) i - 1000 * sPl B i; omega⟩
            have h9 := ih (i + 1) (by omega) (by omega)
            rw [e9] at h9
            rw [show ((i + 1, sStr B (sPull B x) (sAll B) i - 1000 * sPl B i) : Nat × Nat).1 = i + 1 from rfl, show ((i + 1, sStr B (sPull B x) (sAll B) i - 1000 * sPl B i) : Nat × Nat).2 = sStr B (sPull B x) (sAll B) i - 1000 * sPl B i from rfl, nxV_s] at h9
            exact h9
  exact g_sub [2, 3, 1, 0] rfl (loop32 (12 + 1 - 0) 0 (by omega) (by omega))

def gnI (M : gM) (g : Nat → Nat) (i : Nat) : Prop := ∀ k, k < i → M.2 16 k = lN (g k)
theorem gupL_get (M : gM) (i k : Nat) (x : Int64) (a b : Nat) : (gupL M i k x).2 a b = if a = i ∧ b = k then x else M.2 a b := by
  show (if a = i then vp_updL (M.2 i) k x else M.2 a) b = _
  by_cases e : a = i
  · subst e
    rw [if_pos rfl]
    unfold vp_updL
    by_cases e2 : b = k
    · rw [if_pos e2, if_pos ⟨rfl, e2⟩]
    · rw [if_neg e2, if_neg (fun z => e2 z.2)]
  · rw [if_neg e, if_neg (fun z => e z.1)]
theorem gn_s {M : gM} {g : Nat → Nat} {i v : Nat} (h : gnI M g i) (hv : g i = v) : gnI (gupL M 16 i (lN v)) g (i + 1) := fun k hk => by
  rw [gupL_get]
  by_cases e : k = i
  · subst e; rw [if_pos ⟨rfl, rfl⟩, hv]
  · rw [if_neg (fun z => e z.2)]; exact h k (by omega)
def gnO (M M' : gM) : Prop := M'.1 = M.1
set_option maxRecDepth 100000 in
set_option maxHeartbeats 4000000 in
theorem c_X7_draw_sets (q : gQ3) {M : gM} {B : gB} (hI : mI M B) {x : Nat} (hx : x ≤ 40) (hb0 : B 9 1 = 0) (hk : (sBk B (sAb B (sPl B) (sPull B x) (sAll B)) 12).1 = 0) : gCt (wM q) yX7_draw cX7_draw 8 (some .int) 8 [.ref (q.2.2 0), .int (nI x)] M (fun v M' => v = some (.int (nI (sTkN B (sAb B (sPr B) (sPull B x) (sAll B)) 12))) ∧ mI M' (tkB B (sAb B (sPr B) (sPull B x) (sAll B)) 12) ∧ sameO (fun c => c = 5) M M') := by
  refine gMet RX7 (by decide +kernel) rfl (Nat.le_of_ble_eq_true rfl) (fun X hC => ?_)
  have hC : gC X (wM q) cX7_draw 8 RX7 (some .int) 8 := hC
  show gG X (wM q) _ 8 M 0 [(0, .ref (q.2.2 0)), (1, .int (nI x))] []
  have hm := bv_many hI.2.2
  have hpl := sPull_le B hx
  have hst := fun j => sStr_le B j (gives := sAll B) hpl
  have hx2 := hx
  have hal := sAll_le B
  have hbd := fun n => sBk_bd (B := B) (a := (sAb B (sPl B) (sPull B x) (sAll B))) (c := 480000000000000) (fun j => by have := hst j; unfold sAb; omega) n
  refine g_aload_n hC (gDec_at DX7_draw_0 0 rfl) rfl ?_
  refine g_iconst hC (gDec_at DX7_draw_0 1 rfl) (v := nI 0) (by decide) ?_
  refine g_putI (w := wM q) hC 0 fl_X7_67 fp_7_0 (show 0 < 17 from by decide) rfl (Nat.le_of_ble_eq_true rfl) rfl rfl (gDec_at DX7_draw_0 2 rfl) ?_
  refine g_M (mi_0 hI) ?_
  refine g_iload_n hC (gDec_at DX7_draw_0 3 rfl) rfl ?_
  refine g_callSd (w := wM q) hC (c_X7_noInches_in q (k := x) (by omega)) sf_X7_noInches ml_X7_147 (by decide) rfl rfl (Nat.le_of_ble_eq_true rfl) (gDec_at DX7_draw_0 4 rfl) ?_
  refine g_if_eqN hC (by decide) (gDec_at DX7_draw_0 5 rfl) 15 (by decide) (fun h => ?_) (fun h => absurd h (by decide))
  refine g_aload_n hC (gDec_at DX7_draw_0 8 rfl) rfl ?_
  refine g_get (w := wM q) hC 0 (v := .int (-9)) fl_X7_35 (show 0 < 17 from by decide) rfl (g_sv ((mi_brk hI).trans (by rw [hb0]; rfl))) (gDec_at DX7_draw_0 9 rfl) ?_
  refine g_bipush hC (gDec_at DX7_draw_0 10 rfl) (v := -9) (by decide) ?_
  refine g_icmp_eq hC (gDec_at DX7_draw_0 11 rfl) 27 (by decide) (fun h => ?_) (fun h => absurd rfl h)
  refine g_lconst hC (gDec_at DX7_draw_0 14 rfl) (v := lN 0) (by decide) ?_
  refine g_lstore_n hC (gDec_at DX7_draw_0 15 rfl) (by decide) (L' := [(2, .long (lN 0)), (0, .ref (q.2.2 0)), (1, .int (nI x))]) rfl ?_
  refine g_M (M' := (gupd M 0 11 (nxV (sBk B (sAb B (sPl B) (sPull B x) (sAll B)) 0).1))) (gupd_id ((mi_brk hI).trans (by rw [hb0]; rfl))).symm ?_
  refine g_iconst hC (gDec_at DX7_draw_0 16 rfl) (v := nI 0) (by decide) ?_
  refine g_istore hC (gDec_at DX7_draw_0 17 rfl) (by decide) (L' := [(4, .int (nI 0)), (2, .long (lN 0)), (0, .ref (q.2.2 0)), (1, .int (nI x))]) rfl ?_
  have loop32 : ∀ (fu i : Nat), i ≤ 12 → 12 - i < fu → gG X (wM q) (fun v M' => v = some (.int (nI (sTkN B (sAb B (sPr B) (sPull B x) (sAll B)) 12))) ∧ mI M' (tkB B (sAb B (sPr B) (sPull B x) (sAll B)) 12) ∧ sameO (fun c => c = 5) M M') 8 (gupd M 0 11 (nxV (sBk B (sAb B (sPl B) (sPull B x) (sAll B)) i).1)) 32 [(0, .ref (q.2.2 0)), (1, .int (nI x)), (2, .long (lN ((sBk B (sAb B (sPl B) (sPull B x) (sAll B)) i).2))), (4, .int (nI i))] [] := by
    intro fu; induction fu with
    | zero => intro i h1 h2; omega
    | succ fu ih =>
      intro i hi hfu 
      have hbk := sBk_at (B := B) (a := (sAb B (sPl B) (sPull B x) (sAll B))) i
      have hI1 := mI_br hI (r := (sBk B (sAb B (sPl B) (sPull B x) (sAll B)) i).1) (by omega)
      have hsi := hst i
      have hbi := hbd i
      refine g_iload hC (gDec_at DX7_draw_0 18 rfl) rfl ?_
      refine g_bipush hC (gDec_at DX7_draw_0 19 rfl) (v := nI 12) (by decide) ?_
      refine g_icmp_geN hC (by omega) (by omega) (gDec_at DX7_draw_0 20 rfl) 93 (by decide) (fun h36 => ?_) (fun h36 => ?_)
      · skip
        obtain rfl : i = 12 := by omega
        rw [hk]
        refine g_M (M' := M) (gupd_id ((mi_brk hI).trans (by rw [hb0]; rfl))) ?_
        refine g_sub [0, 1] rfl ?_
        refine g_aload_n hC (gDec_at DX7_draw_0 48 rfl) rfl ?_
        refine g_get (w := wM q) hC 0 (v := .int (-9)) fl_X7_35 (show 0 < 17 from by decide) rfl (g_sv ((mi_brk hI).trans (by rw [hb0]; rfl))) (gDec_at DX7_draw_0 49 rfl) ?_
        refine g_bipush hC (gDec_at DX7_draw_0 50 rfl) (v := -9) (by decide) ?_
        refine g_icmp_eq hC (gDec_at DX7_draw_0 51 rfl) 110 (by decide) (fun h => ?_) (fun h => absurd rfl h)
        refine g_iconst hC (gDec_at DX7_draw_0 57 rfl) (v := nI 0) (by decide) ?_
        refine g_istore hC (gDec_at DX7_draw_0 58 rfl) (by decide) (L' := [(4, .int (nI 0)), (0, .ref (q.2.2 0)), (1, .int (nI x))]) rfl ?_
        refine g_iconst hC (gDec_at DX7_draw_0 59 rfl) (v := nI 0) (by decide) ?_
        refine g_istore hC (gDec_at DX7_draw_0 60 rfl) (by decide) (L' := [(5, .int (nI 0)), (4, .int (nI 0)), (0, .ref (q.2.2 0)), (1, .int (nI x))]) rfl ?_
        have lp2 : ∀ (fu i : Nat) (M1 : gM), i ≤ 12 → 12 - i < fu → M1.1 = M.1 → gnI M1 (fun k => (if k % 6 < B 9 0 then ((sAb B (sPr B) (sPull B x) (sAll B)) k + 999) / 1000 else 0)) i → gG X (wM q) (fun v M' => v = some (.int (nI (sTkN B (sAb B (sPr B) (sPull B x) (sAll B)) 12))) ∧ mI M' (tkB B (sAb B (sPr B) (sPull B x) (sAll B)) 12) ∧ sameO (fun c => c = 5) M M') 8 M1 116 [(0, .ref (q.2.2 0)), (1, .int (nI x)), (4, .int (nI (sTkN B (sAb B (sPr B) (sPull B x) (sAll B)) i))), (5, .int (nI i))] [] := by
          intro fu; induction fu with
          | zero => intro i M1 h1 h2; omega
          | succ fu ih_lp2 =>
            intro i M1 hi hfu hm1 hg1
            have hI1 := mI_1 hI hm1
            have hsi := hst i
            refine g_iload hC (gDec_at DX7_draw_0 61 rfl) rfl ?_
            refine g_bipush hC (gDec_at DX7_draw_0 62 rfl) (v := nI 12) (by decide) ?_
            refine g_icmp_geN hC (by omega) (by omega) (gDec_at DX7_draw_0 63 rfl) 218 (by decide) (fun h120 => ?_) (fun h120 => ?_)
            · skip
              obtain rfl : i = 12 := by omega
              refine g_sub [0, 1, 2] rfl ?_
              refine g_iconst hC (gDec_at DX7_draw_1 53 rfl) (v := nI 0) (by decide) ?_
              refine g_istore hC (gDec_at DX7_draw_1 54 rfl) (by decide) (L' := [(5, .int (nI 0)), (0, .ref (q.2.2 0)), (1, .int (nI x)), (4, .int (nI (sTkN B (sAb B (sPr B) (sPull B x) (sAll B)) 12)))]) rfl ?_
              have lp3 : ∀ (fu i : Nat) (M3 : gM), i ≤ 12 → 12 - i < fu → mI M3 (tkB B (sAb B (sPr B) (sPull B x) (sAll B)) i) → gnI M3 (fun k => (if k % 6 < B 9 0 then ((sAb B (sPr B) (sPull B x) (sAll B)) k + 999) / 1000 else 0)) 12 → sameO (fun c => c = 5) M M3 → gG X (wM q) (fun v M' => v = some (.int (nI (sTkN B (sAb B (sPr B) (sPull B x) (sAll B)) 12))) ∧ mI M' (tkB B (sAb B (sPr B) (sPull B x) (sAll B)) 12) ∧ sameO (fun c => c = 5) M M') 8 M3 221 [(0, .ref (q.2.2 0)), (1, .int (nI x)), (4, .int (nI (sTkN B (sAb B (sPr B) (sPull B x) (sAll B)) 12))), (5, .int (nI i))] [] := by
                intro fu; induction fu with
                | zero => intro i M3 h1 h2; omega
                | succ fu ih_lp3 =>
                  intro i M3 hi hfu hI3 hg3 hs3
                  by_cases hti : i % 6 < B 9 0
                  · skip
                    refine g_iload hC (gDec_at DX7_draw_1 55 rfl) rfl ?_
                    refine g_bipush hC (gDec_at DX7_draw_1 56 rfl) (v := nI 12) (by decide) ?_
                    refine g_icmp_geN hC (by omega) (by omega) (gDec_at DX7_draw_1 57 rfl) 276 (by decide) (fun h225 => ?_) (fun h225 => ?_)
                    · skip
                      obtain rfl : i = 12 := by omega
                      refine g_iload hC (gDec_at DX7_draw_2 19 rfl) rfl ?_
                      refine g_iret hC (gDec_at DX7_draw_2 20 rfl) ?_
                      exact ⟨rfl, hI3, hs3⟩
                    · skip
                      have h3i := bv_f3 hI.2.2 (by omega : i < 12) hti
                      have hsi := hst i
                      have hab : (sAb B (sPr B) (sPull B x) (sAll B)) i ≤ 480000000000000 := by unfold sAb; omega
                      refine g_aload_n hC (gDec_at DX7_draw_1 58 rfl) rfl ?_
                      refine g_get (w := wM q) hC 0 (v := .ref (q.2.2 5)) fl_X7_26 (show 0 < 17 from by decide) rfl rfl (gDec_at DX7_draw_1 59 rfl) ?_
                      refine g_iload hC (gDec_at DX7_draw_1 60 rfl) rfl ?_
                      refine g_iald (w := wM q) hC 5 0 i (x := (nI (B 3 i))) (show 5 < 17 from by decide) rfl rfl (by omega) (by decide) ((mi_f3 hI3 (by omega) hti).trans (congrArg nI (tkB_i B (sAb B (sPr B) (sPull B x) (sAll B)) i))) (gDec_at DX7_draw_1 61 rfl) ?_
                      refine g_i2lN hC (by omega) (gDec_at DX7_draw_1 62 rfl) ?_
                      refine g_aload_n hC (gDec_at DX7_draw_1 63 rfl) rfl ?_
                      refine g_get (w := wM q) hC 0 (v := .ref (q.2.2 16)) fl_X7_63 (show 0 < 17 from by decide) rfl rfl (gDec_at DX7_draw_2 0 rfl) ?_
                      refine g_iload hC (gDec_at DX7_draw_2 1 rfl) rfl ?_
                      refine g_lald (w := wM q) hC 16 1 i (x := (lN (((sAb B (sPr B) (sPull B x) (sAll B)) i + 999) / 1000))) (show 16 < 17 from by decide) rfl rfl (by omega) (by decide) ((hg3 i (by omega)).trans (congrArg lN (if_pos hti))) (gDec_at DX7_draw_2 2 rfl) ?_
                      refine g_laddN hC (gDec_at DX7_draw_2 3 rfl) ?_
                      refine g_lstore hC (gDec_at DX7_draw_2 4 rfl) (by decide) (L' := [(6, .long (lN ((B 3 i) + (((sAb B (sPr B) (sPull B x) (sAll B)) i + 999) / 1000)))), (0, .ref (q.2.2 0)), (1, .int (nI x)), (4, .int (nI (sTkN B (sAb B (sPr B) (sPull B x) (sAll B)) 12))), (5, .int (nI i))]) rfl ?_
                      refine g_aload_n hC (gDec_at DX7_draw_2 5 rfl) rfl ?_
                      refine g_get (w := wM q) hC 0 (v := .ref (q.2.2 5)) fl_X7_26 (show 0 < 17 from by decide) rfl rfl (gDec_at DX7_draw_2 6 rfl) ?_
                      refine g_iload hC (gDec_at DX7_draw_2 7 rfl) rfl ?_
                      refine g_lload hC (gDec_at DX7_draw_2 8 rfl) rfl ?_
                      refine g_ldc2 hC cl_X7_106 (v' := lN 99) (by decide) (gDec_at DX7_draw_2 9 rfl) ?_
                      refine g_lc_leN hC (by omega) (by omega) (gDec_at DX7_draw_2 10 rfl) (gDec_at DX7_draw_2 11 rfl) 266 (by decide) (fun h257 => ?_) (fun h257 => ?_)
                      · skip
                        refine g_lload hC (gDec_at DX7_draw_2 14 rfl) rfl ?_
                        refine g_l2iN hC (gDec_at DX7_draw_2 15 rfl) ?_
                        refine g_iast (w := wM q) hC 5 0 i (show 5 < 17 from by decide) rfl rfl rfl (by omega) (by decide) (gDec_at DX7_draw_2 16 rfl) ?_
                        refine g_iincN hC (gDec_at DX7_draw_2 17 rfl) rfl (by decide) (L' := [(5, .int (nI (i + 1))), (6, .long (lN ((B 3 i) + (((sAb B (sPr B) (sPull B x) (sAll B)) i + 999) / 1000)))), (0, .ref (q.2.2 0)), (1, .int (nI x)), (4, .int (nI (sTkN B (sAb B (sPr B) (sPull B x) (sAll B)) 12)))]) rfl ?_
                        refine g_goto hC (gDec_at DX7_draw_2 18 rfl) 221 (by decide) ?_
                        refine g_sub [2, 3, 4, 0] (L' := [(0, .ref (q.2.2 0)), (1, .int (nI x)), (4, .int (nI (sTkN B (sAb B (sPr B) (sPull B x) (sAll B)) 12))), (5, .int (nI (i + 1)))]) rfl ?_
                        have e1 : upB (tkB B (sAb B (sPr B) (sPull B x) (sAll B)) i) 3 i (min 99 (B 3 i + ((sAb B (sPr B) (sPull B x) (sAll B)) i + 999) / 1000)) = (tkB B (sAb B (sPr B) (sPull B x) (sAll B)) (i + 1)) := tkB_s hI.2.2 (by omega) (fun _ => rfl) hti
                        have e2 : ((B 3 i) + (((sAb B (sPr B) (sPull B x) (sAll B)) i + 999) / 1000)) = min 99 (B 3 i + ((sAb B (sPr B) (sPull B x) (sAll B)) i + 999) / 1000) := by omega
                        have hV2 : bV (tkB B (sAb B (sPr B) (sPull B x) (sAll B)) (i + 1)) := tkB_V hI.2.2 _ _
                        have h9 := ih_lp3 (i + 1) (gupd M3 5 i (nI ((B 3 i) + (((sAb B (sPr B) (sPull B x) (sAll B)) i + 999) / 1000)))) (by omega) (by omega) (by rw [e2, ← e1]; exact mI_set (f := 3) hI3 (by omega) (by rw [e1]; exact hV2)) (fun k hk => hg3 k hk) (sameO_up hs3 rfl)
                        exact h9
                      · skip
                        refine g_bipush hC (gDec_at DX7_draw_2 12 rfl) (v := nI 99) (by decide) ?_
                        refine g_goto hC (gDec_at DX7_draw_2 13 rfl) 269 (by decide) ?_
                        refine g_iast (w := wM q) hC 5 0 i (show 5 < 17 from by decide) rfl rfl rfl (by omega) (by decide) (gDec_at DX7_draw_2 16 rfl) ?_
                        refine g_iincN hC (gDec_at DX7_draw_2 17 rfl) rfl (by decide) (L' := [(5, .int (nI (i + 1))), (6, .long (lN ((B 3 i) + (((sAb B (sPr B) (sPull B x) (sAll B)) i + 999) / 1000)))), (0, .ref (q.2.2 0)), (1, .int (nI x)), (4, .int (nI (sTkN B (sAb B (sPr B) (sPull B x) (sAll B)) 12)))]) rfl ?_
                        refine g_goto hC (gDec_at DX7_draw_2 18 rfl) 221 (by decide) ?_
                        refine g_sub [2, 3, 4, 0] (L' := [(0, .ref (q.2.2 0)), (1, .int (nI x)), (4, .int (nI (sTkN B (sAb B (sPr B) (sPull B x) (sAll B)) 12))), (5, .int (nI (i + 1)))]) rfl ?_
                        have e1 : upB (tkB B (sAb B (sPr B) (sPull B x) (sAll B)) i) 3 i (min 99 (B 3 i + ((sAb B (sPr B) (sPull B x) (sAll B)) i + 999) / 1000)) = (tkB B (sAb B (sPr B) (sPull B x) (sAll B)) (i + 1)) := tkB_s hI.2.2 (by omega) (fun _ => rfl) hti
                        have e2 : 99 = min 99 (B 3 i + ((sAb B (sPr B) (sPull B x) (sAll B)) i + 999) / 1000) := by omega
                        have hV2 : bV (tkB B (sAb B (sPr B) (sPull B x) (sAll B)) (i + 1)) := tkB_V hI.2.2 _ _
                        have h9 := ih_lp3 (i + 1) (gupd M3 5 i (nI 99)) (by omega) (by omega) (by rw [e2, ← e1]; exact mI_set (f := 3) hI3 (by omega) (by rw [e1]; exact hV2)) (fun k hk => hg3 k hk) (sameO_up hs3 rfl)
                        exact h9
                  · skip
                    refine g_iload hC (gDec_at DX7_draw_1 55 rfl) rfl ?_
                    refine g_bipush hC (gDec_at DX7_draw_1 56 rfl) (v := nI 12) (by decide) ?_
                    refine g_icmp_geN hC (by omega) (by omega) (gDec_at DX7_draw_1 57 rfl) 276 (by decide) (fun h225_1 => ?_) (fun h225_1 => ?_)
                    · skip
                      obtain rfl : i = 12 := by omega
                      refine g_iload hC (gDec_at DX7_draw_2 19 rfl) rfl ?_
                      refine g_iret hC (gDec_at DX7_draw_2 20 rfl) ?_
                      exact ⟨rfl, hI3, hs3⟩
                    · skip
                      refine g_aload_n hC (gDec_at DX7_draw_1 58 rfl) rfl ?_
                      refine g_get (w := wM q) hC 0 (v := .ref (q.2.2 5)) fl_X7_26 (show 0 < 17 from by decide) rfl rfl (gDec_at DX7_draw_1 59 rfl) ?_
                      refine g_iload hC (gDec_at DX7_draw_1 60 rfl) rfl ?_
                      refine g_iald (w := wM q) hC 5 0 i (x := (M3.1 5 i)) (show 5 < 17 from by decide) rfl rfl (by omega) (by decide) rfl (gDec_at DX7_draw_1 61 rfl) ?_
                      refine g_i2l hC (gDec_at DX7_draw_1 62 rfl) rfl ?_
                      refine g_aload_n hC (gDec_at DX7_draw_1 63 rfl) rfl ?_
                      refine g_get (w := wM q) hC 0 (v := .ref (q.2.2 16)) fl_X7_63 (show 0 < 17 from by decide) rfl rfl (gDec_at DX7_draw_2 0 rfl) ?_
                      refine g_iload hC (gDec_at DX7_draw_2 1 rfl) rfl ?_
                      refine g_lald (w := wM q) hC 16 1 i (x := (lN 0)) (show 16 < 17 from by decide) rfl rfl (by omega) (by decide) ((hg3 i (by omega)).trans (congrArg lN (if_neg hti))) (gDec_at DX7_draw_2 2 rfl) ?_
                      refine g_ladd hC (gDec_at DX7_draw_2 3 rfl) rfl ?_
                      refine g_lstore hC (gDec_at DX7_draw_2 4 rfl) (by decide) (L' := [(6, .long ((Int32.toInt64 (M3.1 5 i)) + (lN 0))), (0, .ref (q.2.2 0)), (1, .int (nI x)), (4, .int (nI (sTkN B (sAb B (sPr B) (sPull B x) (sAll B)) 12))), (5, .int (nI i))]) rfl ?_
                      refine g_aload_n hC (gDec_at DX7_draw_2 5 rfl) rfl ?_
                      refine g_get (w := wM q) hC 0 (v := .ref (q.2.2 5)) fl_X7_26 (show 0 < 17 from by decide) rfl rfl (gDec_at DX7_draw_2 6 rfl) ?_
                      refine g_iload hC (gDec_at DX7_draw_2 7 rfl) rfl ?_
                      refine g_lload hC (gDec_at DX7_draw_2 8 rfl) rfl ?_
                      refine g_ldc2 hC cl_X7_106 (v' := lN 99) (by decide) (gDec_at DX7_draw_2 9 rfl) ?_
                      refine g_lc_le hC (gDec_at DX7_draw_2 10 rfl) (gDec_at DX7_draw_2 11 rfl) 266 (by decide) (fun h257_1 => ?_) (fun h257_1 => ?_)
                      · skip
                        refine g_lload hC (gDec_at DX7_draw_2 14 rfl) rfl ?_
                        refine g_l2i hC (gDec_at DX7_draw_2 15 rfl) rfl ?_
                        refine g_iast (w := wM q) hC 5 0 i (show 5 < 17 from by decide) rfl rfl rfl (by omega) (by decide) (gDec_at DX7_draw_2 16 rfl) ?_
                        refine g_iincN hC (gDec_at DX7_draw_2 17 rfl) rfl (by decide) (L' := [(5, .int (nI (i + 1))), (6, .long ((Int32.toInt64 (M3.1 5 i)) + (lN 0))), (0, .ref (q.2.2 0)), (1, .int (nI x)), (4, .int (nI (sTkN B (sAb B (sPr B) (sPull B x) (sAll B)) 12)))]) rfl ?_
                        refine g_goto hC (gDec_at DX7_draw_2 18 rfl) 221 (by decide) ?_
                        refine g_sub [2, 3, 4, 0] (L' := [(0, .ref (q.2.2 0)), (1, .int (nI x)), (4, .int (nI (sTkN B (sAb B (sPr B) (sPull B x) (sAll B)) 12))), (5, .int (nI (i + 1)))]) rfl ?_
                        have h9 := ih_lp3 (i + 1) (gupd M3 5 i (Int64.toInt32 ((Int32.toInt64 (M3.1 5 i)) + (lN 0)))) (by omega) (by omega) (by rw [tkB_k hI.2.2 (by omega) (fun z => absurd z hti)]; exact mI_out (f := 3) hI3 (by omega) hti) (fun k hk => hg3 k hk) (sameO_up hs3 rfl)
                        exact h9
                      · skip
                        refine g_bipush hC (gDec_at DX7_draw_2 12 rfl) (v := nI 99) (by decide) ?_
                        refine g_goto hC (gDec_at DX7_draw_2 13 rfl) 269 (by decide) ?_
                        refine g_iast (w := wM q) hC 5 0 i (show 5 < 17 from by decide) rfl rfl rfl (by omega) (by decide) (gDec_at DX7_draw_2 16 rfl) ?_
                        refine g_iincN hC (gDec_at DX7_draw_2 17 rfl) rfl (by decide) (L' := [(5, .int (nI (i + 1))), (6, .long ((Int32.toInt64 (M3.1 5 i)) + (lN 0))), (0, .ref (q.2.2 0)), (1, .int (nI x)), (4, .int (nI (sTkN B (sAb B (sPr B) (sPull B x) (sAll B)) 12)))]) rfl ?_
                        refine g_goto hC (gDec_at DX7_draw_2 18 rfl) 221 (by decide) ?_
                        refine g_sub [2, 3, 4, 0] (L' := [(0, .ref (q.2.2 0)), (1, .int (nI x)), (4, .int (nI (sTkN B (sAb B (sPr B) (sPull B x) (sAll B)) 12))), (5, .int (nI (i + 1)))]) rfl ?_
                        have h9 := ih_lp3 (i + 1) (gupd M3 5 i (nI 99)) (by omega) (by omega) (by rw [tkB_k hI.2.2 (by omega) (fun z => absurd z hti)]; exact mI_out (f := 3) hI3 (by omega) hti) (fun k hk => hg3 k hk) (sameO_up hs3 rfl)
                        exact h9
              exact g_sub [1, 2, 3, 0] rfl (lp3 (12 + 1 - 0) 0 M1 (by omega) (by omega) (by rw [tkB_0]; exact mI_1 hI hm1) hg1 (fun c _ => congrFun hm1 c))
            · skip
              refine g_aload_n hC (gDec_at DX7_draw_1 0 rfl) rfl ?_
              refine g_iload hC (gDec_at DX7_draw_1 1 rfl) rfl ?_
              refine g_callVd (w := wM q) hC 0 (c_X7_isThere q hI1 (i := i) (by omega)) vf_X7_isThere ml_X7_128 (by decide) (show 0 < 17 from by decide) rfl rfl rfl rfl rfl (Nat.le_of_ble_eq_true rfl) (gDec_at DX7_draw_1 2 rfl) ?_
              refine g_if_eqB hC (gDec_at DX7_draw_1 3 rfl) 164 (by decide) (fun h129 => ?_) (fun h129 => ?_)
              · skip
                refine g_lconst hC (gDec_at DX7_draw_1 24 rfl) (v := lN 0) (by decide) ?_
                refine g_lstore hC (gDec_at DX7_draw_1 25 rfl) (by decide) (L' := [(6, .long (lN 0)), (0, .ref (q.2.2 0)), (1, .int (nI x)), (4, .int (nI (sTkN B (sAb B (sPr B) (sPull B x) (sAll B)) i))), (5, .int (nI i))]) rfl ?_
                refine g_aload_n hC (gDec_at DX7_draw_1 26 rfl) rfl ?_
                refine g_get (w := wM q) hC 0 (v := .ref (q.2.2 16)) fl_X7_63 (show 0 < 17 from by decide) rfl rfl (gDec_at DX7_draw_1 27 rfl) ?_
                refine g_iload hC (gDec_at DX7_draw_1 28 rfl) rfl ?_
                refine g_lload hC (gDec_at DX7_draw_1 29 rfl) rfl ?_
                refine g_lconst hC (gDec_at DX7_draw_1 30 rfl) (v := lN 0) (by decide) ?_
                refine g_lc_leN hC (by omega) (by omega) (gDec_at DX7_draw_1 31 rfl) (gDec_at DX7_draw_1 32 rfl) 193 (by decide) (fun h176 => ?_) (fun h176 => ?_)
                · skip
                  refine g_lconst hC (gDec_at DX7_draw_1 39 rfl) (v := lN 0) (by decide) ?_
                  refine g_last (w := wM q) hC 16 1 i (show 16 < 17 from by decide) rfl rfl rfl (by omega) (by decide) (gDec_at DX7_draw_1 40 rfl) ?_
                  refine g_iload hC (gDec_at DX7_draw_1 41 rfl) rfl ?_
                  refine g_lload hC (gDec_at DX7_draw_1 42 rfl) rfl ?_
                  refine g_lconst hC (gDec_at DX7_draw_1 43 rfl) (v := lN 0) (by decide) ?_
                  refine g_lc_leN hC (by omega) (by omega) (gDec_at DX7_draw_1 44 rfl) (gDec_at DX7_draw_1 45 rfl) 208 (by decide) (fun h200 => ?_) (fun h200 => ?_)
                  · skip
                    refine g_iconst hC (gDec_at DX7_draw_1 48 rfl) (v := nI 0) (by decide) ?_
                    refine g_iaddN hC (gDec_at DX7_draw_1 49 rfl) ?_
                    refine g_istore hC (gDec_at DX7_draw_1 50 rfl) (by decide) (L' := [(4, .int (nI ((sTkN B (sAb B (sPr B) (sPull B x) (sAll B)) i) + 0))), (6, .long (lN 0)), (0, .ref (q.2.2 0)), (1, .int (nI x)), (5, .int (nI i))]) rfl ?_
                    refine g_iincN hC (gDec_at DX7_draw_1 51 rfl) rfl (by decide) (L' := [(5, .int (nI (i + 1))), (4, .int (nI ((sTkN B (sAb B (sPr B) (sPull B x) (sAll B)) i) + 0))), (6, .long (lN 0)), (0, .ref (q.2.2 0)), (1, .int (nI x))]) rfl ?_
                    refine g_goto hC (gDec_at DX7_draw_1 52 rfl) 116 (by decide) ?_
                    refine g_sub [3, 4, 1, 0] (L' := [(0, .ref (q.2.2 0)), (1, .int (nI x)), (4, .int (nI ((sTkN B (sAb B (sPr B) (sPull B x) (sAll B)) i) + 0))), (5, .int (nI (i + 1)))]) rfl ?_
                    have h9 := ih_lp2 (i + 1) (gupL M1 16 i (lN 0)) (by omega) (by omega) (hm1) (gn_s hg1 (if_neg h129))
                    rw [show sTkN B (sAb B (sPr B) (sPull B x) (sAll B)) (i + 1) = _ from gsm_s0 (f := (fun j => if j % 6 < B 9 0 ∧ 0 < (sAb B (sPr B) (sPull B x) (sAll B)) j then 1 else 0)) (if_neg (fun z => h129 z.1))] at h9
                    exact h9
                  · skip
                    exact absurd h200 (by omega)
                · skip
                  exact absurd h176 (by omega)
              · skip
                have h2i := bv_f2 hI.2.2 (by omega : i < 12) h129
                have hpr := sPr_le hI.2.2 (by omega : i < 12) h129
                have hpr8 := bv_press hI.2.2 h2i
                refine g_aload_n hC (gDec_at DX7_draw_1 4 rfl) rfl ?_
                refine g_iload hC (gDec_at DX7_draw_1 5 rfl) rfl ?_
                refine g_iload_n hC (gDec_at DX7_draw_1 6 rfl) rfl ?_
                refine g_callVd (w := wM q) hC 0 (c_X7_strainOf q hI1 (j := i) (by omega) (by omega) (x := x) (by omega)) vf_X7_strainOf ml_X7_156 (by decide) (show 0 < 17 from by decide) rfl rfl rfl rfl rfl (Nat.le_of_ble_eq_true rfl) (gDec_at DX7_draw_1 7 rfl) ?_
                refine g_ldc2 hC cl_X7_160 (v' := lN 1000) (by decide) (gDec_at DX7_draw_1 8 rfl) ?_
                refine g_aload_n hC (gDec_at DX7_draw_1 9 rfl) rfl ?_
                refine g_get (w := wM q) hC 0 (v := .ref (q.2.2 11)) fl_X7_47 (show 0 < 17 from by decide) rfl rfl (gDec_at DX7_draw_1 10 rfl) ?_
                refine g_iconst hC (gDec_at DX7_draw_1 11 rfl) (v := nI 3) (by decide) ?_
                refine g_aload_n hC (gDec_at DX7_draw_1 12 rfl) rfl ?_
                refine g_get (w := wM q) hC 0 (v := .ref (q.2.2 4)) fl_X7_23 (show 0 < 17 from by decide) rfl rfl (gDec_at DX7_draw_1 13 rfl) ?_
                refine g_iload hC (gDec_at DX7_draw_1 14 rfl) rfl ?_
                refine g_iald (w := wM q) hC 4 0 i (x := (nI (B 2 i))) (show 4 < 17 from by decide) rfl rfl (by omega) (by decide) (mi_f2 hI1 (by omega) (by omega)) (gDec_at DX7_draw_1 15 rfl) ?_
                refine g_imulN hC (gDec_at DX7_draw_1 16 rfl) ?_
                refine g_iconst hC (gDec_at DX7_draw_1 17 rfl) (v := nI 2) (by decide) ?_
                refine g_iaddN hC (gDec_at DX7_draw_1 18 rfl) ?_
                refine g_iald (w := wM q) hC 11 0 ((3 * (B 2 i)) + 2) (x := (nI (B 8 (B 2 i)))) (show 11 < 17 from by decide) rfl rfl (by omega) (by decide) (mi_press hI1 (k := (B 2 i)) h2i) (gDec_at DX7_draw_1 19 rfl) ?_
                refine g_i2lN hC (by omega) (gDec_at DX7_draw_1 20 rfl) ?_
                refine g_lmulN hC (gDec_at DX7_draw_1 21 rfl) ?_
                refine g_lsub hC (gDec_at DX7_draw_1 22 rfl) (v := (lN (sStr B (sPull B x) (sAll B) i) - lN (1000 * sPr B i))) rfl ?_
                refine g_goto hC (gDec_at DX7_draw_1 23 rfl) 165 (by decide) ?_
                refine g_lstore hC (gDec_at DX7_draw_1 25 rfl) (by decide) (L' := [(6, .long (lN (sStr B (sPull B x) (sAll B) i) - lN (1000 * sPr B i))), (0, .ref (q.2.2 0)), (1, .int (nI x)), (4, .int (nI (sTkN B (sAb B (sPr B) (sPull B x) (sAll B)) i))), (5, .int (nI i))]) rfl ?_
                refine g_aload_n hC (gDec_at DX7_draw_1 26 rfl) rfl ?_
                refine g_get (w := wM q) hC 0 (v := .ref (q.2.2 16)) fl_X7_63 (show 0 < 17 from by decide) rfl rfl (gDec_at DX7_draw_1 27 rfl) ?_
                refine g_iload hC (gDec_at DX7_draw_1 28 rfl) rfl ?_
                refine g_lload hC (gDec_at DX7_draw_1 29 rfl) rfl ?_
                refine g_lconst hC (gDec_at DX7_draw_1 30 rfl) (v := lN 0) (by decide) ?_
                refine g_lc_le hC (gDec_at DX7_draw_1 31 rfl) (gDec_at DX7_draw_1 32 rfl) 193 (by decide) (fun h176_1 => ?_) (fun h176_1 => ?_)
                · skip
                  have h176_1n : sStr B (sPull B x) (sAll B) i - 1000 * sPr B i ≤ 0 := (lsub_le (by omega) (by omega) (m := 0) (by omega)).mp h176_1
                  refine g_lconst hC (gDec_at DX7_draw_1 39 rfl) (v := lN 0) (by decide) ?_
                  refine g_last (w := wM q) hC 16 1 i (show 16 < 17 from by decide) rfl rfl rfl (by omega) (by decide) (gDec_at DX7_draw_1 40 rfl) ?_
                  refine g_iload hC (gDec_at DX7_draw_1 41 rfl) rfl ?_
                  refine g_lload hC (gDec_at DX7_draw_1 42 rfl) rfl ?_
                  refine g_lconst hC (gDec_at DX7_draw_1 43 rfl) (v := lN 0) (by decide) ?_
                  refine g_lc_le hC (gDec_at DX7_draw_1 44 rfl) (gDec_at DX7_draw_1 45 rfl) 208 (by decide) (fun h200_1 => ?_) (fun h200_1 => ?_)
                  · skip
                    refine g_iconst hC (gDec_at DX7_draw_1 48 rfl) (v := nI 0) (by decide) ?_
                    refine g_iaddN hC (gDec_at DX7_draw_1 49 rfl) ?_
                    refine g_istore hC (gDec_at DX7_draw_1 50 rfl) (by decide) (L' := [(4, .int (nI ((sTkN B (sAb B (sPr B) (sPull B x) (sAll B)) i) + 0))), (6, .long (lN (sStr B (sPull B x) (sAll B) i) - lN (1000 * sPr B i))), (0, .ref (q.2.2 0)), (1, .int (nI x)), (5, .int (nI i))]) rfl ?_
                    refine g_iincN hC (gDec_at DX7_draw_1 51 rfl) rfl (by decide) (L' := [(5, .int (nI (i + 1))), (4, .int (nI ((sTkN B (sAb B (sPr B) (sPull B x) (sAll B)) i) + 0))), (6, .long (lN (sStr B (sPull B x) (sAll B) i) - lN (1000 * sPr B i))), (0, .ref (q.2.2 0)), (1, .int (nI x))]) rfl ?_
                    refine g_goto hC (gDec_at DX7_draw_1 52 rfl) 116 (by decide) ?_
                    refine g_sub [3, 4, 1, 0] (L' := [(0, .ref (q.2.2 0)), (1, .int (nI x)), (4, .int (nI ((sTkN B (sAb B (sPr B) (sPull B x) (sAll B)) i) + 0))), (5, .int (nI (i + 1)))]) rfl ?_
                    have h9 := ih_lp2 (i + 1) (gupL M1 16 i (lN 0)) (by omega) (by omega) (hm1) (gn_s hg1 (by show (if i % 6 < B 9 0 then ((sAb B (sPr B) (sPull B x) (sAll B)) i + 999) / 1000 else 0) = 0; rw [if_pos h129, show (sAb B (sPr B) (sPull B x) (sAll B)) i = 0 from Nat.le_zero.mp h176_1n]))
                    rw [show sTkN B (sAb B (sPr B) (sPull B x) (sAll B)) (i + 1) = _ from gsm_s0 (f := (fun j => if j % 6 < B 9 0 ∧ 0 < (sAb B (sPr B) (sPull B x) (sAll B)) j then 1 else 0)) (if_neg (fun z => absurd z.2 (Nat.not_lt.mpr h176_1n)))] at h9
                    exact h9
                  · skip
                    exact absurd ((lsub_le (by omega) (by omega) (m := 0) (by omega)).mpr h176_1n) h200_1
                · skip
                  have h176_1n : 0 < sStr B (sPull B x) (sAll B) i - 1000 * sPr B i := Nat.lt_of_not_le (fun z => h176_1 ((lsub_le (by omega) (by omega) (m := 0) (by omega)).mpr z))
                  rw [lN_sub (show 1000 * sPr B i ≤ sStr B (sPull B x) (sAll B) i from by omega)]
                  refine g_lload hC (gDec_at DX7_draw_1 33 rfl) rfl ?_
                  refine g_ldc2 hC cl_X7_168 (v' := lN 999) (by decide) (gDec_at DX7_draw_1 34 rfl) ?_
                  refine g_laddN hC (gDec_at DX7_draw_1 35 rfl) ?_
                  refine g_ldc2 hC cl_X7_160 (v' := lN 1000) (by decide) (gDec_at DX7_draw_1 36 rfl) ?_
                  refine g_ldivN hC (by omega) (by omega) (by omega) (gDec_at DX7_draw_1 37 rfl) ?_
                  refine g_goto hC (gDec_at DX7_draw_1 38 rfl) 194 (by decide) ?_
                  refine g_last (w := wM q) hC 16 1 i (show 16 < 17 from by decide) rfl rfl rfl (by omega) (by decide) (gDec_at DX7_draw_1 40 rfl) ?_
                  refine g_iload hC (gDec_at DX7_draw_1 41 rfl) rfl ?_
                  refine g_lload hC (gDec_at DX7_draw_1 42 rfl) rfl ?_
                  refine g_lconst hC (gDec_at DX7_draw_1 43 rfl) (v := lN 0) (by decide) ?_
                  refine g_lc_leN hC (by omega) (by omega) (gDec_at DX7_draw_1 44 rfl) (gDec_at DX7_draw_1 45 rfl) 208 (by decide) (fun h200_2 => ?_) (fun h200_2 => ?_)
                  · skip
                    exact absurd h200_2 (by omega)
                  · skip
                    refine g_iconst hC (gDec_at DX7_draw_1 46 rfl) (v := nI 1) (by decide) ?_
                    refine g_goto hC (gDec_at DX7_draw_1 47 rfl) 209 (by decide) ?_
                    refine g_iaddN hC (gDec_at DX7_draw_1 49 rfl) ?_
                    refine g_istore hC (gDec_at DX7_draw_1 50 rfl) (by decide) (L' := [(4, .int (nI ((sTkN B (sAb B (sPr B) (sPull B x) (sAll B)) i) + 1))), (6, .long (lN (sStr B (sPull B x) (sAll B) i - 1000 * sPr B i))), (0, .ref (q.2.2 0)), (1, .int (nI x)), (5, .int (nI i))]) rfl ?_
                    refine g_iincN hC (gDec_at DX7_draw_1 51 rfl) rfl (by decide) (L' := [(5, .int (nI (i + 1))), (4, .int (nI ((sTkN B (sAb B (sPr B) (sPull B x) (sAll B)) i) + 1))), (6, .long (lN (sStr B (sPull B x) (sAll B) i - 1000 * sPr B i))), (0, .ref (q.2.2 0)), (1, .int (nI x))]) rfl ?_
                    refine g_goto hC (gDec_at DX7_draw_1 52 rfl) 116 (by decide) ?_
                    refine g_sub [3, 4, 1, 0] (L' := [(0, .ref (q.2.2 0)), (1, .int (nI x)), (4, .int (nI ((sTkN B (sAb B (sPr B) (sPull B x) (sAll B)) i) + 1))), (5, .int (nI (i + 1)))]) rfl ?_
                    have h9 := ih_lp2 (i + 1) (gupL M1 16 i (lN (((sStr B (sPull B x) (sAll B) i - 1000 * sPr B i) + 999) / 1000))) (by omega) (by omega) (hm1) (gn_s hg1 (if_pos h129))
                    rw [show sTkN B (sAb B (sPr B) (sPull B x) (sAll B)) (i + 1) = _ from gsm_s (f := (fun j => if j % 6 < B 9 0 ∧ 0 < (sAb B (sPr B) (sPull B x) (sAll B)) j then 1 else 0)) (if_pos ⟨h129, h176_1n⟩)] at h9
                    exact h9
        exact g_sub [2, 3, 1, 0] rfl (lp2 (12 + 1 - 0) 0 M (by omega) (by omega) rfl (fun k hk => absurd hk (Nat.not_lt_zero k)))
      · skip
        refine g_aload_n hC (gDec_at DX7_draw_0 21 rfl) rfl ?_
        refine g_iload hC (gDec_at DX7_draw_0 22 rfl) rfl ?_
        refine g_callVd (w := wM q) hC 0 (c_X7_isThere_b q hI1 (i := i) (by omega)) vf_X7_isThere ml_X7_128 (by decide) (show 0 < 17 from by decide) rfl rfl rfl rfl rfl (Nat.le_of_ble_eq_true rfl) (gDec_at DX7_draw_0 23 rfl) ?_
        refine g_if_eqB hC (gDec_at DX7_draw_0 24 rfl) 65 (by decide) (fun h45 => ?_) (fun h45 => ?_)
        · skip
          refine g_lconst hC (gDec_at DX7_draw_0 34 rfl) (v := lN 0) (by decide) ?_
          refine g_lstore hC (gDec_at DX7_draw_0 35 rfl) (by decide) (L' := [(5, .long (lN 0)), (0, .ref (q.2.2 0)), (1, .int (nI x)), (2, .long (lN ((sBk B (sAb B (sPl B) (sPull B x) (sAll B)) i).2))), (4, .int (nI i))]) rfl ?_
          refine g_lload hC (gDec_at DX7_draw_0 36 rfl) rfl ?_
          refine g_lload_n hC (gDec_at DX7_draw_0 37 rfl) rfl ?_
          refine g_lc_leN hC (by omega) (by omega) (gDec_at DX7_draw_0 38 rfl) (gDec_at DX7_draw_0 39 rfl) 87 (by decide) (fun h71 => ?_) (fun h71 => ?_)
          · skip
            refine g_iincN hC (gDec_at DX7_draw_0 46 rfl) rfl (by decide) (L' := [(4, .int (nI (i + 1))), (5, .long (lN 0)), (0, .ref (q.2.2 0)), (1, .int (nI x)), (2, .long (lN ((sBk B (sAb B (sPl B) (sPull B x) (sAll B)) i).2)))]) rfl ?_
            refine g_goto hC (gDec_at DX7_draw_0 47 rfl) 32 (by decide) ?_
            refine g_sub [2, 3, 4, 0] (L' := [(0, .ref (q.2.2 0)), (1, .int (nI x)), (2, .long (lN ((sBk B (sAb B (sPl B) (sPull B x) (sAll B)) i).2))), (4, .int (nI (i + 1)))]) rfl ?_
            have e9 : sBk B (sAb B (sPl B) (sPull B x) (sAll B)) (i + 1) = sBk B (sAb B (sPl B) (sPull B x) (sAll B)) i := if_neg (fun z => h45 z.1)
            have h9 := ih (i + 1) (by omega) (by omega)
            rw [e9] at h9
            exact h9
          · skip
            exact absurd h71 (by omega)
        · skip
          have hpl2 := sPl_le hI.2.2 (by omega : i < 12) h45
          refine g_aload_n hC (gDec_at DX7_draw_0 25 rfl) rfl ?_
          refine g_iload hC (gDec_at DX7_draw_0 26 rfl) rfl ?_
          refine g_iload_n hC (gDec_at DX7_draw_0 27 rfl) rfl ?_
          refine g_callVd (w := wM q) hC 0 (c_X7_strainOf_b q hI1 (j := i) (by omega) (by omega) (x := x) hx) vf_X7_strainOf ml_X7_156 (by decide) (show 0 < 17 from by decide) rfl rfl rfl rfl rfl (Nat.le_of_ble_eq_true rfl) (gDec_at DX7_draw_0 28 rfl) ?_
          refine g_aload_n hC (gDec_at DX7_draw_0 29 rfl) rfl ?_
          refine g_iload hC (gDec_at DX7_draw_0 30 rfl) rfl ?_
          refine g_callVd (w := wM q) hC 0 (c_X7_pullLine_b q hI1 (j := i) (by omega) (by omega)) vf_X7_pullLine ml_X7_162 (by decide) (show 0 < 17 from by decide) rfl rfl rfl rfl rfl (Nat.le_of_ble_eq_true rfl) (gDec_at DX7_draw_0 31 rfl) ?_
          refine g_lsub hC (gDec_at DX7_draw_0 32 rfl) (v := (lN (sStr B (sPull B x) (sAll B) i) - lN (1000 * sPl B i))) rfl ?_
          refine g_goto hC (gDec_at DX7_draw_0 33 rfl) 66 (by decide) ?_
          refine g_lstore hC (gDec_at DX7_draw_0 35 rfl) (by decide) (L' := [(5, .long (lN (sStr B (sPull B x) (sAll B) i) - lN (1000 * sPl B i))), (0, .ref (q.2.2 0)), (1, .int (nI x)), (2, .long (lN ((sBk B (sAb B (sPl B) (sPull B x) (sAll B)) i).2))), (4, .int (nI i))]) rfl ?_
          refine g_lload hC (gDec_at DX7_draw_0 36 rfl) rfl ?_
          refine g_lload_n hC (gDec_at DX7_draw_0 37 rfl) rfl ?_
          refine g_lc_le hC (gDec_at DX7_draw_0 38 rfl) (gDec_at DX7_draw_0 39 rfl) 87 (by decide) (fun h71_1 => ?_) (fun h71_1 => ?_)
          · skip
            have h71_1n : sStr B (sPull B x) (sAll B) i - 1000 * sPl B i ≤ (sBk B (sAb B (sPl B) (sPull B x) (sAll B)) i).2 := (lsub_le (by omega) (by omega) (by omega)).mp h71_1
            refine g_iincN hC (gDec_at DX7_draw_0 46 rfl) rfl (by decide) (L' := [(4, .int (nI (i + 1))), (5, .long (lN (sStr B (sPull B x) (sAll B) i) - lN (1000 * sPl B i))), (0, .ref (q.2.2 0)), (1, .int (nI x)), (2, .long (lN ((sBk B (sAb B (sPl B) (sPull B x) (sAll B)) i).2)))]) rfl ?_
            refine g_goto hC (gDec_at DX7_draw_0 47 rfl) 32 (by decide) ?_
            refine g_sub [2, 3, 4, 0] (L' := [(0, .ref (q.2.2 0)), (1, .int (nI x)), (2, .long (lN ((sBk B (sAb B (sPl B) (sPull B x) (sAll B)) i).2))), (4, .int (nI (i + 1)))]) rfl ?_
            have e9 : sBk B (sAb B (sPl B) (sPull B x) (sAll B)) (i + 1) = sBk B (sAb B (sPl B) (sPull B x) (sAll B)) i := if_neg (fun z => by have z2 : (sBk B (sAb B (sPl B) (sPull B x) (sAll B)) i).2 < sStr B (sPull B x) (sAll B) i - 1000 * sPl B i := z.2; omega)
            have h9 := ih (i + 1) (by omega) (by omega)
            rw [e9] at h9
            exact h9
          · skip
            have h71_1n : (sBk B (sAb B (sPl B) (sPull B x) (sAll B)) i).2 < sStr B (sPull B x) (sAll B) i - 1000 * sPl B i := Nat.lt_of_not_le (fun z => h71_1 ((lsub_le (by omega) (by omega) (by omega)).mpr z))
            rw [lN_sub (show 1000 * sPl B i ≤ sStr B (sPull B x) (sAll B) i from by omega)]
            refine g_sub [0, 1, 2, 4] (L' := [(5, .long (lN (sStr B (sPull B x) (sAll B) i - 1000 * sPl B i))), (0, .ref (q.2.2 0)), (1, .int (nI x)), (4, .int (nI i))]) rfl ?_
            refine g_lload hC (gDec_at DX7_draw_0 40 rfl) rfl ?_
            refine g_lstore_n hC (gDec_at DX7_draw_0 41 rfl) (by decide) (L' := [(2, .long (lN (sStr B (sPull B x) (sAll B) i - 1000 * sPl B i))), (5, .long (lN (sStr B (sPull B x) (sAll B) i - 1000 * sPl B i))), (0, .ref (q.2.2 0)), (1, .int (nI x)), (4, .int (nI i))]) rfl ?_
            refine g_aload_n hC (gDec_at DX7_draw_0 42 rfl) rfl ?_
            refine g_iload hC (gDec_at DX7_draw_0 43 rfl) rfl ?_
            refine g_callSd (w := wM q) hC (c_X7_code q (i := i) (by omega)) sf_X7_code ml_X7_165 (by decide) rfl rfl (Nat.le_of_ble_eq_true rfl) (gDec_at DX7_draw_0 44 rfl) ?_
            refine g_putI (w := wM q) hC 0 fl_X7_35 fp_7_11 (show 0 < 17 from by decide) rfl (Nat.le_of_ble_eq_true rfl) rfl rfl (gDec_at DX7_draw_0 45 rfl) ?_
            refine g_M (gupd_2) ?_
            refine g_iincN hC (gDec_at DX7_draw_0 46 rfl) rfl (by decide) (L' := [(4, .int (nI (i + 1))), (2, .long (lN (sStr B (sPull B x) (sAll B) i - 1000 * sPl B i))), (5, .long (lN (sStr B (sPull B x) (sAll B) i - 1000 * sPl B i))), (0, .ref (q.2.2 0)), (1, .int (nI x))]) rfl ?_
            refine g_goto hC (gDec_at DX7_draw_0 47 rfl) 32 (by decide) ?_
            refine g_sub [3, 4, 1, 0] (L' := [(0, .ref (q.2.2 0)), (1, .int (nI x)), (2, .long (lN (sStr B (sPull B x) (sAll B) i - 1000 * sPl B i))), (4, .int (nI (i + 1)))]) rfl ?_
            have e9 : sBk B (sAb B (sPl B) (sPull B x) (sAll B)) (i + 1) = (i + 1, sStr B (sPull B x) (sAll B) i - 1000 * sPl B i) := if_pos ⟨h45, by show _ < sStr B (sPull B x) (sAll B) i - 1000 * sPl B i; omega⟩
            have h9 := ih (i + 1) (by omega) (by omega)
            rw [e9] at h9
            rw [show ((i + 1, sStr B (sPull B x) (sAll B) i - 1000 * sPl B i) : Nat × Nat).1 = i + 1 from rfl, show ((i + 1, sStr B (sPull B x) (sAll B) i - 1000 * sPl B i) : Nat × Nat).2 = sStr B (sPull B x) (sAll B) i - 1000 * sPl B i from rfl, nxV_s] at h9
            exact h9
  exact g_sub [2, 3, 1, 0] rfl (loop32 (12 + 1 - 0) 0 (by omega) (by omega))
