/-! THE REFERENCE: the best sought -/
/-- the reference's best, n scrapes ahead -/
def mBest (B : gB) (x f n : Nat) : gT :=
  if n = 1 then (mF1 (sPull B x) f B 0 (fun _ => 0) 0 12 (mjd (sPull B x) f B 0 (fun _ => 0) (0, 0, (fun _ => 0)))) else if n = 2 then (mF2 (sPull B x) f B 0 (fun _ => 0) 0 12 (mF1 (sPull B x) f B 0 (fun _ => 0) 0 12 (mjd (sPull B x) f B 0 (fun _ => 0) (0, 0, (fun _ => 0))))) else (mF3 (sPull B x) f B 0 (fun _ => 0) 0 12 (mF2 (sPull B x) f B 0 (fun _ => 0) 0 12 (mF1 (sPull B x) f B 0 (fun _ => 0) 0 12 (mjd (sPull B x) f B 0 (fun _ => 0) (0, 0, (fun _ => 0))))))
set_option maxRecDepth 100000 in
set_option maxHeartbeats 4000000 in
theorem c_X7_findBest_1 (q : gQ3) {M : gM} {B : gB} (hI : mI M B) {x f : Nat} (hx : x ≤ 40) (hf : f ≤ 999) : gCt (wM q) yX7_findBest cX7_findBest 6 none 9 [.ref (q.2.2 0), .int (nI x), .int (nI f), .int (nI 1)] M (fun v M' => v = none ∧ tS M' 0 (fun _ => 0) (mF1 (sPull B x) f B 0 (fun _ => 0) 0 12 (mjd (sPull B x) f B 0 (fun _ => 0) (0, 0, (fun _ => 0)))) ∧ mQ M M') := by
  refine gMet RX7 (by decide +kernel) rfl (Nat.le_of_ble_eq_true rfl) (fun X hC => ?_)
  have hC : gC X (wM q) cX7_findBest 6 RX7 none 9 := hC
  show gG X (wM q) _ 6 M 0 [(0, .ref (q.2.2 0)), (1, .int (nI x)), (2, .int (nI f)), (3, .int (nI 1))] []
  refine g_aload_n hC (gDec_at DX7_findBest_0 0 rfl) rfl ?_
  refine g_bipush hC (gDec_at DX7_findBest_0 1 rfl) (v := -9) (by decide) ?_
  refine g_putI (w := wM q) hC 0 fl_X7_181 fp_7_19 (show 0 < 17 from by decide) rfl (Nat.le_of_ble_eq_true rfl) rfl rfl (gDec_at DX7_findBest_0 2 rfl) ?_
  refine g_aload_n hC (gDec_at DX7_findBest_0 3 rfl) rfl ?_
  refine g_iconst hC (gDec_at DX7_findBest_0 4 rfl) (v := nI 0) (by decide) ?_
  refine g_putI (w := wM q) hC 0 fl_X7_184 fp_7_20 (show 0 < 17 from by decide) rfl (Nat.le_of_ble_eq_true rfl) rfl rfl (gDec_at DX7_findBest_0 5 rfl) ?_
  have hq0 : mQ M (gupd (gupd M 0 19 (-9)) 0 20 (nI 0)) := mQ_0 (mQ_0 mQ_rf (by omega)) (by omega)
  have hI0 := mI_Q hI hq0
  have hT0 : tS (gupd (gupd M 0 19 (-9)) 0 20 (nI 0)) 0 (fun _ => 0) (0, 0, (fun _ => 0)) := ⟨by rw [gupd_get, if_neg (by omega), gupd_get, if_pos ⟨rfl, rfl⟩]; rfl, by rw [gupd_get, if_pos ⟨rfl, rfl⟩], by show 0 ≤ 1001; omega, by show 0 ≤ 3; omega, fun i hi => absurd hi (Nat.not_lt_zero i), fun i hi => absurd hi (Nat.not_lt_zero i)⟩
  generalize hM0 : gupd (gupd M 0 19 (-9)) 0 20 (nI 0) = M0 at hq0 hI0 hT0 ⊢
  refine g_aload_n hC (gDec_at DX7_findBest_0 6 rfl) rfl ?_
  refine g_iload_n hC (gDec_at DX7_findBest_0 7 rfl) rfl ?_
  refine g_iload_n hC (gDec_at DX7_findBest_0 8 rfl) rfl ?_
  refine g_iconst hC (gDec_at DX7_findBest_0 9 rfl) (v := nI 0) (by decide) ?_
  refine g_callV (w := wM q) hC (i := 0) (c_X7_weigh q hI0 (x := x) (f := f) (n := 0) hx hf (by omega) hT0) vf_X7_weigh ml_X7_187 (by decide) (show 0 < 17 from by decide) rfl rfl rfl rfl rfl (Nat.le_of_ble_eq_true rfl) (gDec_at DX7_findBest_0 10 rfl) (fun v_15 M_15 hq_15 => ?_)
  obtain ⟨rfl, hT6, hq6⟩ := hq_15
  refine g_iconst hC (gDec_at DX7_findBest_0 11 rfl) (v := nI 0) (by decide) ?_
  refine g_istore hC (gDec_at DX7_findBest_0 12 rfl) (by decide) (L' := [(4, .int (nI 0)), (0, .ref (q.2.2 0)), (1, .int (nI x)), (2, .int (nI f)), (3, .int (nI 1))]) rfl ?_
  have l21 : ∀ (fu i : Nat) (M1 : gM), i ≤ 12 → 12 - i < fu → mQ M M1 → tS M1 0 (fun _ => 0) (mF1 (sPull B x) f B 0 (fun _ => 0) 0 i (mjd (sPull B x) f B 0 (fun _ => 0) (0, 0, (fun _ => 0)))) → gG X (wM q) (fun v M' => v = none ∧ tS M' 0 (fun _ => 0) (mF1 (sPull B x) f B 0 (fun _ => 0) 0 12 (mjd (sPull B x) f B 0 (fun _ => 0) (0, 0, (fun _ => 0)))) ∧ mQ M M') 6 M1 21 [(0, .ref (q.2.2 0)), (1, .int (nI x)), (2, .int (nI f)), (3, .int (nI 1)), (4, .int (nI i))] [] := by
    intro fu; induction fu with
    | zero => intro i M1 h1 h2; omega
    | succ fu ih_l21 =>
      intro i M1 hi hfu hq1 hT1
      have hI1 := mI_Q hI hq1
      by_cases hl : i % 6 < B 9 0 ∧ 4 < B 1 i
      · skip
        refine g_iload hC (gDec_at DX7_findBest_0 13 rfl) rfl ?_
        refine g_bipush hC (gDec_at DX7_findBest_0 14 rfl) (v := nI 12) (by decide) ?_
        refine g_icmp_geN hC (by omega) (by omega) (gDec_at DX7_findBest_0 15 rfl) 62 (by decide) (fun h25 => ?_) (fun h25 => ?_)
        · skip
          obtain rfl : i = 12 := by omega
          refine g_iconst hC (gDec_at DX7_findBest_0 36 rfl) (v := nI 0) (by decide) ?_
          refine g_istore hC (gDec_at DX7_findBest_0 37 rfl) (by decide) (L' := [(4, .int (nI 0)), (0, .ref (q.2.2 0)), (1, .int (nI x)), (2, .int (nI f)), (3, .int (nI 1))]) rfl ?_
          refine g_iload hC (gDec_at DX7_findBest_0 38 rfl) rfl ?_
          refine g_bipush hC (gDec_at DX7_findBest_0 39 rfl) (v := nI 12) (by decide) ?_
          refine g_icmp_geN hC (by omega) (by omega) (gDec_at DX7_findBest_0 40 rfl) 149 (by decide) (fun h69 => ?_) (fun h69 => ?_)
          · skip
            exact absurd h69 (by omega)
          · skip
            refine g_iload_n hC (gDec_at DX7_findBest_0 41 rfl) rfl ?_
            refine g_iconst hC (gDec_at DX7_findBest_0 42 rfl) (v := nI 1) (by decide) ?_
            refine g_icmp_leN hC (by omega) (by omega) (gDec_at DX7_findBest_0 43 rfl) 149 (by decide) (fun h74 => ?_) (fun h74 => ?_)
            · skip
              refine g_iconst hC (gDec_at DX7_findBest_1 20 rfl) (v := nI 0) (by decide) ?_
              refine g_istore hC (gDec_at DX7_findBest_1 21 rfl) (by decide) (L' := [(4, .int (nI 0)), (0, .ref (q.2.2 0)), (1, .int (nI x)), (2, .int (nI f)), (3, .int (nI 1))]) rfl ?_
              refine g_iload hC (gDec_at DX7_findBest_1 22 rfl) rfl ?_
              refine g_bipush hC (gDec_at DX7_findBest_1 23 rfl) (v := nI 12) (by decide) ?_
              refine g_icmp_geN hC (by omega) (by omega) (gDec_at DX7_findBest_1 24 rfl) 199 (by decide) (fun h156 => ?_) (fun h156 => ?_)
              · skip
                exact absurd h156 (by omega)
              · skip
                refine g_iload_n hC (gDec_at DX7_findBest_1 25 rfl) rfl ?_
                refine g_iconst hC (gDec_at DX7_findBest_1 26 rfl) (v := nI 2) (by decide) ?_
                refine g_icmp_leN hC (by omega) (by omega) (gDec_at DX7_findBest_1 27 rfl) 199 (by decide) (fun h161 => ?_) (fun h161 => ?_)
                · skip
                  refine g_vret hC (gDec_at DX7_findBest_1 48 rfl) ?_
                  exact ⟨rfl, hT1, hq1⟩
                · skip
                  exact absurd h161 (by omega)
            · skip
              exact absurd h74 (by omega)
        · skip
          refine g_aload_n hC (gDec_at DX7_findBest_0 16 rfl) rfl ?_
          refine g_iload hC (gDec_at DX7_findBest_0 17 rfl) rfl ?_
          refine g_iconst hC (gDec_at DX7_findBest_0 18 rfl) (v := nI 0) (by decide) ?_
          refine g_callVd (w := wM q) hC 0 (c_X7_lay_ok q hI1 (i := i) (n := 0) (by omega) (by omega) hl) vf_X7_lay ml_X7_191 (by decide) (show 0 < 17 from by decide) rfl rfl rfl rfl rfl (Nat.le_of_ble_eq_true rfl) (gDec_at DX7_findBest_0 19 rfl) ?_
          have hI2 := lay_I hI1 (i := i) (t := 0) (y := nI i) hl.2
          have hT2 := lay_T hT1 (i := i) (x := nI (B 1 i - 1)) (by omega)
          have hb2 := fun M3 (h : mQ (gupd (gupd M1 3 i (nI (B 1 i - 1))) 15 0 (nI i)) M3) => mQ_back (mi_f1 hI1 (by omega) hl.1) h
          have ha2 := fun M3 (h : mQ (gupd (gupd M1 3 i (nI (B 1 i - 1))) 15 0 (nI i)) M3) => lay_at h
          generalize hM2 : gupd (gupd M1 3 i (nI (B 1 i - 1))) 15 0 (nI i) = M2 at hI2 hT2 hb2 ha2 ⊢
          refine g_if_eqN hC (by decide) (gDec_at DX7_findBest_0 20 rfl) 56 (by decide) (fun h => absurd h (by decide)) (fun h => ?_)
          refine g_aload_n hC (gDec_at DX7_findBest_0 21 rfl) rfl ?_
          refine g_iload_n hC (gDec_at DX7_findBest_0 22 rfl) rfl ?_
          refine g_iload_n hC (gDec_at DX7_findBest_0 23 rfl) rfl ?_
          refine g_iconst hC (gDec_at DX7_findBest_0 24 rfl) (v := nI 1) (by decide) ?_
          refine g_callV (w := wM q) hC (i := 0) (c_X7_weigh q hI2 (x := x) (f := f) (n := 1) hx hf (by omega) hT2) vf_X7_weigh ml_X7_187 (by decide) (show 0 < 17 from by decide) rfl rfl rfl rfl rfl (Nat.le_of_ble_eq_true rfl) (gDec_at DX7_findBest_0 25 rfl) (fun v_42 M_42 hq_42 => ?_)
          obtain ⟨rfl, hT5, hq5⟩ := hq_42
          have hb5 := hb2 _ hq5
          refine g_aload_n hC (gDec_at DX7_findBest_0 26 rfl) rfl ?_
          refine g_get (w := wM q) hC 0 (v := .ref (q.2.2 3)) fl_X7_20 (show 0 < 17 from by decide) rfl rfl (gDec_at DX7_findBest_0 27 rfl) ?_
          refine g_iload hC (gDec_at DX7_findBest_0 28 rfl) rfl ?_
          refine g_dup2 hC (gDec_at DX7_findBest_0 29 rfl) rfl rfl ?_
          refine g_iald (w := wM q) hC 3 0 i (x := (nI (B 1 i - 1))) (show 3 < 17 from by decide) rfl rfl (by omega) (by decide) (ha2 _ hq5) (gDec_at DX7_findBest_0 30 rfl) ?_
          refine g_iconst hC (gDec_at DX7_findBest_0 31 rfl) (v := nI 1) (by decide) ?_
          refine g_iaddN hC (gDec_at DX7_findBest_0 32 rfl) ?_
          refine g_iast (w := wM q) hC 3 0 i (show 3 < 17 from by decide) rfl rfl rfl (by omega) (by decide) (gDec_at DX7_findBest_0 33 rfl) ?_
          rw [show B 1 i - 1 + 1 = B 1 i by omega]
          refine g_iincN hC (gDec_at DX7_findBest_0 34 rfl) rfl (by decide) (L' := [(4, .int (nI (i + 1))), (0, .ref (q.2.2 0)), (1, .int (nI x)), (2, .int (nI f)), (3, .int (nI 1))]) rfl ?_
          refine g_goto hC (gDec_at DX7_findBest_0 35 rfl) 21 (by decide) ?_
          refine g_sub [1, 2, 3, 4, 0] (L' := [(0, .ref (q.2.2 0)), (1, .int (nI x)), (2, .int (nI f)), (3, .int (nI 1)), (4, .int (nI (i + 1)))]) rfl ?_
          have e9 : (mF1 (sPull B x) f B 0 (fun _ => 0) 0 (i + 1) (mjd (sPull B x) f B 0 (fun _ => 0) (0, 0, (fun _ => 0)))) = mjd (sPull B x) f (dec B i) 1 (wyU (fun _ => 0) 0 i) (mF1 (sPull B x) f B 0 (fun _ => 0) 0 i (mjd (sPull B x) f B 0 (fun _ => 0) (0, 0, (fun _ => 0)))) := if_pos ⟨Nat.zero_le _, hl⟩
          have h9 := ih_l21 (i + 1) (gupd M_42 3 i (nI (B 1 i))) (by omega) (by omega) (mQ_tr hq1 hb5) (by rw [e9]; exact tS_back hT5)
          exact h9
      · skip
        refine g_iload hC (gDec_at DX7_findBest_0 13 rfl) rfl ?_
        refine g_bipush hC (gDec_at DX7_findBest_0 14 rfl) (v := nI 12) (by decide) ?_
        refine g_icmp_geN hC (by omega) (by omega) (gDec_at DX7_findBest_0 15 rfl) 62 (by decide) (fun h25_1 => ?_) (fun h25_1 => ?_)
        · skip
          obtain rfl : i = 12 := by omega
          refine g_iconst hC (gDec_at DX7_findBest_0 36 rfl) (v := nI 0) (by decide) ?_
          refine g_istore hC (gDec_at DX7_findBest_0 37 rfl) (by decide) (L' := [(4, .int (nI 0)), (0, .ref (q.2.2 0)), (1, .int (nI x)), (2, .int (nI f)), (3, .int (nI 1))]) rfl ?_
          refine g_iload hC (gDec_at DX7_findBest_0 38 rfl) rfl ?_
          refine g_bipush hC (gDec_at DX7_findBest_0 39 rfl) (v := nI 12) (by decide) ?_
          refine g_icmp_geN hC (by omega) (by omega) (gDec_at DX7_findBest_0 40 rfl) 149 (by decide) (fun h69_1 => ?_) (fun h69_1 => ?_)
          · skip
            exact absurd h69_1 (by omega)
          · skip
            refine g_iload_n hC (gDec_at DX7_findBest_0 41 rfl) rfl ?_
            refine g_iconst hC (gDec_at DX7_findBest_0 42 rfl) (v := nI 1) (by decide) ?_
            refine g_icmp_leN hC (by omega) (by omega) (gDec_at DX7_findBest_0 43 rfl) 149 (by decide) (fun h74_1 => ?_) (fun h74_1 => ?_)
            · skip
              refine g_iconst hC (gDec_at DX7_findBest_1 20 rfl) (v := nI 0) (by decide) ?_
              refine g_istore hC (gDec_at DX7_findBest_1 21 rfl) (by decide) (L' := [(4, .int (nI 0)), (0, .ref (q.2.2 0)), (1, .int (nI x)), (2, .int (nI f)), (3, .int (nI 1))]) rfl ?_
              refine g_iload hC (gDec_at DX7_findBest_1 22 rfl) rfl ?_
              refine g_bipush hC (gDec_at DX7_findBest_1 23 rfl) (v := nI 12) (by decide) ?_
              refine g_icmp_geN hC (by omega) (by omega) (gDec_at DX7_findBest_1 24 rfl) 199 (by decide) (fun h156_1 => ?_) (fun h156_1 => ?_)
              · skip
                exact absurd h156_1 (by omega)
              · skip
                refine g_iload_n hC (gDec_at DX7_findBest_1 25 rfl) rfl ?_
                refine g_iconst hC (gDec_at DX7_findBest_1 26 rfl) (v := nI 2) (by decide) ?_
                refine g_icmp_leN hC (by omega) (by omega) (gDec_at DX7_findBest_1 27 rfl) 199 (by decide) (fun h161_1 => ?_) (fun h161_1 => ?_)
                · skip
                  refine g_vret hC (gDec_at DX7_findBest_1 48 rfl) ?_
                  exact ⟨rfl, hT1, hq1⟩
                · skip
                  exact absurd h161_1 (by omega)
            · skip
              exact absurd h74_1 (by omega)
        · skip
          refine g_aload_n hC (gDec_at DX7_findBest_0 16 rfl) rfl ?_
          refine g_iload hC (gDec_at DX7_findBest_0 17 rfl) rfl ?_
          refine g_iconst hC (gDec_at DX7_findBest_0 18 rfl) (v := nI 0) (by decide) ?_
          refine g_callVd (w := wM q) hC 0 (c_X7_lay_no q hI1 (i := i) (n := 0) (by omega) hl) vf_X7_lay ml_X7_191 (by decide) (show 0 < 17 from by decide) rfl rfl rfl rfl rfl (Nat.le_of_ble_eq_true rfl) (gDec_at DX7_findBest_0 19 rfl) ?_
          refine g_if_eqN hC (by decide) (gDec_at DX7_findBest_0 20 rfl) 56 (by decide) (fun h => ?_) (fun h => absurd h (by decide))
          refine g_iincN hC (gDec_at DX7_findBest_0 34 rfl) rfl (by decide) (L' := [(4, .int (nI (i + 1))), (0, .ref (q.2.2 0)), (1, .int (nI x)), (2, .int (nI f)), (3, .int (nI 1))]) rfl ?_
          refine g_goto hC (gDec_at DX7_findBest_0 35 rfl) 21 (by decide) ?_
          refine g_sub [1, 2, 3, 4, 0] (L' := [(0, .ref (q.2.2 0)), (1, .int (nI x)), (2, .int (nI f)), (3, .int (nI 1)), (4, .int (nI (i + 1)))]) rfl ?_
          have e9 : (mF1 (sPull B x) f B 0 (fun _ => 0) 0 (i + 1) (mjd (sPull B x) f B 0 (fun _ => 0) (0, 0, (fun _ => 0)))) = (mF1 (sPull B x) f B 0 (fun _ => 0) 0 i (mjd (sPull B x) f B 0 (fun _ => 0) (0, 0, (fun _ => 0)))) := if_neg (fun z => hl z.2)
          have h9 := ih_l21 (i + 1) M1 (by omega) (by omega) (hq1) (by rw [e9]; exact hT1)
          exact h9
  exact g_sub [1, 2, 3, 4, 0] rfl (l21 (12 + 1 - 0) 0 _ (by omega) (by omega) (mQ_tr hq0 hq6) hT6)

set_option maxRecDepth 100000 in
set_option maxHeartbeats 4000000 in
theorem c_X7_findBest_2 (q : gQ3) {M : gM} {B : gB} (hI : mI M B) {x f : Nat} (hx : x ≤ 40) (hf : f ≤ 999) : gCt (wM q) yX7_findBest cX7_findBest 6 none 9 [.ref (q.2.2 0), .int (nI x), .int (nI f), .int (nI 2)] M (fun v M' => v = none ∧ tS M' 0 (fun _ => 0) (mF2 (sPull B x) f B 0 (fun _ => 0) 0 12 (mF1 (sPull B x) f B 0 (fun _ => 0) 0 12 (mjd (sPull B x) f B 0 (fun _ => 0) (0, 0, (fun _ => 0))))) ∧ mQ M M') := by
  refine gMet RX7 (by decide +kernel) rfl (Nat.le_of_ble_eq_true rfl) (fun X hC => ?_)
  have hC : gC X (wM q) cX7_findBest 6 RX7 none 9 := hC
  show gG X (wM q) _ 6 M 0 [(0, .ref (q.2.2 0)), (1, .int (nI x)), (2, .int (nI f)), (3, .int (nI 2))] []
  refine g_aload_n hC (gDec_at DX7_findBest_0 0 rfl) rfl ?_
  refine g_bipush hC (gDec_at DX7_findBest_0 1 rfl) (v := -9) (by decide) ?_
  refine g_putI (w := wM q) hC 0 fl_X7_181 fp_7_19 (show 0 < 17 from by decide) rfl (Nat.le_of_ble_eq_true rfl) rfl rfl (gDec_at DX7_findBest_0 2 rfl) ?_
  refine g_aload_n hC (gDec_at DX7_findBest_0 3 rfl) rfl ?_
  refine g_iconst hC (gDec_at DX7_findBest_0 4 rfl) (v := nI 0) (by decide) ?_
  refine g_putI (w := wM q) hC 0 fl_X7_184 fp_7_20 (show 0 < 17 from by decide) rfl (Nat.le_of_ble_eq_true rfl) rfl rfl (gDec_at DX7_findBest_0 5 rfl) ?_
  have hq0 : mQ M (gupd (gupd M 0 19 (-9)) 0 20 (nI 0)) := mQ_0 (mQ_0 mQ_rf (by omega)) (by omega)
  have hI0 := mI_Q hI hq0
  have hT0 : tS (gupd (gupd M 0 19 (-9)) 0 20 (nI 0)) 0 (fun _ => 0) (0, 0, (fun _ => 0)) := ⟨by rw [gupd_get, if_neg (by omega), gupd_get, if_pos ⟨rfl, rfl⟩]; rfl, by rw [gupd_get, if_pos ⟨rfl, rfl⟩], by show 0 ≤ 1001; omega, by show 0 ≤ 3; omega, fun i hi => absurd hi (Nat.not_lt_zero i), fun i hi => absurd hi (Nat.not_lt_zero i)⟩
  generalize hM0 : gupd (gupd M 0 19 (-9)) 0 20 (nI 0) = M0 at hq0 hI0 hT0 ⊢
  refine g_aload_n hC (gDec_at DX7_findBest_0 6 rfl) rfl ?_
  refine g_iload_n hC (gDec_at DX7_findBest_0 7 rfl) rfl ?_
  refine g_iload_n hC (gDec_at DX7_findBest_0 8 rfl) rfl ?_
  refine g_iconst hC (gDec_at DX7_findBest_0 9 rfl) (v := nI 0) (by decide) ?_
  refine g_callV (w := wM q) hC (i := 0) (c_X7_weigh q hI0 (x := x) (f := f) (n := 0) hx hf (by omega) hT0) vf_X7_weigh ml_X7_187 (by decide) (show 0 < 17 from by decide) rfl rfl rfl rfl rfl (Nat.le_of_ble_eq_true rfl) (gDec_at DX7_findBest_0 10 rfl) (fun v_15 M_15 hq_15 => ?_)
  obtain ⟨rfl, hT6, hq6⟩ := hq_15
  refine g_iconst hC (gDec_at DX7_findBest_0 11 rfl) (v := nI 0) (by decide) ?_
  refine g_istore hC (gDec_at DX7_findBest_0 12 rfl) (by decide) (L' := [(4, .int (nI 0)), (0, .ref (q.2.2 0)), (1, .int (nI x)), (2, .int (nI f)), (3, .int (nI 2))]) rfl ?_
  have l21 : ∀ (fu i : Nat) (M1 : gM), i ≤ 12 → 12 - i < fu → mQ M M1 → tS M1 0 (fun _ => 0) (mF1 (sPull B x) f B 0 (fun _ => 0) 0 i (mjd (sPull B x) f B 0 (fun _ => 0) (0, 0, (fun _ => 0)))) → gG X (wM q) (fun v M' => v = none ∧ tS M' 0 (fun _ => 0) (mF2 (sPull B x) f B 0 (fun _ => 0) 0 12 (mF1 (sPull B x) f B 0 (fun _ => 0) 0 12 (mjd (sPull B x) f B 0 (fun _ => 0) (0, 0, (fun _ => 0))))) ∧ mQ M M') 6 M1 21 [(0, .ref (q.2.2 0)), (1, .int (nI x)), (2, .int (nI f)), (3, .int (nI 2)), (4, .int (nI i))] [] := by
    intro fu; induction fu with
    | zero => intro i M1 h1 h2; omega
    | succ fu ih_l21 =>
      intro i M1 hi hfu hq1 hT1
      have hI1 := mI_Q hI hq1
      by_cases hl : i % 6 < B 9 0 ∧ 4 < B 1 i
      · skip
        refine g_iload hC (gDec_at DX7_findBest_0 13 rfl) rfl ?_
        refine g_bipush hC (gDec_at DX7_findBest_0 14 rfl) (v := nI 12) (by decide) ?_
        refine g_icmp_geN hC (by omega) (by omega) (gDec_at DX7_findBest_0 15 rfl) 62 (by decide) (fun h25 => ?_) (fun h25 => ?_)
        · skip
          obtain rfl : i = 12 := by omega
          refine g_iconst hC (gDec_at DX7_findBest_0 36 rfl) (v := nI 0) (by decide) ?_
          refine g_istore hC (gDec_at DX7_findBest_0 37 rfl) (by decide) (L' := [(4, .int (nI 0)), (0, .ref (q.2.2 0)), (1, .int (nI x)), (2, .int (nI f)), (3, .int (nI 2))]) rfl ?_
          have l65 : ∀ (fu i : Nat) (M1 : gM), i ≤ 12 → 12 - i < fu → mQ M M1 → tS M1 0 (fun _ => 0) (mF2 (sPull B x) f B 0 (fun _ => 0) 0 i (mF1 (sPull B x) f B 0 (fun _ => 0) 0 12 (mjd (sPull B x) f B 0 (fun _ => 0) (0, 0, (fun _ => 0))))) → gG X (wM q) (fun v M' => v = none ∧ tS M' 0 (fun _ => 0) (mF2 (sPull B x) f B 0 (fun _ => 0) 0 12 (mF1 (sPull B x) f B 0 (fun _ => 0) 0 12 (mjd (sPull B x) f B 0 (fun _ => 0) (0, 0, (fun _ => 0))))) ∧ mQ M M') 6 M1 65 [(0, .ref (q.2.2 0)), (1, .int (nI x)), (2, .int (nI f)), (3, .int (nI 2)), (4, .int (nI i))] [] := by
            intro fu; induction fu with
            | zero => intro i M1 h1 h2; omega
            | succ fu ih_l65 =>
              intro i M1 hi hfu hq1 hT1
              have hI1 := mI_Q hI hq1
              by_cases hl : i % 6 < B 9 0 ∧ 4 < B 1 i
              · skip
                refine g_iload hC (gDec_at DX7_findBest_0 38 rfl) rfl ?_
                refine g_bipush hC (gDec_at DX7_findBest_0 39 rfl) (v := nI 12) (by decide) ?_
                refine g_icmp_geN hC (by omega) (by omega) (gDec_at DX7_findBest_0 40 rfl) 149 (by decide) (fun h69 => ?_) (fun h69 => ?_)
                · skip
                  obtain rfl : i = 12 := by omega
                  refine g_iconst hC (gDec_at DX7_findBest_1 20 rfl) (v := nI 0) (by decide) ?_
                  refine g_istore hC (gDec_at DX7_findBest_1 21 rfl) (by decide) (L' := [(4, .int (nI 0)), (0, .ref (q.2.2 0)), (1, .int (nI x)), (2, .int (nI f)), (3, .int (nI 2))]) rfl ?_
                  refine g_iload hC (gDec_at DX7_findBest_1 22 rfl) rfl ?_
                  refine g_bipush hC (gDec_at DX7_findBest_1 23 rfl) (v := nI 12) (by decide) ?_
                  refine g_icmp_geN hC (by omega) (by omega) (gDec_at DX7_findBest_1 24 rfl) 199 (by decide) (fun h156 => ?_) (fun h156 => ?_)
                  · skip
                    exact absurd h156 (by omega)
                  · skip
                    refine g_iload_n hC (gDec_at DX7_findBest_1 25 rfl) rfl ?_
                    refine g_iconst hC (gDec_at DX7_findBest_1 26 rfl) (v := nI 2) (by decide) ?_
                    refine g_icmp_leN hC (by omega) (by omega) (gDec_at DX7_findBest_1 27 rfl) 199 (by decide) (fun h161 => ?_) (fun h161 => ?_)
                    · skip
                      refine g_vret hC (gDec_at DX7_findBest_1 48 rfl) ?_
                      exact ⟨rfl, hT1, hq1⟩
                    · skip
                      exact absurd h161 (by omega)
                · skip
                  refine g_iload_n hC (gDec_at DX7_findBest_0 41 rfl) rfl ?_
                  refine g_iconst hC (gDec_at DX7_findBest_0 42 rfl) (v := nI 1) (by decide) ?_
                  refine g_icmp_leN hC (by omega) (by omega) (gDec_at DX7_findBest_0 43 rfl) 149 (by decide) (fun h74 => ?_) (fun h74 => ?_)
                  · skip
                    exact absurd h74 (by omega)
                  · skip
                    refine g_aload_n hC (gDec_at DX7_findBest_0 44 rfl) rfl ?_
                    refine g_iload hC (gDec_at DX7_findBest_0 45 rfl) rfl ?_
                    refine g_iconst hC (gDec_at DX7_findBest_0 46 rfl) (v := nI 0) (by decide) ?_
                    refine g_callVd (w := wM q) hC 0 (c_X7_lay_ok q hI1 (i := i) (n := 0) (by omega) (by omega) hl) vf_X7_lay ml_X7_191 (by decide) (show 0 < 17 from by decide) rfl rfl rfl rfl rfl (Nat.le_of_ble_eq_true rfl) (gDec_at DX7_findBest_0 47 rfl) ?_
                    have hI2 := lay_I hI1 (i := i) (t := 0) (y := nI i) hl.2
                    have hT2 := lay_T hT1 (i := i) (x := nI (B 1 i - 1)) (by omega)
                    have hb2 := fun M3 (h : mQ (gupd (gupd M1 3 i (nI (B 1 i - 1))) 15 0 (nI i)) M3) => mQ_back (mi_f1 hI1 (by omega) hl.1) h
                    have ha2 := fun M3 (h : mQ (gupd (gupd M1 3 i (nI (B 1 i - 1))) 15 0 (nI i)) M3) => lay_at h
                    generalize hM2 : gupd (gupd M1 3 i (nI (B 1 i - 1))) 15 0 (nI i) = M2 at hI2 hT2 hb2 ha2 ⊢
                    refine g_if_eqN hC (by decide) (gDec_at DX7_findBest_0 48 rfl) 143 (by decide) (fun h => absurd h (by decide)) (fun h => ?_)
                    refine g_iload hC (gDec_at DX7_findBest_0 49 rfl) rfl ?_
                    refine g_istore hC (gDec_at DX7_findBest_0 50 rfl) (by decide) (L' := [(5, .int (nI i)), (0, .ref (q.2.2 0)), (1, .int (nI x)), (2, .int (nI f)), (3, .int (nI 2)), (4, .int (nI i))]) rfl ?_
                    have l91 : ∀ (fu j : Nat) (M3 : gM), j ≤ 12 → 12 - j < fu → mQ M2 M3 → tS M3 1 (wyU (fun _ => 0) 0 i) (mF1 (sPull B x) f (dec B i) 1 (wyU (fun _ => 0) 0 i) i j (mF2 (sPull B x) f B 0 (fun _ => 0) 0 i (mF1 (sPull B x) f B 0 (fun _ => 0) 0 12 (mjd (sPull B x) f B 0 (fun _ => 0) (0, 0, (fun _ => 0)))))) → i ≤ j → gG X (wM q) (fun v M' => v = none ∧ tS M' 0 (fun _ => 0) (mF2 (sPull B x) f B 0 (fun _ => 0) 0 12 (mF1 (sPull B x) f B 0 (fun _ => 0) 0 12 (mjd (sPull B x) f B 0 (fun _ => 0) (0, 0, (fun _ => 0))))) ∧ mQ M M') 6 M3 91 [(0, .ref (q.2.2 0)), (1, .int (nI x)), (2, .int (nI f)), (3, .int (nI 2)), (4, .int (nI i)), (5, .int (nI j))] [] := by
                      intro fu; induction fu with
                      | zero => intro j M3 h1 h2; omega
                      | succ fu ih_l91 =>
                        intro j M3 hj12 hfu hq3 hT3 hij
                        have hI3 := mI_Q hI2 hq3
                        by_cases hk : j % 6 < dec B i 9 0 ∧ 4 < dec B i 1 j
                        · skip
                          refine g_iload hC (gDec_at DX7_findBest_0 51 rfl) rfl ?_
                          refine g_bipush hC (gDec_at DX7_findBest_0 52 rfl) (v := nI 12) (by decide) ?_
                          refine g_icmp_geN hC (by omega) (by omega) (gDec_at DX7_findBest_0 53 rfl) 132 (by decide) (fun h95 => ?_) (fun h95 => ?_)
                          · skip
                            obtain rfl : j = 12 := by omega
                            have hb3 := hb2 _ hq3
                            refine g_sub [0, 1, 2, 3, 4] (L' := [(0, .ref (q.2.2 0)), (1, .int (nI x)), (2, .int (nI f)), (3, .int (nI 2)), (4, .int (nI i))]) rfl ?_
                            refine g_aload_n hC (gDec_at DX7_findBest_1 10 rfl) rfl ?_
                            refine g_get (w := wM q) hC 0 (v := .ref (q.2.2 3)) fl_X7_20 (show 0 < 17 from by decide) rfl rfl (gDec_at DX7_findBest_1 11 rfl) ?_
                            refine g_iload hC (gDec_at DX7_findBest_1 12 rfl) rfl ?_
                            refine g_dup2 hC (gDec_at DX7_findBest_1 13 rfl) rfl rfl ?_
                            refine g_iald (w := wM q) hC 3 0 i (x := (nI (B 1 i - 1))) (show 3 < 17 from by decide) rfl rfl (by omega) (by decide) (ha2 _ hq3) (gDec_at DX7_findBest_1 14 rfl) ?_
                            refine g_iconst hC (gDec_at DX7_findBest_1 15 rfl) (v := nI 1) (by decide) ?_
                            refine g_iaddN hC (gDec_at DX7_findBest_1 16 rfl) ?_
                            refine g_iast (w := wM q) hC 3 0 i (show 3 < 17 from by decide) rfl rfl rfl (by omega) (by decide) (gDec_at DX7_findBest_1 17 rfl) ?_
                            rw [show B 1 i - 1 + 1 = B 1 i by omega]
                            refine g_iincN hC (gDec_at DX7_findBest_1 18 rfl) rfl (by decide) (L' := [(4, .int (nI (i + 1))), (0, .ref (q.2.2 0)), (1, .int (nI x)), (2, .int (nI f)), (3, .int (nI 2))]) rfl ?_
                            refine g_goto hC (gDec_at DX7_findBest_1 19 rfl) 65 (by decide) ?_
                            refine g_sub [1, 2, 3, 4, 0] (L' := [(0, .ref (q.2.2 0)), (1, .int (nI x)), (2, .int (nI f)), (3, .int (nI 2)), (4, .int (nI (i + 1)))]) rfl ?_
                            have e9 : (mF2 (sPull B x) f B 0 (fun _ => 0) 0 (i + 1) (mF1 (sPull B x) f B 0 (fun _ => 0) 0 12 (mjd (sPull B x) f B 0 (fun _ => 0) (0, 0, (fun _ => 0))))) = (mF1 (sPull B x) f (dec B i) 1 (wyU (fun _ => 0) 0 i) i 12 (mF2 (sPull B x) f B 0 (fun _ => 0) 0 i (mF1 (sPull B x) f B 0 (fun _ => 0) 0 12 (mjd (sPull B x) f B 0 (fun _ => 0) (0, 0, (fun _ => 0)))))) := if_pos ⟨Nat.zero_le _, hl⟩
                            have h9 := ih_l65 (i + 1) (gupd M3 3 i (nI (B 1 i))) (by omega) (by omega) (mQ_tr hq1 hb3) (by rw [e9]; exact tS_back hT3)
                            exact h9
                          · skip
                            refine g_aload_n hC (gDec_at DX7_findBest_0 54 rfl) rfl ?_
                            refine g_iload hC (gDec_at DX7_findBest_0 55 rfl) rfl ?_
                            refine g_iconst hC (gDec_at DX7_findBest_0 56 rfl) (v := nI 1) (by decide) ?_
                            refine g_callVd (w := wM q) hC 0 (c_X7_lay_ok q hI3 (i := j) (n := 1) (by omega) (by omega) hk) vf_X7_lay ml_X7_191 (by decide) (show 0 < 17 from by decide) rfl rfl rfl rfl rfl (Nat.le_of_ble_eq_true rfl) (gDec_at DX7_findBest_0 57 rfl) ?_
                            have hI4 := lay_I hI3 (i := j) (t := 1) (y := nI j) hk.2
                            have hT4 := lay_T hT3 (i := j) (x := nI (dec B i 1 j - 1)) (by omega)
                            have hb4 := fun M5 (h : mQ (gupd (gupd M3 3 j (nI (dec B i 1 j - 1))) 15 1 (nI j)) M5) => mQ_back (mi_f1 hI3 (by omega) hk.1) h
                            have ha4 := fun M5 (h : mQ (gupd (gupd M3 3 j (nI (dec B i 1 j - 1))) 15 1 (nI j)) M5) => lay_at h
                            generalize hM4 : gupd (gupd M3 3 j (nI (dec B i 1 j - 1))) 15 1 (nI j) = M4 at hI4 hT4 hb4 ha4 ⊢
                            refine g_if_eqN hC (by decide) (gDec_at DX7_findBest_0 58 rfl) 126 (by decide) (fun h => absurd h (by decide)) (fun h => ?_)
                            refine g_aload_n hC (gDec_at DX7_findBest_0 59 rfl) rfl ?_
                            refine g_iload_n hC (gDec_at DX7_findBest_0 60 rfl) rfl ?_
                            refine g_iload_n hC (gDec_at DX7_findBest_0 61 rfl) rfl ?_
                            refine g_iconst hC (gDec_at DX7_findBest_0 62 rfl) (v := nI 2) (by decide) ?_
                            refine g_callV (w := wM q) hC (i := 0) (c_X7_weigh q hI4 (x := x) (f := f) (n := 2) hx hf (by omega) hT4) vf_X7_weigh ml_X7_187 (by decide) (show 0 < 17 from by decide) rfl rfl rfl rfl rfl (Nat.le_of_ble_eq_true rfl) (gDec_at DX7_findBest_0 63 rfl) (fun v_112 M_112 hq_112 => ?_)
                            obtain ⟨rfl, hT5, hq5⟩ := hq_112
                            have hb5 := hb4 _ hq5
                            refine g_aload_n hC (gDec_at DX7_findBest_1 0 rfl) rfl ?_
                            refine g_get (w := wM q) hC 0 (v := .ref (q.2.2 3)) fl_X7_20 (show 0 < 17 from by decide) rfl rfl (gDec_at DX7_findBest_1 1 rfl) ?_
                            refine g_iload hC (gDec_at DX7_findBest_1 2 rfl) rfl ?_
                            refine g_dup2 hC (gDec_at DX7_findBest_1 3 rfl) rfl rfl ?_
                            refine g_iald (w := wM q) hC 3 0 j (x := (nI (dec B i 1 j - 1))) (show 3 < 17 from by decide) rfl rfl (by omega) (by decide) (ha4 _ hq5) (gDec_at DX7_findBest_1 4 rfl) ?_
                            refine g_iconst hC (gDec_at DX7_findBest_1 5 rfl) (v := nI 1) (by decide) ?_
                            refine g_iaddN hC (gDec_at DX7_findBest_1 6 rfl) ?_
                            refine g_iast (w := wM q) hC 3 0 j (show 3 < 17 from by decide) rfl rfl rfl (by omega) (by decide) (gDec_at DX7_findBest_1 7 rfl) ?_
                            rw [show dec B i 1 j - 1 + 1 = dec B i 1 j by omega]
                            refine g_iincN hC (gDec_at DX7_findBest_1 8 rfl) rfl (by decide) (L' := [(5, .int (nI (j + 1))), (0, .ref (q.2.2 0)), (1, .int (nI x)), (2, .int (nI f)), (3, .int (nI 2)), (4, .int (nI i))]) rfl ?_
                            refine g_goto hC (gDec_at DX7_findBest_1 9 rfl) 91 (by decide) ?_
                            refine g_sub [1, 2, 3, 4, 5, 0] (L' := [(0, .ref (q.2.2 0)), (1, .int (nI x)), (2, .int (nI f)), (3, .int (nI 2)), (4, .int (nI i)), (5, .int (nI (j + 1)))]) rfl ?_
                            have e9 : (mF1 (sPull B x) f (dec B i) 1 (wyU (fun _ => 0) 0 i) i (j + 1) (mF2 (sPull B x) f B 0 (fun _ => 0) 0 i (mF1 (sPull B x) f B 0 (fun _ => 0) 0 12 (mjd (sPull B x) f B 0 (fun _ => 0) (0, 0, (fun _ => 0)))))) = mjd (sPull B x) f (dec (dec B i) j) 2 (wyU (wyU (fun _ => 0) 0 i) 1 j) (mF1 (sPull B x) f (dec B i) 1 (wyU (fun _ => 0) 0 i) i j (mF2 (sPull B x) f B 0 (fun _ => 0) 0 i (mF1 (sPull B x) f B 0 (fun _ => 0) 0 12 (mjd (sPull B x) f B 0 (fun _ => 0) (0, 0, (fun _ => 0)))))) := if_pos ⟨hij, hk⟩
                            have h9 := ih_l91 (j + 1) (gupd M_112 3 j (nI (dec B i 1 j))) (by omega) (by omega) (mQ_tr hq3 hb5) (by rw [e9]; exact tS_back hT5) (by omega)
                            exact h9
                        · skip
                          refine g_iload hC (gDec_at DX7_findBest_0 51 rfl) rfl ?_
                          refine g_bipush hC (gDec_at DX7_findBest_0 52 rfl) (v := nI 12) (by decide) ?_
                          refine g_icmp_geN hC (by omega) (by omega) (gDec_at DX7_findBest_0 53 rfl) 132 (by decide) (fun h95_1 => ?_) (fun h95_1 => ?_)
                          · skip
                            obtain rfl : j = 12 := by omega
                            have hb3 := hb2 _ hq3
                            refine g_sub [0, 1, 2, 3, 4] (L' := [(0, .ref (q.2.2 0)), (1, .int (nI x)), (2, .int (nI f)), (3, .int (nI 2)), (4, .int (nI i))]) rfl ?_
                            refine g_aload_n hC (gDec_at DX7_findBest_1 10 rfl) rfl ?_
                            refine g_get (w := wM q) hC 0 (v := .ref (q.2.2 3)) fl_X7_20 (show 0 < 17 from by decide) rfl rfl (gDec_at DX7_findBest_1 11 rfl) ?_
                            refine g_iload hC (gDec_at DX7_findBest_1 12 rfl) rfl ?_
                            refine g_dup2 hC (gDec_at DX7_findBest_1 13 rfl) rfl rfl ?_
                            refine g_iald (w := wM q) hC 3 0 i (x := (nI (B 1 i - 1))) (show 3 < 17 from by decide) rfl rfl (by omega) (by decide) (ha2 _ hq3) (gDec_at DX7_findBest_1 14 rfl) ?_
                            refine g_iconst hC (gDec_at DX7_findBest_1 15 rfl) (v := nI 1) (by decide) ?_
                            refine g_iaddN hC (gDec_at DX7_findBest_1 16 rfl) ?_
                            refine g_iast (w := wM q) hC 3 0 i (show 3 < 17 from by decide) rfl rfl rfl (by omega) (by decide) (gDec_at DX7_findBest_1 17 rfl) ?_
                            rw [show B 1 i - 1 + 1 = B 1 i by omega]
                            refine g_iincN hC (gDec_at DX7_findBest_1 18 rfl) rfl (by decide) (L' := [(4, .int (nI (i + 1))), (0, .ref (q.2.2 0)), (1, .int (nI x)), (2, .int (nI f)), (3, .int (nI 2))]) rfl ?_
                            refine g_goto hC (gDec_at DX7_findBest_1 19 rfl) 65 (by decide) ?_
                            refine g_sub [1, 2, 3, 4, 0] (L' := [(0, .ref (q.2.2 0)), (1, .int (nI x)), (2, .int (nI f)), (3, .int (nI 2)), (4, .int (nI (i + 1)))]) rfl ?_
                            have e9 : (mF2 (sPull B x) f B 0 (fun _ => 0) 0 (i + 1) (mF1 (sPull B x) f B 0 (fun _ => 0) 0 12 (mjd (sPull B x) f B 0 (fun _ => 0) (0, 0, (fun _ => 0))))) = (mF1 (sPull B x) f (dec B i) 1 (wyU (fun _ => 0) 0 i) i 12 (mF2 (sPull B x) f B 0 (fun _ => 0) 0 i (mF1 (sPull B x) f B 0 (fun _ => 0) 0 12 (mjd (sPull B x) f B 0 (fun _ => 0) (0, 0, (fun _ => 0)))))) := if_pos ⟨Nat.zero_le _, hl⟩
                            have h9 := ih_l65 (i + 1) (gupd M3 3 i (nI (B 1 i))) (by omega) (by omega) (mQ_tr hq1 hb3) (by rw [e9]; exact tS_back hT3)
                            exact h9
                          · skip
                            refine g_aload_n hC (gDec_at DX7_findBest_0 54 rfl) rfl ?_
                            refine g_iload hC (gDec_at DX7_findBest_0 55 rfl) rfl ?_
                            refine g_iconst hC (gDec_at DX7_findBest_0 56 rfl) (v := nI 1) (by decide) ?_
                            refine g_callVd (w := wM q) hC 0 (c_X7_lay_no q hI3 (i := j) (n := 1) (by omega) hk) vf_X7_lay ml_X7_191 (by decide) (show 0 < 17 from by decide) rfl rfl rfl rfl rfl (Nat.le_of_ble_eq_true rfl) (gDec_at DX7_findBest_0 57 rfl) ?_
                            refine g_if_eqN hC (by decide) (gDec_at DX7_findBest_0 58 rfl) 126 (by decide) (fun h => ?_) (fun h => absurd h (by decide))
                            refine g_iincN hC (gDec_at DX7_findBest_1 8 rfl) rfl (by decide) (L' := [(5, .int (nI (j + 1))), (0, .ref (q.2.2 0)), (1, .int (nI x)), (2, .int (nI f)), (3, .int (nI 2)), (4, .int (nI i))]) rfl ?_
                            refine g_goto hC (gDec_at DX7_findBest_1 9 rfl) 91 (by decide) ?_
                            refine g_sub [1, 2, 3, 4, 5, 0] (L' := [(0, .ref (q.2.2 0)), (1, .int (nI x)), (2, .int (nI f)), (3, .int (nI 2)), (4, .int (nI i)), (5, .int (nI (j + 1)))]) rfl ?_
                            have e9 : (mF1 (sPull B x) f (dec B i) 1 (wyU (fun _ => 0) 0 i) i (j + 1) (mF2 (sPull B x) f B 0 (fun _ => 0) 0 i (mF1 (sPull B x) f B 0 (fun _ => 0) 0 12 (mjd (sPull B x) f B 0 (fun _ => 0) (0, 0, (fun _ => 0)))))) = (mF1 (sPull B x) f (dec B i) 1 (wyU (fun _ => 0) 0 i) i j (mF2 (sPull B x) f B 0 (fun _ => 0) 0 i (mF1 (sPull B x) f B 0 (fun _ => 0) 0 12 (mjd (sPull B x) f B 0 (fun _ => 0) (0, 0, (fun _ => 0)))))) := if_neg (fun z => hk z.2)
                            have h9 := ih_l91 (j + 1) M3 (by omega) (by omega) (hq3) (by rw [e9]; exact hT3) (by omega)
                            exact h9
                    exact g_sub [1, 2, 3, 4, 5, 0] rfl (l91 (12 + 1 - i) i M2 (by omega) (by omega) mQ_rf (by rw [mF1_lo]; exact hT2) (by omega))
              · skip
                refine g_iload hC (gDec_at DX7_findBest_0 38 rfl) rfl ?_
                refine g_bipush hC (gDec_at DX7_findBest_0 39 rfl) (v := nI 12) (by decide) ?_
                refine g_icmp_geN hC (by omega) (by omega) (gDec_at DX7_findBest_0 40 rfl) 149 (by decide) (fun h69_1 => ?_) (fun h69_1 => ?_)
                · skip
                  obtain rfl : i = 12 := by omega
                  refine g_iconst hC (gDec_at DX7_findBest_1 20 rfl) (v := nI 0) (by decide) ?_
                  refine g_istore hC (gDec_at DX7_findBest_1 21 rfl) (by decide) (L' := [(4, .int (nI 0)), (0, .ref (q.2.2 0)), (1, .int (nI x)), (2, .int (nI f)), (3, .int (nI 2))]) rfl ?_
                  refine g_iload hC (gDec_at DX7_findBest_1 22 rfl) rfl ?_
                  refine g_bipush hC (gDec_at DX7_findBest_1 23 rfl) (v := nI 12) (by decide) ?_
                  refine g_icmp_geN hC (by omega) (by omega) (gDec_at DX7_findBest_1 24 rfl) 199 (by decide) (fun h156_1 => ?_) (fun h156_1 => ?_)
                  · skip
                    exact absurd h156_1 (by omega)
                  · skip
                    refine g_iload_n hC (gDec_at DX7_findBest_1 25 rfl) rfl ?_
                    refine g_iconst hC (gDec_at DX7_findBest_1 26 rfl) (v := nI 2) (by decide) ?_
                    refine g_icmp_leN hC (by omega) (by omega) (gDec_at DX7_findBest_1 27 rfl) 199 (by decide) (fun h161_1 => ?_) (fun h161_1 => ?_)
                    · skip
                      refine g_vret hC (gDec_at DX7_findBest_1 48 rfl) ?_
                      exact ⟨rfl, hT1, hq1⟩
                    · skip
                      exact absurd h161_1 (by omega)
                · skip
                  refine g_iload_n hC (gDec_at DX7_findBest_0 41 rfl) rfl ?_
                  refine g_iconst hC (gDec_at DX7_findBest_0 42 rfl) (v := nI 1) (by decide) ?_
                  refine g_icmp_leN hC (by omega) (by omega) (gDec_at DX7_findBest_0 43 rfl) 149 (by decide) (fun h74_1 => ?_) (fun h74_1 => ?_)
                  · skip
                    exact absurd h74_1 (by omega)
                  · skip
                    refine g_aload_n hC (gDec_at DX7_findBest_0 44 rfl) rfl ?_
                    refine g_iload hC (gDec_at DX7_findBest_0 45 rfl) rfl ?_
                    refine g_iconst hC (gDec_at DX7_findBest_0 46 rfl) (v := nI 0) (by decide) ?_
                    refine g_callVd (w := wM q) hC 0 (c_X7_lay_no q hI1 (i := i) (n := 0) (by omega) hl) vf_X7_lay ml_X7_191 (by decide) (show 0 < 17 from by decide) rfl rfl rfl rfl rfl (Nat.le_of_ble_eq_true rfl) (gDec_at DX7_findBest_0 47 rfl) ?_
                    refine g_if_eqN hC (by decide) (gDec_at DX7_findBest_0 48 rfl) 143 (by decide) (fun h => ?_) (fun h => absurd h (by decide))
                    refine g_iincN hC (gDec_at DX7_findBest_1 18 rfl) rfl (by decide) (L' := [(4, .int (nI (i + 1))), (0, .ref (q.2.2 0)), (1, .int (nI x)), (2, .int (nI f)), (3, .int (nI 2))]) rfl ?_
                    refine g_goto hC (gDec_at DX7_findBest_1 19 rfl) 65 (by decide) ?_
                    refine g_sub [1, 2, 3, 4, 0] (L' := [(0, .ref (q.2.2 0)), (1, .int (nI x)), (2, .int (nI f)), (3, .int (nI 2)), (4, .int (nI (i + 1)))]) rfl ?_
                    have e9 : (mF2 (sPull B x) f B 0 (fun _ => 0) 0 (i + 1) (mF1 (sPull B x) f B 0 (fun _ => 0) 0 12 (mjd (sPull B x) f B 0 (fun _ => 0) (0, 0, (fun _ => 0))))) = (mF2 (sPull B x) f B 0 (fun _ => 0) 0 i (mF1 (sPull B x) f B 0 (fun _ => 0) 0 12 (mjd (sPull B x) f B 0 (fun _ => 0) (0, 0, (fun _ => 0))))) := if_neg (fun z => hl z.2)
                    have h9 := ih_l65 (i + 1) M1 (by omega) (by omega) (hq1) (by rw [e9]; exact hT1)
                    exact h9
          exact g_sub [1, 2, 3, 4, 0] rfl (l65 (12 + 1 - 0) 0 _ (by omega) (by omega) hq1 hT1)
        · skip
          refine g_aload_n hC (gDec_at DX7_findBest_0 16 rfl) rfl ?_
          refine g_iload hC (gDec_at DX7_findBest_0 17 rfl) rfl ?_
          refine g_iconst hC (gDec_at DX7_findBest_0 18 rfl) (v := nI 0) (by decide) ?_
          refine g_callVd (w := wM q) hC 0 (c_X7_lay_ok q hI1 (i := i) (n := 0) (by omega) (by omega) hl) vf_X7_lay ml_X7_191 (by decide) (show 0 < 17 from by decide) rfl rfl rfl rfl rfl (Nat.le_of_ble_eq_true rfl) (gDec_at DX7_findBest_0 19 rfl) ?_
          have hI2 := lay_I hI1 (i := i) (t := 0) (y := nI i) hl.2
          have hT2 := lay_T hT1 (i := i) (x := nI (B 1 i - 1)) (by omega)
          have hb2 := fun M3 (h : mQ (gupd (gupd M1 3 i (nI (B 1 i - 1))) 15 0 (nI i)) M3) => mQ_back (mi_f1 hI1 (by omega) hl.1) h
          have ha2 := fun M3 (h : mQ (gupd (gupd M1 3 i (nI (B 1 i - 1))) 15 0 (nI i)) M3) => lay_at h
          generalize hM2 : gupd (gupd M1 3 i (nI (B 1 i - 1))) 15 0 (nI i) = M2 at hI2 hT2 hb2 ha2 ⊢
          refine g_if_eqN hC (by decide) (gDec_at DX7_findBest_0 20 rfl) 56 (by decide) (fun h => absurd h (by decide)) (fun h => ?_)
          refine g_aload_n hC (gDec_at DX7_findBest_0 21 rfl) rfl ?_
          refine g_iload_n hC (gDec_at DX7_findBest_0 22 rfl) rfl ?_
          refine g_iload_n hC (gDec_at DX7_findBest_0 23 rfl) rfl ?_
          refine g_iconst hC (gDec_at DX7_findBest_0 24 rfl) (v := nI 1) (by decide) ?_
          refine g_callV (w := wM q) hC (i := 0) (c_X7_weigh q hI2 (x := x) (f := f) (n := 1) hx hf (by omega) hT2) vf_X7_weigh ml_X7_187 (by decide) (show 0 < 17 from by decide) rfl rfl rfl rfl rfl (Nat.le_of_ble_eq_true rfl) (gDec_at DX7_findBest_0 25 rfl) (fun v_42 M_42 hq_42 => ?_)
          obtain ⟨rfl, hT5, hq5⟩ := hq_42
          have hb5 := hb2 _ hq5
          refine g_aload_n hC (gDec_at DX7_findBest_0 26 rfl) rfl ?_
          refine g_get (w := wM q) hC 0 (v := .ref (q.2.2 3)) fl_X7_20 (show 0 < 17 from by decide) rfl rfl (gDec_at DX7_findBest_0 27 rfl) ?_
          refine g_iload hC (gDec_at DX7_findBest_0 28 rfl) rfl ?_
          refine g_dup2 hC (gDec_at DX7_findBest_0 29 rfl) rfl rfl ?_
          refine g_iald (w := wM q) hC 3 0 i (x := (nI (B 1 i - 1))) (show 3 < 17 from by decide) rfl rfl (by omega) (by decide) (ha2 _ hq5) (gDec_at DX7_findBest_0 30 rfl) ?_
          refine g_iconst hC (gDec_at DX7_findBest_0 31 rfl) (v := nI 1) (by decide) ?_
          refine g_iaddN hC (gDec_at DX7_findBest_0 32 rfl) ?_
          refine g_iast (w := wM q) hC 3 0 i (show 3 < 17 from by decide) rfl rfl rfl (by omega) (by decide) (gDec_at DX7_findBest_0 33 rfl) ?_
          rw [show B 1 i - 1 + 1 = B 1 i by omega]
          refine g_iincN hC (gDec_at DX7_findBest_0 34 rfl) rfl (by decide) (L' := [(4, .int (nI (i + 1))), (0, .ref (q.2.2 0)), (1, .int (nI x)), (2, .int (nI f)), (3, .int (nI 2))]) rfl ?_
          refine g_goto hC (gDec_at DX7_findBest_0 35 rfl) 21 (by decide) ?_
          refine g_sub [1, 2, 3, 4, 0] (L' := [(0, .ref (q.2.2 0)), (1, .int (nI x)), (2, .int (nI f)), (3, .int (nI 2)), (4, .int (nI (i + 1)))]) rfl ?_
          have e9 : (mF1 (sPull B x) f B 0 (fun _ => 0) 0 (i + 1) (mjd (sPull B x) f B 0 (fun _ => 0) (0, 0, (fun _ => 0)))) = mjd (sPull B x) f (dec B i) 1 (wyU (fun _ => 0) 0 i) (mF1 (sPull B x) f B 0 (fun _ => 0) 0 i (mjd (sPull B x) f B 0 (fun _ => 0) (0, 0, (fun _ => 0)))) := if_pos ⟨Nat.zero_le _, hl⟩
          have h9 := ih_l21 (i + 1) (gupd M_42 3 i (nI (B 1 i))) (by omega) (by omega) (mQ_tr hq1 hb5) (by rw [e9]; exact tS_back hT5)
          exact h9
      · skip
        refine g_iload hC (gDec_at DX7_findBest_0 13 rfl) rfl ?_
        refine g_bipush hC (gDec_at DX7_findBest_0 14 rfl) (v := nI 12) (by decide) ?_
        refine g_icmp_geN hC (by omega) (by omega) (gDec_at DX7_findBest_0 15 rfl) 62 (by decide) (fun h25_1 => ?_) (fun h25_1 => ?_)
        · skip
          obtain rfl : i = 12 := by omega
          refine g_iconst hC (gDec_at DX7_findBest_0 36 rfl) (v := nI 0) (by decide) ?_
          refine g_istore hC (gDec_at DX7_findBest_0 37 rfl) (by decide) (L' := [(4, .int (nI 0)), (0, .ref (q.2.2 0)), (1, .int (nI x)), (2, .int (nI f)), (3, .int (nI 2))]) rfl ?_
          have l65 : ∀ (fu i : Nat) (M1 : gM), i ≤ 12 → 12 - i < fu → mQ M M1 → tS M1 0 (fun _ => 0) (mF2 (sPull B x) f B 0 (fun _ => 0) 0 i (mF1 (sPull B x) f B 0 (fun _ => 0) 0 12 (mjd (sPull B x) f B 0 (fun _ => 0) (0, 0, (fun _ => 0))))) → gG X (wM q) (fun v M' => v = none ∧ tS M' 0 (fun _ => 0) (mF2 (sPull B x) f B 0 (fun _ => 0) 0 12 (mF1 (sPull B x) f B 0 (fun _ => 0) 0 12 (mjd (sPull B x) f B 0 (fun _ => 0) (0, 0, (fun _ => 0))))) ∧ mQ M M') 6 M1 65 [(0, .ref (q.2.2 0)), (1, .int (nI x)), (2, .int (nI f)), (3, .int (nI 2)), (4, .int (nI i))] [] := by
            intro fu; induction fu with
            | zero => intro i M1 h1 h2; omega
            | succ fu ih_l65 =>
              intro i M1 hi hfu hq1 hT1
              have hI1 := mI_Q hI hq1
              by_cases hl : i % 6 < B 9 0 ∧ 4 < B 1 i
              · skip
                refine g_iload hC (gDec_at DX7_findBest_0 38 rfl) rfl ?_
                refine g_bipush hC (gDec_at DX7_findBest_0 39 rfl) (v := nI 12) (by decide) ?_
                refine g_icmp_geN hC (by omega) (by omega) (gDec_at DX7_findBest_0 40 rfl) 149 (by decide) (fun h69_2 => ?_) (fun h69_2 => ?_)
                · skip
                  obtain rfl : i = 12 := by omega
                  refine g_iconst hC (gDec_at DX7_findBest_1 20 rfl) (v := nI 0) (by decide) ?_
                  refine g_istore hC (gDec_at DX7_findBest_1 21 rfl) (by decide) (L' := [(4, .int (nI 0)), (0, .ref (q.2.2 0)), (1, .int (nI x)), (2, .int (nI f)), (3, .int (nI 2))]) rfl ?_
                  refine g_iload hC (gDec_at DX7_findBest_1 22 rfl) rfl ?_
                  refine g_bipush hC (gDec_at DX7_findBest_1 23 rfl) (v := nI 12) (by decide) ?_
                  refine g_icmp_geN hC (by omega) (by omega) (gDec_at DX7_findBest_1 24 rfl) 199 (by decide) (fun h156_2 => ?_) (fun h156_2 => ?_)
                  · skip
                    exact absurd h156_2 (by omega)
                  · skip
                    refine g_iload_n hC (gDec_at DX7_findBest_1 25 rfl) rfl ?_
                    refine g_iconst hC (gDec_at DX7_findBest_1 26 rfl) (v := nI 2) (by decide) ?_
                    refine g_icmp_leN hC (by omega) (by omega) (gDec_at DX7_findBest_1 27 rfl) 199 (by decide) (fun h161_2 => ?_) (fun h161_2 => ?_)
                    · skip
                      refine g_vret hC (gDec_at DX7_findBest_1 48 rfl) ?_
                      exact ⟨rfl, hT1, hq1⟩
                    · skip
                      exact absurd h161_2 (by omega)
                · skip
                  refine g_iload_n hC (gDec_at DX7_findBest_0 41 rfl) rfl ?_
                  refine g_iconst hC (gDec_at DX7_findBest_0 42 rfl) (v := nI 1) (by decide) ?_
                  refine g_icmp_leN hC (by omega) (by omega) (gDec_at DX7_findBest_0 43 rfl) 149 (by decide) (fun h74_2 => ?_) (fun h74_2 => ?_)
                  · skip
                    exact absurd h74_2 (by omega)
                  · skip
                    refine g_aload_n hC (gDec_at DX7_findBest_0 44 rfl) rfl ?_
                    refine g_iload hC (gDec_at DX7_findBest_0 45 rfl) rfl ?_
                    refine g_iconst hC (gDec_at DX7_findBest_0 46 rfl) (v := nI 0) (by decide) ?_
                    refine g_callVd (w := wM q) hC 0 (c_X7_lay_ok q hI1 (i := i) (n := 0) (by omega) (by omega) hl) vf_X7_lay ml_X7_191 (by decide) (show 0 < 17 from by decide) rfl rfl rfl rfl rfl (Nat.le_of_ble_eq_true rfl) (gDec_at DX7_findBest_0 47 rfl) ?_
                    have hI2 := lay_I hI1 (i := i) (t := 0) (y := nI i) hl.2
                    have hT2 := lay_T hT1 (i := i) (x := nI (B 1 i - 1)) (by omega)
                    have hb2 := fun M3 (h : mQ (gupd (gupd M1 3 i (nI (B 1 i - 1))) 15 0 (nI i)) M3) => mQ_back (mi_f1 hI1 (by omega) hl.1) h
                    have ha2 := fun M3 (h : mQ (gupd (gupd M1 3 i (nI (B 1 i - 1))) 15 0 (nI i)) M3) => lay_at h
                    generalize hM2 : gupd (gupd M1 3 i (nI (B 1 i - 1))) 15 0 (nI i) = M2 at hI2 hT2 hb2 ha2 ⊢
                    refine g_if_eqN hC (by decide) (gDec_at DX7_findBest_0 48 rfl) 143 (by decide) (fun h => absurd h (by decide)) (fun h => ?_)
                    refine g_iload hC (gDec_at DX7_findBest_0 49 rfl) rfl ?_
                    refine g_istore hC (gDec_at DX7_findBest_0 50 rfl) (by decide) (L' := [(5, .int (nI i)), (0, .ref (q.2.2 0)), (1, .int (nI x)), (2, .int (nI f)), (3, .int (nI 2)), (4, .int (nI i))]) rfl ?_
                    have l91 : ∀ (fu j : Nat) (M3 : gM), j ≤ 12 → 12 - j < fu → mQ M2 M3 → tS M3 1 (wyU (fun _ => 0) 0 i) (mF1 (sPull B x) f (dec B i) 1 (wyU (fun _ => 0) 0 i) i j (mF2 (sPull B x) f B 0 (fun _ => 0) 0 i (mF1 (sPull B x) f B 0 (fun _ => 0) 0 12 (mjd (sPull B x) f B 0 (fun _ => 0) (0, 0, (fun _ => 0)))))) → i ≤ j → gG X (wM q) (fun v M' => v = none ∧ tS M' 0 (fun _ => 0) (mF2 (sPull B x) f B 0 (fun _ => 0) 0 12 (mF1 (sPull B x) f B 0 (fun _ => 0) 0 12 (mjd (sPull B x) f B 0 (fun _ => 0) (0, 0, (fun _ => 0))))) ∧ mQ M M') 6 M3 91 [(0, .ref (q.2.2 0)), (1, .int (nI x)), (2, .int (nI f)), (3, .int (nI 2)), (4, .int (nI i)), (5, .int (nI j))] [] := by
                      intro fu; induction fu with
                      | zero => intro j M3 h1 h2; omega
                      | succ fu ih_l91 =>
                        intro j M3 hj12 hfu hq3 hT3 hij
                        have hI3 := mI_Q hI2 hq3
                        by_cases hk : j % 6 < dec B i 9 0 ∧ 4 < dec B i 1 j
                        · skip
                          refine g_iload hC (gDec_at DX7_findBest_0 51 rfl) rfl ?_
                          refine g_bipush hC (gDec_at DX7_findBest_0 52 rfl) (v := nI 12) (by decide) ?_
                          refine g_icmp_geN hC (by omega) (by omega) (gDec_at DX7_findBest_0 53 rfl) 132 (by decide) (fun h95_2 => ?_) (fun h95_2 => ?_)
                          · skip
                            obtain rfl : j = 12 := by omega
                            have hb3 := hb2 _ hq3
                            refine g_sub [0, 1, 2, 3, 4] (L' := [(0, .ref (q.2.2 0)), (1, .int (nI x)), (2, .int (nI f)), (3, .int (nI 2)), (4, .int (nI i))]) rfl ?_
                            refine g_aload_n hC (gDec_at DX7_findBest_1 10 rfl) rfl ?_
                            refine g_get (w := wM q) hC 0 (v := .ref (q.2.2 3)) fl_X7_20 (show 0 < 17 from by decide) rfl rfl (gDec_at DX7_findBest_1 11 rfl) ?_
                            refine g_iload hC (gDec_at DX7_findBest_1 12 rfl) rfl ?_
                            refine g_dup2 hC (gDec_at DX7_findBest_1 13 rfl) rfl rfl ?_
                            refine g_iald (w := wM q) hC 3 0 i (x := (nI (B 1 i - 1))) (show 3 < 17 from by decide) rfl rfl (by omega) (by decide) (ha2 _ hq3) (gDec_at DX7_findBest_1 14 rfl) ?_
                            refine g_iconst hC (gDec_at DX7_findBest_1 15 rfl) (v := nI 1) (by decide) ?_
                            refine g_iaddN hC (gDec_at DX7_findBest_1 16 rfl) ?_
                            refine g_iast (w := wM q) hC 3 0 i (show 3 < 17 from by decide) rfl rfl rfl (by omega) (by decide) (gDec_at DX7_findBest_1 17 rfl) ?_
                            rw [show B 1 i - 1 + 1 = B 1 i by omega]
                            refine g_iincN hC (gDec_at DX7_findBest_1 18 rfl) rfl (by decide) (L' := [(4, .int (nI (i + 1))), (0, .ref (q.2.2 0)), (1, .int (nI x)), (2, .int (nI f)), (3, .int (nI 2))]) rfl ?_
                            refine g_goto hC (gDec_at DX7_findBest_1 19 rfl) 65 (by decide) ?_
                            refine g_sub [1, 2, 3, 4, 0] (L' := [(0, .ref (q.2.2 0)), (1, .int (nI x)), (2, .int (nI f)), (3, .int (nI 2)), (4, .int (nI (i + 1)))]) rfl ?_
                            have e9 : (mF2 (sPull B x) f B 0 (fun _ => 0) 0 (i + 1) (mF1 (sPull B x) f B 0 (fun _ => 0) 0 12 (mjd (sPull B x) f B 0 (fun _ => 0) (0, 0, (fun _ => 0))))) = (mF1 (sPull B x) f (dec B i) 1 (wyU (fun _ => 0) 0 i) i 12 (mF2 (sPull B x) f B 0 (fun _ => 0) 0 i (mF1 (sPull B x) f B 0 (fun _ => 0) 0 12 (mjd (sPull B x) f B 0 (fun _ => 0) (0, 0, (fun _ => 0)))))) := if_pos ⟨Nat.zero_le _, hl⟩
                            have h9 := ih_l65 (i + 1) (gupd M3 3 i (nI (B 1 i))) (by omega) (by omega) (mQ_tr hq1 hb3) (by rw [e9]; exact tS_back hT3)
                            exact h9
                          · skip
                            refine g_aload_n hC (gDec_at DX7_findBest_0 54 rfl) rfl ?_
                            refine g_iload hC (gDec_at DX7_findBest_0 55 rfl) rfl ?_
                            refine g_iconst hC (gDec_at DX7_findBest_0 56 rfl) (v := nI 1) (by decide) ?_
                            refine g_callVd (w := wM q) hC 0 (c_X7_lay_ok q hI3 (i := j) (n := 1) (by omega) (by omega) hk) vf_X7_lay ml_X7_191 (by decide) (show 0 < 17 from by decide) rfl rfl rfl rfl rfl (Nat.le_of_ble_eq_true rfl) (gDec_at DX7_findBest_0 57 rfl) ?_
                            have hI4 := lay_I hI3 (i := j) (t := 1) (y := nI j) hk.2
                            have hT4 := lay_T hT3 (i := j) (x := nI (dec B i 1 j - 1)) (by omega)
                            have hb4 := fun M5 (h : mQ (gupd (gupd M3 3 j (nI (dec B i 1 j - 1))) 15 1 (nI j)) M5) => mQ_back (mi_f1 hI3 (by omega) hk.1) h
                            have ha4 := fun M5 (h : mQ (gupd (gupd M3 3 j (nI (dec B i 1 j - 1))) 15 1 (nI j)) M5) => lay_at h
                            generalize hM4 : gupd (gupd M3 3 j (nI (dec B i 1 j - 1))) 15 1 (nI j) = M4 at hI4 hT4 hb4 ha4 ⊢
                            refine g_if_eqN hC (by decide) (gDec_at DX7_findBest_0 58 rfl) 126 (by decide) (fun h => absurd h (by decide)) (fun h => ?_)
                            refine g_aload_n hC (gDec_at DX7_findBest_0 59 rfl) rfl ?_
                            refine g_iload_n hC (gDec_at DX7_findBest_0 60 rfl) rfl ?_
                            refine g_iload_n hC (gDec_at DX7_findBest_0 61 rfl) rfl ?_
                            refine g_iconst hC (gDec_at DX7_findBest_0 62 rfl) (v := nI 2) (by decide) ?_
                            refine g_callV (w := wM q) hC (i := 0) (c_X7_weigh q hI4 (x := x) (f := f) (n := 2) hx hf (by omega) hT4) vf_X7_weigh ml_X7_187 (by decide) (show 0 < 17 from by decide) rfl rfl rfl rfl rfl (Nat.le_of_ble_eq_true rfl) (gDec_at DX7_findBest_0 63 rfl) (fun v_112 M_112 hq_112 => ?_)
                            obtain ⟨rfl, hT5, hq5⟩ := hq_112
                            have hb5 := hb4 _ hq5
                            refine g_aload_n hC (gDec_at DX7_findBest_1 0 rfl) rfl ?_
                            refine g_get (w := wM q) hC 0 (v := .ref (q.2.2 3)) fl_X7_20 (show 0 < 17 from by decide) rfl rfl (gDec_at DX7_findBest_1 1 rfl) ?_
                            refine g_iload hC (gDec_at DX7_findBest_1 2 rfl) rfl ?_
                            refine g_dup2 hC (gDec_at DX7_findBest_1 3 rfl) rfl rfl ?_
                            refine g_iald (w := wM q) hC 3 0 j (x := (nI (dec B i 1 j - 1))) (show 3 < 17 from by decide) rfl rfl (by omega) (by decide) (ha4 _ hq5) (gDec_at DX7_findBest_1 4 rfl) ?_
                            refine g_iconst hC (gDec_at DX7_findBest_1 5 rfl) (v := nI 1) (by decide) ?_
                            refine g_iaddN hC (gDec_at DX7_findBest_1 6 rfl) ?_
                            refine g_iast (w := wM q) hC 3 0 j (show 3 < 17 from by decide) rfl rfl rfl (by omega) (by decide) (gDec_at DX7_findBest_1 7 rfl) ?_
                            rw [show dec B i 1 j - 1 + 1 = dec B i 1 j by omega]
                            refine g_iincN hC (gDec_at DX7_findBest_1 8 rfl) rfl (by decide) (L' := [(5, .int (nI (j + 1))), (0, .ref (q.2.2 0)), (1, .int (nI x)), (2, .int (nI f)), (3, .int (nI 2)), (4, .int (nI i))]) rfl ?_
                            refine g_goto hC (gDec_at DX7_findBest_1 9 rfl) 91 (by decide) ?_
                            refine g_sub [1, 2, 3, 4, 5, 0] (L' := [(0, .ref (q.2.2 0)), (1, .int (nI x)), (2, .int (nI f)), (3, .int (nI 2)), (4, .int (nI i)), (5, .int (nI (j + 1)))]) rfl ?_
                            have e9 : (mF1 (sPull B x) f (dec B i) 1 (wyU (fun _ => 0) 0 i) i (j + 1) (mF2 (sPull B x) f B 0 (fun _ => 0) 0 i (mF1 (sPull B x) f B 0 (fun _ => 0) 0 12 (mjd (sPull B x) f B 0 (fun _ => 0) (0, 0, (fun _ => 0)))))) = mjd (sPull B x) f (dec (dec B i) j) 2 (wyU (wyU (fun _ => 0) 0 i) 1 j) (mF1 (sPull B x) f (dec B i) 1 (wyU (fun _ => 0) 0 i) i j (mF2 (sPull B x) f B 0 (fun _ => 0) 0 i (mF1 (sPull B x) f B 0 (fun _ => 0) 0 12 (mjd (sPull B x) f B 0 (fun _ => 0) (0, 0, (fun _ => 0)))))) := if_pos ⟨hij, hk⟩
                            have h9 := ih_l91 (j + 1) (gupd M_112 3 j (nI (dec B i 1 j))) (by omega) (by omega) (mQ_tr hq3 hb5) (by rw [e9]; exact tS_back hT5) (by omega)
                            exact h9
                        · skip
                          refine g_iload hC (gDec_at DX7_findBest_0 51 rfl) rfl ?_
                          refine g_bipush hC (gDec_at DX7_findBest_0 52 rfl) (v := nI 12) (by decide) ?_
                          refine g_icmp_geN hC (by omega) (by omega) (gDec_at DX7_findBest_0 53 rfl) 132 (by decide) (fun h95_3 => ?_) (fun h95_3 => ?_)
                          · skip
                            obtain rfl : j = 12 := by omega
                            have hb3 := hb2 _ hq3
                            refine g_sub [0, 1, 2, 3, 4] (L' := [(0, .ref (q.2.2 0)), (1, .int (nI x)), (2, .int (nI f)), (3, .int (nI 2)), (4, .int (nI i))]) rfl ?_
                            refine g_aload_n hC (gDec_at DX7_findBest_1 10 rfl) rfl ?_
                            refine g_get (w := wM q) hC 0 (v := .ref (q.2.2 3)) fl_X7_20 (show 0 < 17 from by decide) rfl rfl (gDec_at DX7_findBest_1 11 rfl) ?_
                            refine g_iload hC (gDec_at DX7_findBest_1 12 rfl) rfl ?_
                            refine g_dup2 hC (gDec_at DX7_findBest_1 13 rfl) rfl rfl ?_
                            refine g_iald (w := wM q) hC 3 0 i (x := (nI (B 1 i - 1))) (show 3 < 17 from by decide) rfl rfl (by omega) (by decide) (ha2 _ hq3) (gDec_at DX7_findBest_1 14 rfl) ?_
                            refine g_iconst hC (gDec_at DX7_findBest_1 15 rfl) (v := nI 1) (by decide) ?_
                            refine g_iaddN hC (gDec_at DX7_findBest_1 16 rfl) ?_
                            refine g_iast (w := wM q) hC 3 0 i (show 3 < 17 from by decide) rfl rfl rfl (by omega) (by decide) (gDec_at DX7_findBest_1 17 rfl) ?_
                            rw [show B 1 i - 1 + 1 = B 1 i by omega]
                            refine g_iincN hC (gDec_at DX7_findBest_1 18 rfl) rfl (by decide) (L' := [(4, .int (nI (i + 1))), (0, .ref (q.2.2 0)), (1, .int (nI x)), (2, .int (nI f)), (3, .int (nI 2))]) rfl ?_
                            refine g_goto hC (gDec_at DX7_findBest_1 19 rfl) 65 (by decide) ?_
                            refine g_sub [1, 2, 3, 4, 0] (L' := [(0, .ref (q.2.2 0)), (1, .int (nI x)), (2, .int (nI f)), (3, .int (nI 2)), (4, .int (nI (i + 1)))]) rfl ?_
                            have e9 : (mF2 (sPull B x) f B 0 (fun _ => 0) 0 (i + 1) (mF1 (sPull B x) f B 0 (fun _ => 0) 0 12 (mjd (sPull B x) f B 0 (fun _ => 0) (0, 0, (fun _ => 0))))) = (mF1 (sPull B x) f (dec B i) 1 (wyU (fun _ => 0) 0 i) i 12 (mF2 (sPull B x) f B 0 (fun _ => 0) 0 i (mF1 (sPull B x) f B 0 (fun _ => 0) 0 12 (mjd (sPull B x) f B 0 (fun _ => 0) (0, 0, (fun _ => 0)))))) := if_pos ⟨Nat.zero_le _, hl⟩
                            have h9 := ih_l65 (i + 1) (gupd M3 3 i (nI (B 1 i))) (by omega) (by omega) (mQ_tr hq1 hb3) (by rw [e9]; exact tS_back hT3)
                            exact h9
                          · skip
                            refine g_aload_n hC (gDec_at DX7_findBest_0 54 rfl) rfl ?_
                            refine g_iload hC (gDec_at DX7_findBest_0 55 rfl) rfl ?_
                            refine g_iconst hC (gDec_at DX7_findBest_0 56 rfl) (v := nI 1) (by decide) ?_
                            refine g_callVd (w := wM q) hC 0 (c_X7_lay_no q hI3 (i := j) (n := 1) (by omega) hk) vf_X7_lay ml_X7_191 (by decide) (show 0 < 17 from by decide) rfl rfl rfl rfl rfl (Nat.le_of_ble_eq_true rfl) (gDec_at DX7_findBest_0 57 rfl) ?_
                            refine g_if_eqN hC (by decide) (gDec_at DX7_findBest_0 58 rfl) 126 (by decide) (fun h => ?_) (fun h => absurd h (by decide))
                            refine g_iincN hC (gDec_at DX7_findBest_1 8 rfl) rfl (by decide) (L' := [(5, .int (nI (j + 1))), (0, .ref (q.2.2 0)), (1, .int (nI x)), (2, .int (nI f)), (3, .int (nI 2)), (4, .int (nI i))]) rfl ?_
                            refine g_goto hC (gDec_at DX7_findBest_1 9 rfl) 91 (by decide) ?_
                            refine g_sub [1, 2, 3, 4, 5, 0] (L' := [(0, .ref (q.2.2 0)), (1, .int (nI x)), (2, .int (nI f)), (3, .int (nI 2)), (4, .int (nI i)), (5, .int (nI (j + 1)))]) rfl ?_
                            have e9 : (mF1 (sPull B x) f (dec B i) 1 (wyU (fun _ => 0) 0 i) i (j + 1) (mF2 (sPull B x) f B 0 (fun _ => 0) 0 i (mF1 (sPull B x) f B 0 (fun _ => 0) 0 12 (mjd (sPull B x) f B 0 (fun _ => 0) (0, 0, (fun _ => 0)))))) = (mF1 (sPull B x) f (dec B i) 1 (wyU (fun _ => 0) 0 i) i j (mF2 (sPull B x) f B 0 (fun _ => 0) 0 i (mF1 (sPull B x) f B 0 (fun _ => 0) 0 12 (mjd (sPull B x) f B 0 (fun _ => 0) (0, 0, (fun _ => 0)))))) := if_neg (fun z => hk z.2)
                            have h9 := ih_l91 (j + 1) M3 (by omega) (by omega) (hq3) (by rw [e9]; exact hT3) (by omega)
                            exact h9
                    exact g_sub [1, 2, 3, 4, 5, 0] rfl (l91 (12 + 1 - i) i M2 (by omega) (by omega) mQ_rf (by rw [mF1_lo]; exact hT2) (by omega))
              · skip
                refine g_iload hC (gDec_at DX7_findBest_0 38 rfl) rfl ?_
                refine g_bipush hC (gDec_at DX7_findBest_0 39 rfl) (v := nI 12) (by decide) ?_
                refine g_icmp_geN hC (by omega) (by omega) (gDec_at DX7_findBest_0 40 rfl) 149 (by decide) (fun h69_3 => ?_) (fun h69_3 => ?_)
                · skip
                  obtain rfl : i = 12 := by omega
                  refine g_iconst hC (gDec_at DX7_findBest_1 20 rfl) (v := nI 0) (by decide) ?_
                  refine g_istore hC (gDec_at DX7_findBest_1 21 rfl) (by decide) (L' := [(4, .int (nI 0)), (0, .ref (q.2.2 0)), (1, .int (nI x)), (2, .int (nI f)), (3, .int (nI 2))]) rfl ?_
                  refine g_iload hC (gDec_at DX7_findBest_1 22 rfl) rfl ?_
                  refine g_bipush hC (gDec_at DX7_findBest_1 23 rfl) (v := nI 12) (by decide) ?_
                  refine g_icmp_geN hC (by omega) (by omega) (gDec_at DX7_findBest_1 24 rfl) 199 (by decide) (fun h156_3 => ?_) (fun h156_3 => ?_)
                  · skip
                    exact absurd h156_3 (by omega)
                  · skip
                    refine g_iload_n hC (gDec_at DX7_findBest_1 25 rfl) rfl ?_
                    refine g_iconst hC (gDec_at DX7_findBest_1 26 rfl) (v := nI 2) (by decide) ?_
                    refine g_icmp_leN hC (by omega) (by omega) (gDec_at DX7_findBest_1 27 rfl) 199 (by decide) (fun h161_3 => ?_) (fun h161_3 => ?_)
                    · skip
                      refine g_vret hC (gDec_at DX7_findBest_1 48 rfl) ?_
                      exact ⟨rfl, hT1, hq1⟩
                    · skip
                      exact absurd h161_3 (by omega)
                · skip
                  refine g_iload_n hC (gDec_at DX7_findBest_0 41 rfl) rfl ?_
                  refine g_iconst hC (gDec_at DX7_findBest_0 42 rfl) (v := nI 1) (by decide) ?_
                  refine g_icmp_leN hC (by omega) (by omega) (gDec_at DX7_findBest_0 43 rfl) 149 (by decide) (fun h74_3 => ?_) (fun h74_3 => ?_)
                  · skip
                    exact absurd h74_3 (by omega)
                  · skip
                    refine g_aload_n hC (gDec_at DX7_findBest_0 44 rfl) rfl ?_
                    refine g_iload hC (gDec_at DX7_findBest_0 45 rfl) rfl ?_
                    refine g_iconst hC (gDec_at DX7_findBest_0 46 rfl) (v := nI 0) (by decide) ?_
                    refine g_callVd (w := wM q) hC 0 (c_X7_lay_no q hI1 (i := i) (n := 0) (by omega) hl) vf_X7_lay ml_X7_191 (by decide) (show 0 < 17 from by decide) rfl rfl rfl rfl rfl (Nat.le_of_ble_eq_true rfl) (gDec_at DX7_findBest_0 47 rfl) ?_
                    refine g_if_eqN hC (by decide) (gDec_at DX7_findBest_0 48 rfl) 143 (by decide) (fun h => ?_) (fun h => absurd h (by decide))
                    refine g_iincN hC (gDec_at DX7_findBest_1 18 rfl) rfl (by decide) (L' := [(4, .int (nI (i + 1))), (0, .ref (q.2.2 0)), (1, .int (nI x)), (2, .int (nI f)), (3, .int (nI 2))]) rfl ?_
                    refine g_goto hC (gDec_at DX7_findBest_1 19 rfl) 65 (by decide) ?_
                    refine g_sub [1, 2, 3, 4, 0] (L' := [(0, .ref (q.2.2 0)), (1, .int (nI x)), (2, .int (nI f)), (3, .int (nI 2)), (4, .int (nI (i + 1)))]) rfl ?_
                    have e9 : (mF2 (sPull B x) f B 0 (fun _ => 0) 0 (i + 1) (mF1 (sPull B x) f B 0 (fun _ => 0) 0 12 (mjd (sPull B x) f B 0 (fun _ => 0) (0, 0, (fun _ => 0))))) = (mF2 (sPull B x) f B 0 (fun _ => 0) 0 i (mF1 (sPull B x) f B 0 (fun _ => 0) 0 12 (mjd (sPull B x) f B 0 (fun _ => 0) (0, 0, (fun _ => 0))))) := if_neg (fun z => hl z.2)
                    have h9 := ih_l65 (i + 1) M1 (by omega) (by omega) (hq1) (by rw [e9]; exact hT1)
                    exact h9
          exact g_sub [1, 2, 3, 4, 0] rfl (l65 (12 + 1 - 0) 0 _ (by omega) (by omega) hq1 hT1)
        · skip
          refine g_aload_n hC (gDec_at DX7_findBest_0 16 rfl) rfl ?_
          refine g_iload hC (gDec_at DX7_findBest_0 17 rfl) rfl ?_
          refine g_iconst hC (gDec_at DX7_findBest_0 18 rfl) (v := nI 0) (by decide) ?_
          refine g_callVd (w := wM q) hC 0 (c_X7_lay_no q hI1 (i := i) (n := 0) (by omega) hl) vf_X7_lay ml_X7_191 (by decide) (show 0 < 17 from by decide) rfl rfl rfl rfl rfl (Nat.le_of_ble_eq_true rfl) (gDec_at DX7_findBest_0 19 rfl) ?_
          refine g_if_eqN hC (by decide) (gDec_at DX7_findBest_0 20 rfl) 56 (by decide) (fun h => ?_) (fun h => absurd h (by decide))
          refine g_iincN hC (gDec_at DX7_findBest_0 34 rfl) rfl (by decide) (L' := [(4, .int (nI (i + 1))), (0, .ref (q.2.2 0)), (1, .int (nI x)), (2, .int (nI f)), (3, .int (nI 2))]) rfl ?_
          refine g_goto hC (gDec_at DX7_findBest_0 35 rfl) 21 (by decide) ?_
          refine g_sub [1, 2, 3, 4, 0] (L' := [(0, .ref (q.2.2 0)), (1, .int (nI x)), (2, .int (nI f)), (3, .int (nI 2)), (4, .int (nI (i + 1)))]) rfl ?_
          have e9 : (mF1 (sPull B x) f B 0 (fun _ => 0) 0 (i + 1) (mjd (sPull B x) f B 0 (fun _ => 0) (0, 0, (fun _ => 0)))) = (mF1 (sPull B x) f B 0 (fun _ => 0) 0 i (mjd (sPull B x) f B 0 (fun _ => 0) (0, 0, (fun _ => 0)))) := if_neg (fun z => hl z.2)
          have h9 := ih_l21 (i + 1) M1 (by omega) (by omega) (hq1) (by rw [e9]; exact hT1)
          exact h9
  exact g_sub [1, 2, 3, 4, 0] rfl (l21 (12 + 1 - 0) 0 _ (by omega) (by omega) (mQ_tr hq0 hq6) hT6)

set_option maxRecDepth 100000 in
set_option maxHeartbeats 4000000 in
theorem c_X7_findBest_3 (q : gQ3) {M : gM} {B : gB} (hI : mI M B) {x f : Nat} (hx : x ≤ 40) (hf : f ≤ 999) : gCt (wM q) yX7_findBest cX7_findBest 6 none 9 [.ref (q.2.2 0), .int (nI x), .int (nI f), .int (nI 3)] M (fun v M' => v = none ∧ tS M' 0 (fun _ => 0) (mF3 (sPull B x) f B 0 (fun _ => 0) 0 12 (mF2 (sPull B x) f B 0 (fun _ => 0) 0 12 (mF1 (sPull B x) f B 0 (fun _ => 0) 0 12 (mjd (sPull B x) f B 0 (fun _ => 0) (0, 0, (fun _ => 0)))))) ∧ mQ M M') := by
  refine gMet RX7 (by decide +kernel) rfl (Nat.le_of_ble_eq_true rfl) (fun X hC => ?_)
  have hC : gC X (wM q) cX7_findBest 6 RX7 none 9 := hC
  show gG X (wM q) _ 6 M 0 [(0, .ref (q.2.2 0)), (1, .int (nI x)), (2, .int (nI f)), (3, .int (nI 3))] []
  refine g_aload_n hC (gDec_at DX7_findBest_0 0 rfl) rfl ?_
  refine g_bipush hC (gDec_at DX7_findBest_0 1 rfl) (v := -9) (by decide) ?_
  refine g_putI (w := wM q) hC 0 fl_X7_181 fp_7_19 (show 0 < 17 from by decide) rfl (Nat.le_of_ble_eq_true rfl) rfl rfl (gDec_at DX7_findBest_0 2 rfl) ?_
  refine g_aload_n hC (gDec_at DX7_findBest_0 3 rfl) rfl ?_
  refine g_iconst hC (gDec_at DX7_findBest_0 4 rfl) (v := nI 0) (by decide) ?_
  refine g_putI (w := wM q) hC 0 fl_X7_184 fp_7_20 (show 0 < 17 from by decide) rfl (Nat.le_of_ble_eq_true rfl) rfl rfl (gDec_at DX7_findBest_0 5 rfl) ?_
  have hq0 : mQ M (gupd (gupd M 0 19 (-9)) 0 20 (nI 0)) := mQ_0 (mQ_0 mQ_rf (by omega)) (by omega)
  have hI0 := mI_Q hI hq0
  have hT0 : tS (gupd (gupd M 0 19 (-9)) 0 20 (nI 0)) 0 (fun _ => 0) (0, 0, (fun _ => 0)) := ⟨by rw [gupd_get, if_neg (by omega), gupd_get, if_pos ⟨rfl, rfl⟩]; rfl, by rw [gupd_get, if_pos ⟨rfl, rfl⟩], by show 0 ≤ 1001; omega, by show 0 ≤ 3; omega, fun i hi => absurd hi (Nat.not_lt_zero i), fun i hi => absurd hi (Nat.not_lt_zero i)⟩
  generalize hM0 : gupd (gupd M 0 19 (-9)) 0 20 (nI 0) = M0 at hq0 hI0 hT0 ⊢
  refine g_aload_n hC (gDec_at DX7_findBest_0 6 rfl) rfl ?_
  refine g_iload_n hC (gDec_at DX7_findBest_0 7 rfl) rfl ?_
  refine g_iload_n hC (gDec_at DX7_findBest_0 8 rfl) rfl ?_
  refine g_iconst hC (gDec_at DX7_findBest_0 9 rfl) (v := nI 0) (by decide) ?_
  refine g_callV (w := wM q) hC (i := 0) (c_X7_weigh q hI0 (x := x) (f := f) (n := 0) hx hf (by omega) hT0) vf_X7_weigh ml_X7_187 (by decide) (show 0 < 17 from by decide) rfl rfl rfl rfl rfl (Nat.le_of_ble_eq_true rfl) (gDec_at DX7_findBest_0 10 rfl) (fun v_15 M_15 hq_15 => ?_)
  obtain ⟨rfl, hT6, hq6⟩ := hq_15
  refine g_iconst hC (gDec_at DX7_findBest_0 11 rfl) (v := nI 0) (by decide) ?_
  refine g_istore hC (gDec_at DX7_findBest_0 12 rfl) (by decide) (L' := [(4, .int (nI 0)), (0, .ref (q.2.2 0)), (1, .int (nI x)), (2, .int (nI f)), (3, .int (nI 3))]) rfl ?_
  have l21 : ∀ (fu i : Nat) (M1 : gM), i ≤ 12 → 12 - i < fu → mQ M M1 → tS M1 0 (fun _ => 0) (mF1 (sPull B x) f B 0 (fun _ => 0) 0 i (mjd (sPull B x) f B 0 (fun _ => 0) (0, 0, (fun _ => 0)))) → gG X (wM q) (fun v M' => v = none ∧ tS M' 0 (fun _ => 0) (mF3 (sPull B x) f B 0 (fun _ => 0) 0 12 (mF2 (sPull B x) f B 0 (fun _ => 0) 0 12 (mF1 (sPull B x) f B 0 (fun _ => 0) 0 12 (mjd (sPull B x) f B 0 (fun _ => 0) (0, 0, (fun _ => 0)))))) ∧ mQ M M') 6 M1 21 [(0, .ref (q.2.2 0)), (1, .int (nI x)), (2, .int (nI f)), (3, .int (nI 3)), (4, .int (nI i))] [] := by
    intro fu; induction fu with
    | zero => intro i M1 h1 h2; omega
    | succ fu ih_l21 =>
      intro i M1 hi hfu hq1 hT1
      have hI1 := mI_Q hI hq1
      by_cases hl : i % 6 < B 9 0 ∧ 4 < B 1 i
      · skip
        refine g_iload hC (gDec_at DX7_findBest_0 13 rfl) rfl ?_
        refine g_bipush hC (gDec_at DX7_findBest_0 14 rfl) (v := nI 12) (by decide) ?_
        refine g_icmp_geN hC (by omega) (by omega) (gDec_at DX7_findBest_0 15 rfl) 62 (by decide) (fun h25 => ?_) (fun h25 => ?_)
        · skip
          obtain rfl : i = 12 := by omega
          refine g_iconst hC (gDec_at DX7_findBest_0 36 rfl) (v := nI 0) (by decide) ?_
          refine g_istore hC (gDec_at DX7_findBest_0 37 rfl) (by decide) (L' := [(4, .int (nI 0)), (0, .ref (q.2.2 0)), (1, .int (nI x)), (2, .int (nI f)), (3, .int (nI 3))]) rfl ?_
          have l65 : ∀ (fu i : Nat) (M1 : gM), i ≤ 12 → 12 - i < fu → mQ M M1 → tS M1 0 (fun _ => 0) (mF2 (sPull B x) f B 0 (fun _ => 0) 0 i (mF1 (sPull B x) f B 0 (fun _ => 0) 0 12 (mjd (sPull B x) f B 0 (fun _ => 0) (0, 0, (fun _ => 0))))) → gG X (wM q) (fun v M' => v = none ∧ tS M' 0 (fun _ => 0) (mF3 (sPull B x) f B 0 (fun _ => 0) 0 12 (mF2 (sPull B x) f B 0 (fun _ => 0) 0 12 (mF1 (sPull B x) f B 0 (fun _ => 0) 0 12 (mjd (sPull B x) f B 0 (fun _ => 0) (0, 0, (fun _ => 0)))))) ∧ mQ M M') 6 M1 65 [(0, .ref (q.2.2 0)), (1, .int (nI x)), (2, .int (nI f)), (3, .int (nI 3)), (4, .int (nI i))] [] := by
            intro fu; induction fu with
            | zero => intro i M1 h1 h2; omega
            | succ fu ih_l65 =>
              intro i M1 hi hfu hq1 hT1
              have hI1 := mI_Q hI hq1
              by_cases hl : i % 6 < B 9 0 ∧ 4 < B 1 i
              · skip
                refine g_iload hC (gDec_at DX7_findBest_0 38 rfl) rfl ?_
                refine g_bipush hC (gDec_at DX7_findBest_0 39 rfl) (v := nI 12) (by decide) ?_
                refine g_icmp_geN hC (by omega) (by omega) (gDec_at DX7_findBest_0 40 rfl) 149 (by decide) (fun h69 => ?_) (fun h69 => ?_)
                · skip
                  obtain rfl : i = 12 := by omega
                  refine g_iconst hC (gDec_at DX7_findBest_1 20 rfl) (v := nI 0) (by decide) ?_
                  refine g_istore hC (gDec_at DX7_findBest_1 21 rfl) (by decide) (L' := [(4, .int (nI 0)), (0, .ref (q.2.2 0)), (1, .int (nI x)), (2, .int (nI f)), (3, .int (nI 3))]) rfl ?_
                  have l152 : ∀ (fu i : Nat) (M1 : gM), i ≤ 12 → 12 - i < fu → mQ M M1 → tS M1 0 (fun _ => 0) (mF3 (sPull B x) f B 0 (fun _ => 0) 0 i (mF2 (sPull B x) f B 0 (fun _ => 0) 0 12 (mF1 (sPull B x) f B 0 (fun _ => 0) 0 12 (mjd (sPull B x) f B 0 (fun _ => 0) (0, 0, (fun _ => 0)))))) → gG X (wM q) (fun v M' => v = none ∧ tS M' 0 (fun _ => 0) (mF3 (sPull B x) f B 0 (fun _ => 0) 0 12 (mF2 (sPull B x) f B 0 (fun _ => 0) 0 12 (mF1 (sPull B x) f B 0 (fun _ => 0) 0 12 (mjd (sPull B x) f B 0 (fun _ => 0) (0, 0, (fun _ => 0)))))) ∧ mQ M M') 6 M1 152 [(0, .ref (q.2.2 0)), (1, .int (nI x)), (2, .int (nI f)), (3, .int (nI 3)), (4, .int (nI i))] [] := by
                    intro fu; induction fu with
                    | zero => intro i M1 h1 h2; omega
                    | succ fu ih_l152 =>
                      intro i M1 hi hfu hq1 hT1
                      have hI1 := mI_Q hI hq1
                      by_cases hl : i % 6 < B 9 0 ∧ 4 < B 1 i
                      · skip
                        refine g_iload hC (gDec_at DX7_findBest_1 22 rfl) rfl ?_
                        refine g_bipush hC (gDec_at DX7_findBest_1 23 rfl) (v := nI 12) (by decide) ?_
                        refine g_icmp_geN hC (by omega) (by omega) (gDec_at DX7_findBest_1 24 rfl) 199 (by decide) (fun h156 => ?_) (fun h156 => ?_)
                        · skip
                          obtain rfl : i = 12 := by omega
                          refine g_vret hC (gDec_at DX7_findBest_1 48 rfl) ?_
                          exact ⟨rfl, hT1, hq1⟩
                        · skip
                          refine g_iload_n hC (gDec_at DX7_findBest_1 25 rfl) rfl ?_
                          refine g_iconst hC (gDec_at DX7_findBest_1 26 rfl) (v := nI 2) (by decide) ?_
                          refine g_icmp_leN hC (by omega) (by omega) (gDec_at DX7_findBest_1 27 rfl) 199 (by decide) (fun h161 => ?_) (fun h161 => ?_)
                          · skip
                            exact absurd h161 (by omega)
                          · skip
                            refine g_aload_n hC (gDec_at DX7_findBest_1 28 rfl) rfl ?_
                            refine g_iload hC (gDec_at DX7_findBest_1 29 rfl) rfl ?_
                            refine g_iconst hC (gDec_at DX7_findBest_1 30 rfl) (v := nI 0) (by decide) ?_
                            refine g_callVd (w := wM q) hC 0 (c_X7_lay_ok q hI1 (i := i) (n := 0) (by omega) (by omega) hl) vf_X7_lay ml_X7_191 (by decide) (show 0 < 17 from by decide) rfl rfl rfl rfl rfl (Nat.le_of_ble_eq_true rfl) (gDec_at DX7_findBest_1 31 rfl) ?_
                            have hI2 := lay_I hI1 (i := i) (t := 0) (y := nI i) hl.2
                            have hT2 := lay_T hT1 (i := i) (x := nI (B 1 i - 1)) (by omega)
                            have hb2 := fun M3 (h : mQ (gupd (gupd M1 3 i (nI (B 1 i - 1))) 15 0 (nI i)) M3) => mQ_back (mi_f1 hI1 (by omega) hl.1) h
                            have ha2 := fun M3 (h : mQ (gupd (gupd M1 3 i (nI (B 1 i - 1))) 15 0 (nI i)) M3) => lay_at h
                            generalize hM2 : gupd (gupd M1 3 i (nI (B 1 i - 1))) 15 0 (nI i) = M2 at hI2 hT2 hb2 ha2 ⊢
                            refine g_if_eqN hC (by decide) (gDec_at DX7_findBest_1 32 rfl) 193 (by decide) (fun h => absurd h (by decide)) (fun h => ?_)
                            refine g_aload_n hC (gDec_at DX7_findBest_1 33 rfl) rfl ?_
                            refine g_iload_n hC (gDec_at DX7_findBest_1 34 rfl) rfl ?_
                            refine g_iload_n hC (gDec_at DX7_findBest_1 35 rfl) rfl ?_
                            refine g_iload hC (gDec_at DX7_findBest_1 36 rfl) rfl ?_
                            refine g_callV (w := wM q) hC (i := 0) (c_X7_findThird q hI2 (x := x) (f := f) (a := i) hx hf (by omega) (wy := wyU (fun _ => 0) 0 i) hT2) vf_X7_findThird ml_X7_194 (by decide) (show 0 < 17 from by decide) rfl rfl rfl rfl rfl (Nat.le_of_ble_eq_true rfl) (gDec_at DX7_findBest_1 37 rfl) (fun v_179 M_179 hq_179 => ?_)
                            obtain ⟨rfl, hT5, hq5⟩ := hq_179
                            have hb5 := hb2 _ hq5
                            refine g_aload_n hC (gDec_at DX7_findBest_1 38 rfl) rfl ?_
                            refine g_get (w := wM q) hC 0 (v := .ref (q.2.2 3)) fl_X7_20 (show 0 < 17 from by decide) rfl rfl (gDec_at DX7_findBest_1 39 rfl) ?_
                            refine g_iload hC (gDec_at DX7_findBest_1 40 rfl) rfl ?_
                            refine g_dup2 hC (gDec_at DX7_findBest_1 41 rfl) rfl rfl ?_
                            refine g_iald (w := wM q) hC 3 0 i (x := (nI (B 1 i - 1))) (show 3 < 17 from by decide) rfl rfl (by omega) (by decide) (ha2 _ hq5) (gDec_at DX7_findBest_1 42 rfl) ?_
                            refine g_iconst hC (gDec_at DX7_findBest_1 43 rfl) (v := nI 1) (by decide) ?_
                            refine g_iaddN hC (gDec_at DX7_findBest_1 44 rfl) ?_
                            refine g_iast (w := wM q) hC 3 0 i (show 3 < 17 from by decide) rfl rfl rfl (by omega) (by decide) (gDec_at DX7_findBest_1 45 rfl) ?_
                            rw [show B 1 i - 1 + 1 = B 1 i by omega]
                            refine g_iincN hC (gDec_at DX7_findBest_1 46 rfl) rfl (by decide) (L' := [(4, .int (nI (i + 1))), (0, .ref (q.2.2 0)), (1, .int (nI x)), (2, .int (nI f)), (3, .int (nI 3))]) rfl ?_
                            refine g_goto hC (gDec_at DX7_findBest_1 47 rfl) 152 (by decide) ?_
                            refine g_sub [1, 2, 3, 4, 0] (L' := [(0, .ref (q.2.2 0)), (1, .int (nI x)), (2, .int (nI f)), (3, .int (nI 3)), (4, .int (nI (i + 1)))]) rfl ?_
                            have e9 : (mF3 (sPull B x) f B 0 (fun _ => 0) 0 (i + 1) (mF2 (sPull B x) f B 0 (fun _ => 0) 0 12 (mF1 (sPull B x) f B 0 (fun _ => 0) 0 12 (mjd (sPull B x) f B 0 (fun _ => 0) (0, 0, (fun _ => 0)))))) = mF2 (sPull B x) f (dec B i) 1 (wyU (fun _ => 0) 0 i) i 12 (mF3 (sPull B x) f B 0 (fun _ => 0) 0 i (mF2 (sPull B x) f B 0 (fun _ => 0) 0 12 (mF1 (sPull B x) f B 0 (fun _ => 0) 0 12 (mjd (sPull B x) f B 0 (fun _ => 0) (0, 0, (fun _ => 0)))))) := if_pos ⟨Nat.zero_le _, hl⟩
                            have h9 := ih_l152 (i + 1) (gupd M_179 3 i (nI (B 1 i))) (by omega) (by omega) (mQ_tr hq1 hb5) (by rw [e9]; exact tS_back hT5)
                            exact h9
                      · skip
                        refine g_iload hC (gDec_at DX7_findBest_1 22 rfl) rfl ?_
                        refine g_bipush hC (gDec_at DX7_findBest_1 23 rfl) (v := nI 12) (by decide) ?_
                        refine g_icmp_geN hC (by omega) (by omega) (gDec_at DX7_findBest_1 24 rfl) 199 (by decide) (fun h156_1 => ?_) (fun h156_1 => ?_)
                        · skip
                          obtain rfl : i = 12 := by omega
                          refine g_vret hC (gDec_at DX7_findBest_1 48 rfl) ?_
                          exact ⟨rfl, hT1, hq1⟩
                        · skip
                          refine g_iload_n hC (gDec_at DX7_findBest_1 25 rfl) rfl ?_
                          refine g_iconst hC (gDec_at DX7_findBest_1 26 rfl) (v := nI 2) (by decide) ?_
                          refine g_icmp_leN hC (by omega) (by omega) (gDec_at DX7_findBest_1 27 rfl) 199 (by decide) (fun h161_1 => ?_) (fun h161_1 => ?_)
                          · skip
                            exact absurd h161_1 (by omega)
                          · skip
                            refine g_aload_n hC (gDec_at DX7_findBest_1 28 rfl) rfl ?_
                            refine g_iload hC (gDec_at DX7_findBest_1 29 rfl) rfl ?_
                            refine g_iconst hC (gDec_at DX7_findBest_1 30 rfl) (v := nI 0) (by decide) ?_
                            refine g_callVd (w := wM q) hC 0 (c_X7_lay_no q hI1 (i := i) (n := 0) (by omega) hl) vf_X7_lay ml_X7_191 (by decide) (show 0 < 17 from by decide) rfl rfl rfl rfl rfl (Nat.le_of_ble_eq_true rfl) (gDec_at DX7_findBest_1 31 rfl) ?_
                            refine g_if_eqN hC (by decide) (gDec_at DX7_findBest_1 32 rfl) 193 (by decide) (fun h => ?_) (fun h => absurd h (by decide))
                            refine g_iincN hC (gDec_at DX7_findBest_1 46 rfl) rfl (by decide) (L' := [(4, .int (nI (i + 1))), (0, .ref (q.2.2 0)), (1, .int (nI x)), (2, .int (nI f)), (3, .int (nI 3))]) rfl ?_
                            refine g_goto hC (gDec_at DX7_findBest_1 47 rfl) 152 (by decide) ?_
                            refine g_sub [1, 2, 3, 4, 0] (L' := [(0, .ref (q.2.2 0)), (1, .int (nI x)), (2, .int (nI f)), (3, .int (nI 3)), (4, .int (nI (i + 1)))]) rfl ?_
                            have e9 : (mF3 (sPull B x) f B 0 (fun _ => 0) 0 (i + 1) (mF2 (sPull B x) f B 0 (fun _ => 0) 0 12 (mF1 (sPull B x) f B 0 (fun _ => 0) 0 12 (mjd (sPull B x) f B 0 (fun _ => 0) (0, 0, (fun _ => 0)))))) = (mF3 (sPull B x) f B 0 (fun _ => 0) 0 i (mF2 (sPull B x) f B 0 (fun _ => 0) 0 12 (mF1 (sPull B x) f B 0 (fun _ => 0) 0 12 (mjd (sPull B x) f B 0 (fun _ => 0) (0, 0, (fun _ => 0)))))) := if_neg (fun z => hl z.2)
                            have h9 := ih_l152 (i + 1) M1 (by omega) (by omega) (hq1) (by rw [e9]; exact hT1)
                            exact h9
                  exact g_sub [1, 2, 3, 4, 0] rfl (l152 (12 + 1 - 0) 0 _ (by omega) (by omega) hq1 hT1)
                · skip
                  refine g_iload_n hC (gDec_at DX7_findBest_0 41 rfl) rfl ?_
                  refine g_iconst hC (gDec_at DX7_findBest_0 42 rfl) (v := nI 1) (by decide) ?_
                  refine g_icmp_leN hC (by omega) (by omega) (gDec_at DX7_findBest_0 43 rfl) 149 (by decide) (fun h74 => ?_) (fun h74 => ?_)
                  · skip
                    exact absurd h74 (by omega)
                  · skip
                    refine g_aload_n hC (gDec_at DX7_findBest_0 44 rfl) rfl ?_
                    refine g_iload hC (gDec_at DX7_findBest_0 45 rfl) rfl ?_
                    refine g_iconst hC (gDec_at DX7_findBest_0 46 rfl) (v := nI 0) (by decide) ?_
                    refine g_callVd (w := wM q) hC 0 (c_X7_lay_ok q hI1 (i := i) (n := 0) (by omega) (by omega) hl) vf_X7_lay ml_X7_191 (by decide) (show 0 < 17 from by decide) rfl rfl rfl rfl rfl (Nat.le_of_ble_eq_true rfl) (gDec_at DX7_findBest_0 47 rfl) ?_
                    have hI2 := lay_I hI1 (i := i) (t := 0) (y := nI i) hl.2
                    have hT2 := lay_T hT1 (i := i) (x := nI (B 1 i - 1)) (by omega)
                    have hb2 := fun M3 (h : mQ (gupd (gupd M1 3 i (nI (B 1 i - 1))) 15 0 (nI i)) M3) => mQ_back (mi_f1 hI1 (by omega) hl.1) h
                    have ha2 := fun M3 (h : mQ (gupd (gupd M1 3 i (nI (B 1 i - 1))) 15 0 (nI i)) M3) => lay_at h
                    generalize hM2 : gupd (gupd M1 3 i (nI (B 1 i - 1))) 15 0 (nI i) = M2 at hI2 hT2 hb2 ha2 ⊢
                    refine g_if_eqN hC (by decide) (gDec_at DX7_findBest_0 48 rfl) 143 (by decide) (fun h => absurd h (by decide)) (fun h => ?_)
                    refine g_iload hC (gDec_at DX7_findBest_0 49 rfl) rfl ?_
                    refine g_istore hC (gDec_at DX7_findBest_0 50 rfl) (by decide) (L' := [(5, .int (nI i)), (0, .ref (q.2.2 0)), (1, .int (nI x)), (2, .int (nI f)), (3, .int (nI 3)), (4, .int (nI i))]) rfl ?_
                    have l91 : ∀ (fu j : Nat) (M3 : gM), j ≤ 12 → 12 - j < fu → mQ M2 M3 → tS M3 1 (wyU (fun _ => 0) 0 i) (mF1 (sPull B x) f (dec B i) 1 (wyU (fun _ => 0) 0 i) i j (mF2 (sPull B x) f B 0 (fun _ => 0) 0 i (mF1 (sPull B x) f B 0 (fun _ => 0) 0 12 (mjd (sPull B x) f B 0 (fun _ => 0) (0, 0, (fun _ => 0)))))) → i ≤ j → gG X (wM q) (fun v M' => v = none ∧ tS M' 0 (fun _ => 0) (mF3 (sPull B x) f B 0 (fun _ => 0) 0 12 (mF2 (sPull B x) f B 0 (fun _ => 0) 0 12 (mF1 (sPull B x) f B 0 (fun _ => 0) 0 12 (mjd (sPull B x) f B 0 (fun _ => 0) (0, 0, (fun _ => 0)))))) ∧ mQ M M') 6 M3 91 [(0, .ref (q.2.2 0)), (1, .int (nI x)), (2, .int (nI f)), (3, .int (nI 3)), (4, .int (nI i)), (5, .int (nI j))] [] := by
                      intro fu; induction fu with
                      | zero => intro j M3 h1 h2; omega
                      | succ fu ih_l91 =>
                        intro j M3 hj12 hfu hq3 hT3 hij
                        have hI3 := mI_Q hI2 hq3
                        by_cases hk : j % 6 < dec B i 9 0 ∧ 4 < dec B i 1 j
                        · skip
                          refine g_iload hC (gDec_at DX7_findBest_0 51 rfl) rfl ?_
                          refine g_bipush hC (gDec_at DX7_findBest_0 52 rfl) (v := nI 12) (by decide) ?_
                          refine g_icmp_geN hC (by omega) (by omega) (gDec_at DX7_findBest_0 53 rfl) 132 (by decide) (fun h95 => ?_) (fun h95 => ?_)
                          · skip
                            obtain rfl : j = 12 := by omega
                            have hb3 := hb2 _ hq3
                            refine g_sub [0, 1, 2, 3, 4] (L' := [(0, .ref (q.2.2 0)), (1, .int (nI x)), (2, .int (nI f)), (3, .int (nI 3)), (4, .int (nI i))]) rfl ?_
                            refine g_aload_n hC (gDec_at DX7_findBest_1 10 rfl) rfl ?_
                            refine g_get (w := wM q) hC 0 (v := .ref (q.2.2 3)) fl_X7_20 (show 0 < 17 from by decide) rfl rfl (gDec_at DX7_findBest_1 11 rfl) ?_
                            refine g_iload hC (gDec_at DX7_findBest_1 12 rfl) rfl ?_
                            refine g_dup2 hC (gDec_at DX7_findBest_1 13 rfl) rfl rfl ?_
                            refine g_iald (w := wM q) hC 3 0 i (x := (nI (B 1 i - 1))) (show 3 < 17 from by decide) rfl rfl (by omega) (by decide) (ha2 _ hq3) (gDec_at DX7_findBest_1 14 rfl) ?_
                            refine g_iconst hC (gDec_at DX7_findBest_1 15 rfl) (v := nI 1) (by decide) ?_
                            refine g_iaddN hC (gDec_at DX7_findBest_1 16 rfl) ?_
                            refine g_iast (w := wM q) hC 3 0 i (show 3 < 17 from by decide) rfl rfl rfl (by omega) (by decide) (gDec_at DX7_findBest_1 17 rfl) ?_
                            rw [show B 1 i - 1 + 1 = B 1 i by omega]
                            refine g_iincN hC (gDec_at DX7_findBest_1 18 rfl) rfl (by decide) (L' := [(4, .int (nI (i + 1))), (0, .ref (q.2.2 0)), (1, .int (nI x)), (2, .int (nI f)), (3, .int (nI 3))]) rfl ?_
                            refine g_goto hC (gDec_at DX7_findBest_1 19 rfl) 65 (by decide) ?_
                            refine g_sub [1, 2, 3, 4, 0] (L' := [(0, .ref (q.2.2 0)), (1, .int (nI x)), (2, .int (nI f)), (3, .int (nI 3)), (4, .int (nI (i + 1)))]) rfl ?_
                            have e9 : (mF2 (sPull B x) f B 0 (fun _ => 0) 0 (i + 1) (mF1 (sPull B x) f B 0 (fun _ => 0) 0 12 (mjd (sPull B x) f B 0 (fun _ => 0) (0, 0, (fun _ => 0))))) = (mF1 (sPull B x) f (dec B i) 1 (wyU (fun _ => 0) 0 i) i 12 (mF2 (sPull B x) f B 0 (fun _ => 0) 0 i (mF1 (sPull B x) f B 0 (fun _ => 0) 0 12 (mjd (sPull B x) f B 0 (fun _ => 0) (0, 0, (fun _ => 0)))))) := if_pos ⟨Nat.zero_le _, hl⟩
                            have h9 := ih_l65 (i + 1) (gupd M3 3 i (nI (B 1 i))) (by omega) (by omega) (mQ_tr hq1 hb3) (by rw [e9]; exact tS_back hT3)
                            exact h9
                          · skip
                            refine g_aload_n hC (gDec_at DX7_findBest_0 54 rfl) rfl ?_
                            refine g_iload hC (gDec_at DX7_findBest_0 55 rfl) rfl ?_
                            refine g_iconst hC (gDec_at DX7_findBest_0 56 rfl) (v := nI 1) (by decide) ?_
                            refine g_callVd (w := wM q) hC 0 (c_X7_lay_ok q hI3 (i := j) (n := 1) (by omega) (by omega) hk) vf_X7_lay ml_X7_191 (by decide) (show 0 < 17 from by decide) rfl rfl rfl rfl rfl (Nat.le_of_ble_eq_true rfl) (gDec_at DX7_findBest_0 57 rfl) ?_
                            have hI4 := lay_I hI3 (i := j) (t := 1) (y := nI j) hk.2
                            have hT4 := lay_T hT3 (i := j) (x := nI (dec B i 1 j - 1)) (by omega)
                            have hb4 := fun M5 (h : mQ (gupd (gupd M3 3 j (nI (dec B i 1 j - 1))) 15 1 (nI j)) M5) => mQ_back (mi_f1 hI3 (by omega) hk.1) h
                            have ha4 := fun M5 (h : mQ (gupd (gupd M3 3 j (nI (dec B i 1 j - 1))) 15 1 (nI j)) M5) => lay_at h
                            generalize hM4 : gupd (gupd M3 3 j (nI (dec B i 1 j - 1))) 15 1 (nI j) = M4 at hI4 hT4 hb4 ha4 ⊢
                            refine g_if_eqN hC (by decide) (gDec_at DX7_findBest_0 58 rfl) 126 (by decide) (fun h => absurd h (by decide)) (fun h => ?_)
                            refine g_aload_n hC (gDec_at DX7_findBest_0 59 rfl) rfl ?_
                            refine g_iload_n hC (gDec_at DX7_findBest_0 60 rfl) rfl ?_
                            refine g_iload_n hC (gDec_at DX7_findBest_0 61 rfl) rfl ?_
                            refine g_iconst hC (gDec_at DX7_findBest_0 62 rfl) (v := nI 2) (by decide) ?_
                            refine g_callV (w := wM q) hC (i := 0) (c_X7_weigh q hI4 (x := x) (f := f) (n := 2) hx hf (by omega) hT4) vf_X7_weigh ml_X7_187 (by decide) (show 0 < 17 from by decide) rfl rfl rfl rfl rfl (Nat.le_of_ble_eq_true rfl) (gDec_at DX7_findBest_0 63 rfl) (fun v_112 M_112 hq_112 => ?_)
                            obtain ⟨rfl, hT5, hq5⟩ := hq_112
                            have hb5 := hb4 _ hq5
                            refine g_aload_n hC (gDec_at DX7_findBest_1 0 rfl) rfl ?_
                            refine g_get (w := wM q) hC 0 (v := .ref (q.2.2 3)) fl_X7_20 (show 0 < 17 from by decide) rfl rfl (gDec_at DX7_findBest_1 1 rfl) ?_
                            refine g_iload hC (gDec_at DX7_findBest_1 2 rfl) rfl ?_
                            refine g_dup2 hC (gDec_at DX7_findBest_1 3 rfl) rfl rfl ?_
                            refine g_iald (w := wM q) hC 3 0 j (x := (nI (dec B i 1 j - 1))) (show 3 < 17 from by decide) rfl rfl (by omega) (by decide) (ha4 _ hq5) (gDec_at DX7_findBest_1 4 rfl) ?_
                            refine g_iconst hC (gDec_at DX7_findBest_1 5 rfl) (v := nI 1) (by decide) ?_
                            refine g_iaddN hC (gDec_at DX7_findBest_1 6 rfl) ?_
                            refine g_iast (w := wM q) hC 3 0 j (show 3 < 17 from by decide) rfl rfl rfl (by omega) (by decide) (gDec_at DX7_findBest_1 7 rfl) ?_
                            rw [show dec B i 1 j - 1 + 1 = dec B i 1 j by omega]
                            refine g_iincN hC (gDec_at DX7_findBest_1 8 rfl) rfl (by decide) (L' := [(5, .int (nI (j + 1))), (0, .ref (q.2.2 0)), (1, .int (nI x)), (2, .int (nI f)), (3, .int (nI 3)), (4, .int (nI i))]) rfl ?_
                            refine g_goto hC (gDec_at DX7_findBest_1 9 rfl) 91 (by decide) ?_
                            refine g_sub [1, 2, 3, 4, 5, 0] (L' := [(0, .ref (q.2.2 0)), (1, .int (nI x)), (2, .int (nI f)), (3, .int (nI 3)), (4, .int (nI i)), (5, .int (nI (j + 1)))]) rfl ?_
                            have e9 : (mF1 (sPull B x) f (dec B i) 1 (wyU (fun _ => 0) 0 i) i (j + 1) (mF2 (sPull B x) f B 0 (fun _ => 0) 0 i (mF1 (sPull B x) f B 0 (fun _ => 0) 0 12 (mjd (sPull B x) f B 0 (fun _ => 0) (0, 0, (fun _ => 0)))))) = mjd (sPull B x) f (dec (dec B i) j) 2 (wyU (wyU (fun _ => 0) 0 i) 1 j) (mF1 (sPull B x) f (dec B i) 1 (wyU (fun _ => 0) 0 i) i j (mF2 (sPull B x) f B 0 (fun _ => 0) 0 i (mF1 (sPull B x) f B 0 (fun _ => 0) 0 12 (mjd (sPull B x) f B 0 (fun _ => 0) (0, 0, (fun _ => 0)))))) := if_pos ⟨hij, hk⟩
                            have h9 := ih_l91 (j + 1) (gupd M_112 3 j (nI (dec B i 1 j))) (by omega) (by omega) (mQ_tr hq3 hb5) (by rw [e9]; exact tS_back hT5) (by omega)
                            exact h9
                        · skip
                          refine g_iload hC (gDec_at DX7_findBest_0 51 rfl) rfl ?_
                          refine g_bipush hC (gDec_at DX7_findBest_0 52 rfl) (v := nI 12) (by decide) ?_
                          refine g_icmp_geN hC (by omega) (by omega) (gDec_at DX7_findBest_0 53 rfl) 132 (by decide) (fun h95_1 => ?_) (fun h95_1 => ?_)
                          · skip
                            obtain rfl : j = 12 := by omega
                            have hb3 := hb2 _ hq3
                            refine g_sub [0, 1, 2, 3, 4] (L' := [(0, .ref (q.2.2 0)), (1, .int (nI x)), (2, .int (nI f)), (3, .int (nI 3)), (4, .int (nI i))]) rfl ?_
                            refine g_aload_n hC (gDec_at DX7_findBest_1 10 rfl) rfl ?_
                            refine g_get (w := wM q) hC 0 (v := .ref (q.2.2 3)) fl_X7_20 (show 0 < 17 from by decide) rfl rfl (gDec_at DX7_findBest_1 11 rfl) ?_
                            refine g_iload hC (gDec_at DX7_findBest_1 12 rfl) rfl ?_
                            refine g_dup2 hC (gDec_at DX7_findBest_1 13 rfl) rfl rfl ?_
                            refine g_iald (w := wM q) hC 3 0 i (x := (nI (B 1 i - 1))) (show 3 < 17 from by decide) rfl rfl (by omega) (by decide) (ha2 _ hq3) (gDec_at DX7_findBest_1 14 rfl) ?_
                            refine g_iconst hC (gDec_at DX7_findBest_1 15 rfl) (v := nI 1) (by decide) ?_
                            refine g_iaddN hC (gDec_at DX7_findBest_1 16 rfl) ?_
                            refine g_iast (w := wM q) hC 3 0 i (show 3 < 17 from by decide) rfl rfl rfl (by omega) (by decide) (gDec_at DX7_findBest_1 17 rfl) ?_
                            rw [show B 1 i - 1 + 1 = B 1 i by omega]
                            refine g_iincN hC (gDec_at DX7_findBest_1 18 rfl) rfl (by decide) (L' := [(4, .int (nI (i + 1))), (0, .ref (q.2.2 0)), (1, .int (nI x)), (2, .int (nI f)), (3, .int (nI 3))]) rfl ?_
                            refine g_goto hC (gDec_at DX7_findBest_1 19 rfl) 65 (by decide) ?_
                            refine g_sub [1, 2, 3, 4, 0] (L' := [(0, .ref (q.2.2 0)), (1, .int (nI x)), (2, .int (nI f)), (3, .int (nI 3)), (4, .int (nI (i + 1)))]) rfl ?_
                            have e9 : (mF2 (sPull B x) f B 0 (fun _ => 0) 0 (i + 1) (mF1 (sPull B x) f B 0 (fun _ => 0) 0 12 (mjd (sPull B x) f B 0 (fun _ => 0) (0, 0, (fun _ => 0))))) = (mF1 (sPull B x) f (dec B i) 1 (wyU (fun _ => 0) 0 i) i 12 (mF2 (sPull B x) f B 0 (fun _ => 0) 0 i (mF1 (sPull B x) f B 0 (fun _ => 0) 0 12 (mjd (sPull B x) f B 0 (fun _ => 0) (0, 0, (fun _ => 0)))))) := if_pos ⟨Nat.zero_le _, hl⟩
                            have h9 := ih_l65 (i + 1) (gupd M3 3 i (nI (B 1 i))) (by omega) (by omega) (mQ_tr hq1 hb3) (by rw [e9]; exact tS_back hT3)
                            exact h9
                          · skip
                            refine g_aload_n hC (gDec_at DX7_findBest_0 54 rfl) rfl ?_
                            refine g_iload hC (gDec_at DX7_findBest_0 55 rfl) rfl ?_
                            refine g_iconst hC (gDec_at DX7_findBest_0 56 rfl) (v := nI 1) (by decide) ?_
                            refine g_callVd (w := wM q) hC 0 (c_X7_lay_no q hI3 (i := j) (n := 1) (by omega) hk) vf_X7_lay ml_X7_191 (by decide) (show 0 < 17 from by decide) rfl rfl rfl rfl rfl (Nat.le_of_ble_eq_true rfl) (gDec_at DX7_findBest_0 57 rfl) ?_
                            refine g_if_eqN hC (by decide) (gDec_at DX7_findBest_0 58 rfl) 126 (by decide) (fun h => ?_) (fun h => absurd h (by decide))
                            refine g_iincN hC (gDec_at DX7_findBest_1 8 rfl) rfl (by decide) (L' := [(5, .int (nI (j + 1))), (0, .ref (q.2.2 0)), (1, .int (nI x)), (2, .int (nI f)), (3, .int (nI 3)), (4, .int (nI i))]) rfl ?_
                            refine g_goto hC (gDec_at DX7_findBest_1 9 rfl) 91 (by decide) ?_
                            refine g_sub [1, 2, 3, 4, 5, 0] (L' := [(0, .ref (q.2.2 0)), (1, .int (nI x)), (2, .int (nI f)), (3, .int (nI 3)), (4, .int (nI i)), (5, .int (nI (j + 1)))]) rfl ?_
                            have e9 : (mF1 (sPull B x) f (dec B i) 1 (wyU (fun _ => 0) 0 i) i (j + 1) (mF2 (sPull B x) f B 0 (fun _ => 0) 0 i (mF1 (sPull B x) f B 0 (fun _ => 0) 0 12 (mjd (sPull B x) f B 0 (fun _ => 0) (0, 0, (fun _ => 0)))))) = (mF1 (sPull B x) f (dec B i) 1 (wyU (fun _ => 0) 0 i) i j (mF2 (sPull B x) f B 0 (fun _ => 0) 0 i (mF1 (sPull B x) f B 0 (fun _ => 0) 0 12 (mjd (sPull B x) f B 0 (fun _ => 0) (0, 0, (fun _ => 0)))))) := if_neg (fun z => hk z.2)
                            have h9 := ih_l91 (j + 1) M3 (by omega) (by omega) (hq3) (by rw [e9]; exact hT3) (by omega)
                            exact h9
                    exact g_sub [1, 2, 3, 4, 5, 0] rfl (l91 (12 + 1 - i) i M2 (by omega) (by omega) mQ_rf (by rw [mF1_lo]; exact hT2) (by omega))
              · skip
                refine g_iload hC (gDec_at DX7_findBest_0 38 rfl) rfl ?_
                refine g_bipush hC (gDec_at DX7_findBest_0 39 rfl) (v := nI 12) (by decide) ?_
                refine g_icmp_geN hC (by omega) (by omega) (gDec_at DX7_findBest_0 40 rfl) 149 (by decide) (fun h69_1 => ?_) (fun h69_1 => ?_)
                · skip
                  obtain rfl : i = 12 := by omega
                  refine g_iconst hC (gDec_at DX7_findBest_1 20 rfl) (v := nI 0) (by decide) ?_
                  refine g_istore hC (gDec_at DX7_findBest_1 21 rfl) (by decide) (L' := [(4, .int (nI 0)), (0, .ref (q.2.2 0)), (1, .int (nI x)), (2, .int (nI f)), (3, .int (nI 3))]) rfl ?_
                  have l152 : ∀ (fu i : Nat) (M1 : gM), i ≤ 12 → 12 - i < fu → mQ M M1 → tS M1 0 (fun _ => 0) (mF3 (sPull B x) f B 0 (fun _ => 0) 0 i (mF2 (sPull B x) f B 0 (fun _ => 0) 0 12 (mF1 (sPull B x) f B 0 (fun _ => 0) 0 12 (mjd (sPull B x) f B 0 (fun _ => 0) (0, 0, (fun _ => 0)))))) → gG X (wM q) (fun v M' => v = none ∧ tS M' 0 (fun _ => 0) (mF3 (sPull B x) f B 0 (fun _ => 0) 0 12 (mF2 (sPull B x) f B 0 (fun _ => 0) 0 12 (mF1 (sPull B x) f B 0 (fun _ => 0) 0 12 (mjd (sPull B x) f B 0 (fun _ => 0) (0, 0, (fun _ => 0)))))) ∧ mQ M M') 6 M1 152 [(0, .ref (q.2.2 0)), (1, .int (nI x)), (2, .int (nI f)), (3, .int (nI 3)), (4, .int (nI i))] [] := by
                    intro fu; induction fu with
                    | zero => intro i M1 h1 h2; omega
                    | succ fu ih_l152 =>
                      intro i M1 hi hfu hq1 hT1
                      have hI1 := mI_Q hI hq1
                      by_cases hl : i % 6 < B 9 0 ∧ 4 < B 1 i
                      · skip
                        refine g_iload hC (gDec_at DX7_findBest_1 22 rfl) rfl ?_
                        refine g_bipush hC (gDec_at DX7_findBest_1 23 rfl) (v := nI 12) (by decide) ?_
                        refine g_icmp_geN hC (by omega) (by omega) (gDec_at DX7_findBest_1 24 rfl) 199 (by decide) (fun h156_2 => ?_) (fun h156_2 => ?_)
                        · skip
                          obtain rfl : i = 12 := by omega
                          refine g_vret hC (gDec_at DX7_findBest_1 48 rfl) ?_
                          exact ⟨rfl, hT1, hq1⟩
                        · skip
                          refine g_iload_n hC (gDec_at DX7_findBest_1 25 rfl) rfl ?_
                          refine g_iconst hC (gDec_at DX7_findBest_1 26 rfl) (v := nI 2) (by decide) ?_
                          refine g_icmp_leN hC (by omega) (by omega) (gDec_at DX7_findBest_1 27 rfl) 199 (by decide) (fun h161_2 => ?_) (fun h161_2 => ?_)
                          · skip
                            exact absurd h161_2 (by omega)
                          · skip
                            refine g_aload_n hC (gDec_at DX7_findBest_1 28 rfl) rfl ?_
                            refine g_iload hC (gDec_at DX7_findBest_1 29 rfl) rfl ?_
                            refine g_iconst hC (gDec_at DX7_findBest_1 30 rfl) (v := nI 0) (by decide) ?_
                            refine g_callVd (w := wM q) hC 0 (c_X7_lay_ok q hI1 (i := i) (n := 0) (by omega) (by omega) hl) vf_X7_lay ml_X7_191 (by decide) (show 0 < 17 from by decide) rfl rfl rfl rfl rfl (Nat.le_of_ble_eq_true rfl) (gDec_at DX7_findBest_1 31 rfl) ?_
                            have hI2 := lay_I hI1 (i := i) (t := 0) (y := nI i) hl.2
                            have hT2 := lay_T hT1 (i := i) (x := nI (B 1 i - 1)) (by omega)
                            have hb2 := fun M3 (h : mQ (gupd (gupd M1 3 i (nI (B 1 i - 1))) 15 0 (nI i)) M3) => mQ_back (mi_f1 hI1 (by omega) hl.1) h
                            have ha2 := fun M3 (h : mQ (gupd (gupd M1 3 i (nI (B 1 i - 1))) 15 0 (nI i)) M3) => lay_at h
                            generalize hM2 : gupd (gupd M1 3 i (nI (B 1 i - 1))) 15 0 (nI i) = M2 at hI2 hT2 hb2 ha2 ⊢
                            refine g_if_eqN hC (by decide) (gDec_at DX7_findBest_1 32 rfl) 193 (by decide) (fun h => absurd h (by decide)) (fun h => ?_)
                            refine g_aload_n hC (gDec_at DX7_findBest_1 33 rfl) rfl ?_
                            refine g_iload_n hC (gDec_at DX7_findBest_1 34 rfl) rfl ?_
                            refine g_iload_n hC (gDec_at DX7_findBest_1 35 rfl) rfl ?_
                            refine g_iload hC (gDec_at DX7_findBest_1 36 rfl) rfl ?_
                            refine g_callV (w := wM q) hC (i := 0) (c_X7_findThird q hI2 (x := x) (f := f) (a := i) hx hf (by omega) (wy := wyU (fun _ => 0) 0 i) hT2) vf_X7_findThird ml_X7_194 (by decide) (show 0 < 17 from by decide) rfl rfl rfl rfl rfl (Nat.le_of_ble_eq_true rfl) (gDec_at DX7_findBest_1 37 rfl) (fun v_179 M_179 hq_179 => ?_)
                            obtain ⟨rfl, hT5, hq5⟩ := hq_179
                            have hb5 := hb2 _ hq5
                            refine g_aload_n hC (gDec_at DX7_findBest_1 38 rfl) rfl ?_
                            refine g_get (w := wM q) hC 0 (v := .ref (q.2.2 3)) fl_X7_20 (show 0 < 17 from by decide) rfl rfl (gDec_at DX7_findBest_1 39 rfl) ?_
                            refine g_iload hC (gDec_at DX7_findBest_1 40 rfl) rfl ?_
                            refine g_dup2 hC (gDec_at DX7_findBest_1 41 rfl) rfl rfl ?_
                            refine g_iald (w := wM q) hC 3 0 i (x := (nI (B 1 i - 1))) (show 3 < 17 from by decide) rfl rfl (by omega) (by decide) (ha2 _ hq5) (gDec_at DX7_findBest_1 42 rfl) ?_
                            refine g_iconst hC (gDec_at DX7_findBest_1 43 rfl) (v := nI 1) (by decide) ?_
                            refine g_iaddN hC (gDec_at DX7_findBest_1 44 rfl) ?_
                            refine g_iast (w := wM q) hC 3 0 i (show 3 < 17 from by decide) rfl rfl rfl (by omega) (by decide) (gDec_at DX7_findBest_1 45 rfl) ?_
                            rw [show B 1 i - 1 + 1 = B 1 i by omega]
                            refine g_iincN hC (gDec_at DX7_findBest_1 46 rfl) rfl (by decide) (L' := [(4, .int (nI (i + 1))), (0, .ref (q.2.2 0)), (1, .int (nI x)), (2, .int (nI f)), (3, .int (nI 3))]) rfl ?_
                            refine g_goto hC (gDec_at DX7_findBest_1 47 rfl) 152 (by decide) ?_
                            refine g_sub [1, 2, 3, 4, 0] (L' := [(0, .ref (q.2.2 0)), (1, .int (nI x)), (2, .int (nI f)), (3, .int (nI 3)), (4, .int (nI (i + 1)))]) rfl ?_
                            have e9 : (mF3 (sPull B x) f B 0 (fun _ => 0) 0 (i + 1) (mF2 (sPull B x) f B 0 (fun _ => 0) 0 12 (mF1 (sPull B x) f B 0 (fun _ => 0) 0 12 (mjd (sPull B x) f B 0 (fun _ => 0) (0, 0, (fun _ => 0)))))) = mF2 (sPull B x) f (dec B i) 1 (wyU (fun _ => 0) 0 i) i 12 (mF3 (sPull B x) f B 0 (fun _ => 0) 0 i (mF2 (sPull B x) f B 0 (fun _ => 0) 0 12 (mF1 (sPull B x) f B 0 (fun _ => 0) 0 12 (mjd (sPull B x) f B 0 (fun _ => 0) (0, 0, (fun _ => 0)))))) := if_pos ⟨Nat.zero_le _, hl⟩
                            have h9 := ih_l152 (i + 1) (gupd M_179 3 i (nI (B 1 i))) (by omega) (by omega) (mQ_tr hq1 hb5) (by rw [e9]; exact tS_back hT5)
                            exact h9
                      · skip
                        refine g_iload hC (gDec_at DX7_findBest_1 22 rfl) rfl ?_
                        refine g_bipush hC (gDec_at DX7_findBest_1 23 rfl) (v := nI 12) (by decide) ?_
                        refine g_icmp_geN hC (by omega) (by omega) (gDec_at DX7_findBest_1 24 rfl) 199 (by decide) (fun h156_3 => ?_) (fun h156_3 => ?_)
                        · skip
                          obtain rfl : i = 12 := by omega
                          refine g_vret hC (gDec_at DX7_findBest_1 48 rfl) ?_
                          exact ⟨rfl, hT1, hq1⟩
                        · skip
                          refine g_iload_n hC (gDec_at DX7_findBest_1 25 rfl) rfl ?_
                          refine g_iconst hC (gDec_at DX7_findBest_1 26 rfl) (v := nI 2) (by decide) ?_
                          refine g_icmp_leN hC (by omega) (by omega) (gDec_at DX7_findBest_1 27 rfl) 199 (by decide) (fun h161_3 => ?_) (fun h161_3 => ?_)
                          · skip
                            exact absurd h161_3 (by omega)
                          · skip
                            refine g_aload_n hC (gDec_at DX7_findBest_1 28 rfl) rfl ?_
                            refine g_iload hC (gDec_at DX7_findBest_1 29 rfl) rfl ?_
                            refine g_iconst hC (gDec_at DX7_findBest_1 30 rfl) (v := nI 0) (by decide) ?_
                            refine g_callVd (w := wM q) hC 0 (c_X7_lay_no q hI1 (i := i) (n := 0) (by omega) hl) vf_X7_lay ml_X7_191 (by decide) (show 0 < 17 from by decide) rfl rfl rfl rfl rfl (Nat.le_of_ble_eq_true rfl) (gDec_at DX7_findBest_1 31 rfl) ?_
                            refine g_if_eqN hC (by decide) (gDec_at DX7_findBest_1 32 rfl) 193 (by decide) (fun h => ?_) (fun h => absurd h (by decide))
                            refine g_iincN hC (gDec_at DX7_findBest_1 46 rfl) rfl (by decide) (L' := [(4, .int (nI (i + 1))), (0, .ref (q.2.2 0)), (1, .int (nI x)), (2, .int (nI f)), (3, .int (nI 3))]) rfl ?_
                            refine g_goto hC (gDec_at DX7_findBest_1 47 rfl) 152 (by decide) ?_
                            refine g_sub [1, 2, 3, 4, 0] (L' := [(0, .ref (q.2.2 0)), (1, .int (nI x)), (2, .int (nI f)), (3, .int (nI 3)), (4, .int (nI (i + 1)))]) rfl ?_
                            have e9 : (mF3 (sPull B x) f B 0 (fun _ => 0) 0 (i + 1) (mF2 (sPull B x) f B 0 (fun _ => 0) 0 12 (mF1 (sPull B x) f B 0 (fun _ => 0) 0 12 (mjd (sPull B x) f B 0 (fun _ => 0) (0, 0, (fun _ => 0)))))) = (mF3 (sPull B x) f B 0 (fun _ => 0) 0 i (mF2 (sPull B x) f B 0 (fun _ => 0) 0 12 (mF1 (sPull B x) f B 0 (fun _ => 0) 0 12 (mjd (sPull B x) f B 0 (fun _ => 0) (0, 0, (fun _ => 0)))))) := if_neg (fun z => hl z.2)
                            have h9 := ih_l152 (i + 1) M1 (by omega) (by omega) (hq1) (by rw [e9]; exact hT1)
                            exact h9
                  exact g_sub [1, 2, 3, 4, 0] rfl (l152 (12 + 1 - 0) 0 _ (by omega) (by omega) hq1 hT1)
                · skip
                  refine g_iload_n hC (gDec_at DX7_findBest_0 41 rfl) rfl ?_
                  refine g_iconst hC (gDec_at DX7_findBest_0 42 rfl) (v := nI 1) (by decide) ?_
                  refine g_icmp_leN hC (by omega) (by omega) (gDec_at DX7_findBest_0 43 rfl) 149 (by decide) (fun h74_1 => ?_) (fun h74_1 => ?_)
                  · skip
                    exact absurd h74_1 (by omega)
                  · skip
                    refine g_aload_n hC (gDec_at DX7_findBest_0 44 rfl) rfl ?_
                    refine g_iload hC (gDec_at DX7_findBest_0 45 rfl) rfl ?_
                    refine g_iconst hC (gDec_at DX7_findBest_0 46 rfl) (v := nI 0) (by decide) ?_
                    refine g_callVd (w := wM q) hC 0 (c_X7_lay_no q hI1 (i := i) (n := 0) (by omega) hl) vf_X7_lay ml_X7_191 (by decide) (show 0 < 17 from by decide) rfl rfl rfl rfl rfl (Nat.le_of_ble_eq_true rfl) (gDec_at DX7_findBest_0 47 rfl) ?_
                    refine g_if_eqN hC (by decide) (gDec_at DX7_findBest_0 48 rfl) 143 (by decide) (fun h => ?_) (fun h => absurd h (by decide))
                    refine g_iincN hC (gDec_at DX7_findBest_1 18 rfl) rfl (by decide) (L' := [(4, .int (nI (i + 1))), (0, .ref (q.2.2 0)), (1, .int (nI x)), (2, .int (nI f)), (3, .int (nI 3))]) rfl ?_
                    refine g_goto hC (gDec_at DX7_findBest_1 19 rfl) 65 (by decide) ?_
                    refine g_sub [1, 2, 3, 4, 0] (L' := [(0, .ref (q.2.2 0)), (1, .int (nI x)), (2, .int (nI f)), (3, .int (nI 3)), (4, .int (nI (i + 1)))]) rfl ?_
                    have e9 : (mF2 (sPull B x) f B 0 (fun _ => 0) 0 (i + 1) (mF1 (sPull B x) f B 0 (fun _ => 0) 0 12 (mjd (sPull B x) f B 0 (fun _ => 0) (0, 0, (fun _ => 0))))) = (mF2 (sPull B x) f B 0 (fun _ => 0) 0 i (mF1 (sPull B x) f B 0 (fun _ => 0) 0 12 (mjd (sPull B x) f B 0 (fun _ => 0) (0, 0, (fun _ => 0))))) := if_neg (fun z => hl z.2)
                    have h9 := ih_l65 (i + 1) M1 (by omega) (by omega) (hq1) (by rw [e9]; exact hT1)
                    exact h9
          exact g_sub [1, 2, 3, 4, 0] rfl (l65 (12 + 1 - 0) 0 _ (by omega) (by omega) hq1 hT1)
        · skip
          refine g_aload_n hC (gDec_at DX7_findBest_0 16 rfl) rfl ?_
          refine g_iload hC (gDec_at DX7_findBest_0 17 rfl) rfl ?_
          refine g_iconst hC (gDec_at DX7_findBest_0 18 rfl) (v := nI 0) (by decide) ?_
          refine g_callVd (w := wM q) hC 0 (c_X7_lay_ok q hI1 (i := i) (n := 0) (by omega) (by omega) hl) vf_X7_lay ml_X7_191 (by decide) (show 0 < 17 from by decide) rfl rfl rfl rfl rfl (Nat.le_of_ble_eq_true rfl) (gDec_at DX7_findBest_0 19 rfl) ?_
          have hI2 := lay_I hI1 (i := i) (t := 0) (y := nI i) hl.2
          have hT2 := lay_T hT1 (i := i) (x := nI (B 1 i - 1)) (by omega)
          have hb2 := fun M3 (h : mQ (gupd (gupd M1 3 i (nI (B 1 i - 1))) 15 0 (nI i)) M3) => mQ_back (mi_f1 hI1 (by omega) hl.1) h
          have ha2 := fun M3 (h : mQ (gupd (gupd M1 3 i (nI (B 1 i - 1))) 15 0 (nI i)) M3) => lay_at h
          generalize hM2 : gupd (gupd M1 3 i (nI (B 1 i - 1))) 15 0 (nI i) = M2 at hI2 hT2 hb2 ha2 ⊢
          refine g_if_eqN hC (by decide) (gDec_at DX7_findBest_0 20 rfl) 56 (by decide) (fun h => absurd h (by decide)) (fun h => ?_)
          refine g_aload_n hC (gDec_at DX7_findBest_0 21 rfl) rfl ?_
          refine g_iload_n hC (gDec_at DX7_findBest_0 22 rfl) rfl ?_
          refine g_iload_n hC (gDec_at DX7_findBest_0 23 rfl) rfl ?_
          refine g_iconst hC (gDec_at DX7_findBest_0 24 rfl) (v := nI 1) (by decide) ?_
          refine g_callV (w := wM q) hC (i := 0) (c_X7_weigh q hI2 (x := x) (f := f) (n := 1) hx hf (by omega) hT2) vf_X7_weigh ml_X7_187 (by decide) (show 0 < 17 from by decide) rfl rfl rfl rfl rfl (Nat.le_of_ble_eq_true rfl) (gDec_at DX7_findBest_0 25 rfl) (fun v_42 M_42 hq_42 => ?_)
          obtain ⟨rfl, hT5, hq5⟩ := hq_42
          have hb5 := hb2 _ hq5
          refine g_aload_n hC (gDec_at DX7_findBest_0 26 rfl) rfl ?_
          refine g_get (w := wM q) hC 0 (v := .ref (q.2.2 3)) fl_X7_20 (show 0 < 17 from by decide) rfl rfl (gDec_at DX7_findBest_0 27 rfl) ?_
          refine g_iload hC (gDec_at DX7_findBest_0 28 rfl) rfl ?_
          refine g_dup2 hC (gDec_at DX7_findBest_0 29 rfl) rfl rfl ?_
          refine g_iald (w := wM q) hC 3 0 i (x := (nI (B 1 i - 1))) (show 3 < 17 from by decide) rfl rfl (by omega) (by decide) (ha2 _ hq5) (gDec_at DX7_findBest_0 30 rfl) ?_
          refine g_iconst hC (gDec_at DX7_findBest_0 31 rfl) (v := nI 1) (by decide) ?_
          refine g_iaddN hC (gDec_at DX7_findBest_0 32 rfl) ?_
          refine g_iast (w := wM q) hC 3 0 i (show 3 < 17 from by decide) rfl rfl rfl (by omega) (by decide) (gDec_at DX7_findBest_0 33 rfl) ?_
          rw [show B 1 i - 1 + 1 = B 1 i by omega]
          refine g_iincN hC (gDec_at DX7_findBest_0 34 rfl) rfl (by decide) (L' := [(4, .int (nI (i + 1))), (0, .ref (q.2.2 0)), (1, .int (nI x)), (2, .int (nI f)), (3, .int (nI 3))]) rfl ?_
          refine g_goto hC (gDec_at DX7_findBest_0 35 rfl) 21 (by decide) ?_
          refine g_sub [1, 2, 3, 4, 0] (L' := [(0, .ref (q.2.2 0)), (1, .int (nI x)), (2, .int (nI f)), (3, .int (nI 3)), (4, .int (nI (i + 1)))]) rfl ?_
          have e9 : (mF1 (sPull B x) f B 0 (fun _ => 0) 0 (i + 1) (mjd (sPull B x) f B 0 (fun _ => 0) (0, 0, (fun _ => 0)))) = mjd (sPull B x) f (dec B i) 1 (wyU (fun _ => 0) 0 i) (mF1 (sPull B x) f B 0 (fun _ => 0) 0 i (mjd (sPull B x) f B 0 (fun _ => 0) (0, 0, (fun _ => 0)))) := if_pos ⟨Nat.zero_le _, hl⟩
          have h9 := ih_l21 (i + 1) (gupd M_42 3 i (nI (B 1 i))) (by omega) (by omega) (mQ_tr hq1 hb5) (by rw [e9]; exact tS_back hT5)
          exact h9
      · skip
        refine g_iload hC (gDec_at DX7_findBest_0 13 rfl) rfl ?_
        refine g_bipush hC (gDec_at DX7_findBest_0 14 rfl) (v := nI 12) (by decide) ?_
        refine g_icmp_geN hC (by omega) (by omega) (gDec_at DX7_findBest_0 15 rfl) 62 (by decide) (fun h25_1 => ?_) (fun h25_1 => ?_)
        · skip
          obtain rfl : i = 12 := by omega
          refine g_iconst hC (gDec_at DX7_findBest_0 36 rfl) (v := nI 0) (by decide) ?_
          refine g_istore hC (gDec_at DX7_findBest_0 37 rfl) (by decide) (L' := [(4, .int (nI 0)), (0, .ref (q.2.2 0)), (1, .int (nI x)), (2, .int (nI f)), (3, .int (nI 3))]) rfl ?_
          have l65 : ∀ (fu i : Nat) (M1 : gM), i ≤ 12 → 12 - i < fu → mQ M M1 → tS M1 0 (fun _ => 0) (mF2 (sPull B x) f B 0 (fun _ => 0) 0 i (mF1 (sPull B x) f B 0 (fun _ => 0) 0 12 (mjd (sPull B x) f B 0 (fun _ => 0) (0, 0, (fun _ => 0))))) → gG X (wM q) (fun v M' => v = none ∧ tS M' 0 (fun _ => 0) (mF3 (sPull B x) f B 0 (fun _ => 0) 0 12 (mF2 (sPull B x) f B 0 (fun _ => 0) 0 12 (mF1 (sPull B x) f B 0 (fun _ => 0) 0 12 (mjd (sPull B x) f B 0 (fun _ => 0) (0, 0, (fun _ => 0)))))) ∧ mQ M M') 6 M1 65 [(0, .ref (q.2.2 0)), (1, .int (nI x)), (2, .int (nI f)), (3, .int (nI 3)), (4, .int (nI i))] [] := by
            intro fu; induction fu with
            | zero => intro i M1 h1 h2; omega
            | succ fu ih_l65 =>
              intro i M1 hi hfu hq1 hT1
              have hI1 := mI_Q hI hq1
              by_cases hl : i % 6 < B 9 0 ∧ 4 < B 1 i
              · skip
                refine g_iload hC (gDec_at DX7_findBest_0 38 rfl) rfl ?_
                refine g_bipush hC (gDec_at DX7_findBest_0 39 rfl) (v := nI 12) (by decide) ?_
                refine g_icmp_geN hC (by omega) (by omega) (gDec_at DX7_findBest_0 40 rfl) 149 (by decide) (fun h69_2 => ?_) (fun h69_2 => ?_)
                · skip
                  obtain rfl : i = 12 := by omega
                  refine g_iconst hC (gDec_at DX7_findBest_1 20 rfl) (v := nI 0) (by decide) ?_
                  refine g_istore hC (gDec_at DX7_findBest_1 21 rfl) (by decide) (L' := [(4, .int (nI 0)), (0, .ref (q.2.2 0)), (1, .int (nI x)), (2, .int (nI f)), (3, .int (nI 3))]) rfl ?_
                  have l152 : ∀ (fu i : Nat) (M1 : gM), i ≤ 12 → 12 - i < fu → mQ M M1 → tS M1 0 (fun _ => 0) (mF3 (sPull B x) f B 0 (fun _ => 0) 0 i (mF2 (sPull B x) f B 0 (fun _ => 0) 0 12 (mF1 (sPull B x) f B 0 (fun _ => 0) 0 12 (mjd (sPull B x) f B 0 (fun _ => 0) (0, 0, (fun _ => 0)))))) → gG X (wM q) (fun v M' => v = none ∧ tS M' 0 (fun _ => 0) (mF3 (sPull B x) f B 0 (fun _ => 0) 0 12 (mF2 (sPull B x) f B 0 (fun _ => 0) 0 12 (mF1 (sPull B x) f B 0 (fun _ => 0) 0 12 (mjd (sPull B x) f B 0 (fun _ => 0) (0, 0, (fun _ => 0)))))) ∧ mQ M M') 6 M1 152 [(0, .ref (q.2.2 0)), (1, .int (nI x)), (2, .int (nI f)), (3, .int (nI 3)), (4, .int (nI i))] [] := by
                    intro fu; induction fu with
                    | zero => intro i M1 h1 h2; omega
                    | succ fu ih_l152 =>
                      intro i M1 hi hfu hq1 hT1
                      have hI1 := mI_Q hI hq1
                      by_cases hl : i % 6 < B 9 0 ∧ 4 < B 1 i
                      · skip
                        refine g_iload hC (gDec_at DX7_findBest_1 22 rfl) rfl ?_
                        refine g_bipush hC (gDec_at DX7_findBest_1 23 rfl) (v := nI 12) (by decide) ?_
                        refine g_icmp_geN hC (by omega) (by omega) (gDec_at DX7_findBest_1 24 rfl) 199 (by decide) (fun h156_4 => ?_) (fun h156_4 => ?_)
                        · skip
                          obtain rfl : i = 12 := by omega
                          refine g_vret hC (gDec_at DX7_findBest_1 48 rfl) ?_
                          exact ⟨rfl, hT1, hq1⟩
                        · skip
                          refine g_iload_n hC (gDec_at DX7_findBest_1 25 rfl) rfl ?_
                          refine g_iconst hC (gDec_at DX7_findBest_1 26 rfl) (v := nI 2) (by decide) ?_
                          refine g_icmp_leN hC (by omega) (by omega) (gDec_at DX7_findBest_1 27 rfl) 199 (by decide) (fun h161_4 => ?_) (fun h161_4 => ?_)
                          · skip
                            exact absurd h161_4 (by omega)
                          · skip
                            refine g_aload_n hC (gDec_at DX7_findBest_1 28 rfl) rfl ?_
                            refine g_iload hC (gDec_at DX7_findBest_1 29 rfl) rfl ?_
                            refine g_iconst hC (gDec_at DX7_findBest_1 30 rfl) (v := nI 0) (by decide) ?_
                            refine g_callVd (w := wM q) hC 0 (c_X7_lay_ok q hI1 (i := i) (n := 0) (by omega) (by omega) hl) vf_X7_lay ml_X7_191 (by decide) (show 0 < 17 from by decide) rfl rfl rfl rfl rfl (Nat.le_of_ble_eq_true rfl) (gDec_at DX7_findBest_1 31 rfl) ?_
                            have hI2 := lay_I hI1 (i := i) (t := 0) (y := nI i) hl.2
                            have hT2 := lay_T hT1 (i := i) (x := nI (B 1 i - 1)) (by omega)
                            have hb2 := fun M3 (h : mQ (gupd (gupd M1 3 i (nI (B 1 i - 1))) 15 0 (nI i)) M3) => mQ_back (mi_f1 hI1 (by omega) hl.1) h
                            have ha2 := fun M3 (h : mQ (gupd (gupd M1 3 i (nI (B 1 i - 1))) 15 0 (nI i)) M3) => lay_at h
                            generalize hM2 : gupd (gupd M1 3 i (nI (B 1 i - 1))) 15 0 (nI i) = M2 at hI2 hT2 hb2 ha2 ⊢
                            refine g_if_eqN hC (by decide) (gDec_at DX7_findBest_1 32 rfl) 193 (by decide) (fun h => absurd h (by decide)) (fun h => ?_)
                            refine g_aload_n hC (gDec_at DX7_findBest_1 33 rfl) rfl ?_
                            refine g_iload_n hC (gDec_at DX7_findBest_1 34 rfl) rfl ?_
                            refine g_iload_n hC (gDec_at DX7_findBest_1 35 rfl) rfl ?_
                            refine g_iload hC (gDec_at DX7_findBest_1 36 rfl) rfl ?_
                            refine g_callV (w := wM q) hC (i := 0) (c_X7_findThird q hI2 (x := x) (f := f) (a := i) hx hf (by omega) (wy := wyU (fun _ => 0) 0 i) hT2) vf_X7_findThird ml_X7_194 (by decide) (show 0 < 17 from by decide) rfl rfl rfl rfl rfl (Nat.le_of_ble_eq_true rfl) (gDec_at DX7_findBest_1 37 rfl) (fun v_179 M_179 hq_179 => ?_)
                            obtain ⟨rfl, hT5, hq5⟩ := hq_179
                            have hb5 := hb2 _ hq5
                            refine g_aload_n hC (gDec_at DX7_findBest_1 38 rfl) rfl ?_
                            refine g_get (w := wM q) hC 0 (v := .ref (q.2.2 3)) fl_X7_20 (show 0 < 17 from by decide) rfl rfl (gDec_at DX7_findBest_1 39 rfl) ?_
                            refine g_iload hC (gDec_at DX7_findBest_1 40 rfl) rfl ?_
                            refine g_dup2 hC (gDec_at DX7_findBest_1 41 rfl) rfl rfl ?_
                            refine g_iald (w := wM q) hC 3 0 i (x := (nI (B 1 i - 1))) (show 3 < 17 from by decide) rfl rfl (by omega) (by decide) (ha2 _ hq5) (gDec_at DX7_findBest_1 42 rfl) ?_
                            refine g_iconst hC (gDec_at DX7_findBest_1 43 rfl) (v := nI 1) (by decide) ?_
                            refine g_iaddN hC (gDec_at DX7_findBest_1 44 rfl) ?_
                            refine g_iast (w := wM q) hC 3 0 i (show 3 < 17 from by decide) rfl rfl rfl (by omega) (by decide) (gDec_at DX7_findBest_1 45 rfl) ?_
                            rw [show B 1 i - 1 + 1 = B 1 i by omega]
                            refine g_iincN hC (gDec_at DX7_findBest_1 46 rfl) rfl (by decide) (L' := [(4, .int (nI (i + 1))), (0, .ref (q.2.2 0)), (1, .int (nI x)), (2, .int (nI f)), (3, .int (nI 3))]) rfl ?_
                            refine g_goto hC (gDec_at DX7_findBest_1 47 rfl) 152 (by decide) ?_
                            refine g_sub [1, 2, 3, 4, 0] (L' := [(0, .ref (q.2.2 0)), (1, .int (nI x)), (2, .int (nI f)), (3, .int (nI 3)), (4, .int (nI (i + 1)))]) rfl ?_
                            have e9 : (mF3 (sPull B x) f B 0 (fun _ => 0) 0 (i + 1) (mF2 (sPull B x) f B 0 (fun _ => 0) 0 12 (mF1 (sPull B x) f B 0 (fun _ => 0) 0 12 (mjd (sPull B x) f B 0 (fun _ => 0) (0, 0, (fun _ => 0)))))) = mF2 (sPull B x) f (dec B i) 1 (wyU (fun _ => 0) 0 i) i 12 (mF3 (sPull B x) f B 0 (fun _ => 0) 0 i (mF2 (sPull B x) f B 0 (fun _ => 0) 0 12 (mF1 (sPull B x) f B 0 (fun _ => 0) 0 12 (mjd (sPull B x) f B 0 (fun _ => 0) (0, 0, (fun _ => 0)))))) := if_pos ⟨Nat.zero_le _, hl⟩
                            have h9 := ih_l152 (i + 1) (gupd M_179 3 i (nI (B 1 i))) (by omega) (by omega) (mQ_tr hq1 hb5) (by rw [e9]; exact tS_back hT5)
                            exact h9
                      · skip
                        refine g_iload hC (gDec_at DX7_findBest_1 22 rfl) rfl ?_
                        refine g_bipush hC (gDec_at DX7_findBest_1 23 rfl) (v := nI 12) (by decide) ?_
                        refine g_icmp_geN hC (by omega) (by omega) (gDec_at DX7_findBest_1 24 rfl) 199 (by decide) (fun h156_5 => ?_) (fun h156_5 => ?_)
                        · skip
                          obtain rfl : i = 12 := by omega
                          refine g_vret hC (gDec_at DX7_findBest_1 48 rfl) ?_
                          exact ⟨rfl, hT1, hq1⟩
                        · skip
                          refine g_iload_n hC (gDec_at DX7_findBest_1 25 rfl) rfl ?_
                          refine g_iconst hC (gDec_at DX7_findBest_1 26 rfl) (v := nI 2) (by decide) ?_
                          refine g_icmp_leN hC (by omega) (by omega) (gDec_at DX7_findBest_1 27 rfl) 199 (by decide) (fun h161_5 => ?_) (fun h161_5 => ?_)
                          · skip
                            exact absurd h161_5 (by omega)
                          · skip
                            refine g_aload_n hC (gDec_at DX7_findBest_1 28 rfl) rfl ?_
                            refine g_iload hC (gDec_at DX7_findBest_1 29 rfl) rfl ?_
                            refine g_iconst hC (gDec_at DX7_findBest_1 30 rfl) (v := nI 0) (by decide) ?_
                            refine g_callVd (w := wM q) hC 0 (c_X7_lay_no q hI1 (i := i) (n := 0) (by omega) hl) vf_X7_lay ml_X7_191 (by decide) (show 0 < 17 from by decide) rfl rfl rfl rfl rfl (Nat.le_of_ble_eq_true rfl) (gDec_at DX7_findBest_1 31 rfl) ?_
                            refine g_if_eqN hC (by decide) (gDec_at DX7_findBest_1 32 rfl) 193 (by decide) (fun h => ?_) (fun h => absurd h (by decide))
                            refine g_iincN hC (gDec_at DX7_findBest_1 46 rfl) rfl (by decide) (L' := [(4, .int (nI (i + 1))), (0, .ref (q.2.2 0)), (1, .int (nI x)), (2, .int (nI f)), (3, .int (nI 3))]) rfl ?_
                            refine g_goto hC (gDec_at DX7_findBest_1 47 rfl) 152 (by decide) ?_
                            refine g_sub [1, 2, 3, 4, 0] (L' := [(0, .ref (q.2.2 0)), (1, .int (nI x)), (2, .int (nI f)), (3, .int (nI 3)), (4, .int (nI (i + 1)))]) rfl ?_
                            have e9 : (mF3 (sPull B x) f B 0 (fun _ => 0) 0 (i + 1) (mF2 (sPull B x) f B 0 (fun _ => 0) 0 12 (mF1 (sPull B x) f B 0 (fun _ => 0) 0 12 (mjd (sPull B x) f B 0 (fun _ => 0) (0, 0, (fun _ => 0)))))) = (mF3 (sPull B x) f B 0 (fun _ => 0) 0 i (mF2 (sPull B x) f B 0 (fun _ => 0) 0 12 (mF1 (sPull B x) f B 0 (fun _ => 0) 0 12 (mjd (sPull B x) f B 0 (fun _ => 0) (0, 0, (fun _ => 0)))))) := if_neg (fun z => hl z.2)
                            have h9 := ih_l152 (i + 1) M1 (by omega) (by omega) (hq1) (by rw [e9]; exact hT1)
                            exact h9
                  exact g_sub [1, 2, 3, 4, 0] rfl (l152 (12 + 1 - 0) 0 _ (by omega) (by omega) hq1 hT1)
                · skip
                  refine g_iload_n hC (gDec_at DX7_findBest_0 41 rfl) rfl ?_
                  refine g_iconst hC (gDec_at DX7_findBest_0 42 rfl) (v := nI 1) (by decide) ?_
                  refine g_icmp_leN hC (by omega) (by omega) (gDec_at DX7_findBest_0 43 rfl) 149 (by decide) (fun h74_2 => ?_) (fun h74_2 => ?_)
                  · skip
                    exact absurd h74_2 (by omega)
                  · skip
                    refine g_aload_n hC (gDec_at DX7_findBest_0 44 rfl) rfl ?_
                    refine g_iload hC (gDec_at DX7_findBest_0 45 rfl) rfl ?_
                    refine g_iconst hC (gDec_at DX7_findBest_0 46 rfl) (v := nI 0) (by decide) ?_
                    refine g_callVd (w := wM q) hC 0 (c_X7_lay_ok q hI1 (i := i) (n := 0) (by omega) (by omega) hl) vf_X7_lay ml_X7_191 (by decide) (show 0 < 17 from by decide) rfl rfl rfl rfl rfl (Nat.le_of_ble_eq_true rfl) (gDec_at DX7_findBest_0 47 rfl) ?_
                    have hI2 := lay_I hI1 (i := i) (t := 0) (y := nI i) hl.2
                    have hT2 := lay_T hT1 (i := i) (x := nI (B 1 i - 1)) (by omega)
                    have hb2 := fun M3 (h : mQ (gupd (gupd M1 3 i (nI (B 1 i - 1))) 15 0 (nI i)) M3) => mQ_back (mi_f1 hI1 (by omega) hl.1) h
                    have ha2 := fun M3 (h : mQ (gupd (gupd M1 3 i (nI (B 1 i - 1))) 15 0 (nI i)) M3) => lay_at h
                    generalize hM2 : gupd (gupd M1 3 i (nI (B 1 i - 1))) 15 0 (nI i) = M2 at hI2 hT2 hb2 ha2 ⊢
                    refine g_if_eqN hC (by decide) (gDec_at DX7_findBest_0 48 rfl) 143 (by decide) (fun h => absurd h (by decide)) (fun h => ?_)
                    refine g_iload hC (gDec_at DX7_findBest_0 49 rfl) rfl ?_
                    refine g_istore hC (gDec_at DX7_findBest_0 50 rfl) (by decide) (L' := [(5, .int (nI i)), (0, .ref (q.2.2 0)), (1, .int (nI x)), (2, .int (nI f)), (3, .int (nI 3)), (4, .int (nI i))]) rfl ?_
                    have l91 : ∀ (fu j : Nat) (M3 : gM), j ≤ 12 → 12 - j < fu → mQ M2 M3 → tS M3 1 (wyU (fun _ => 0) 0 i) (mF1 (sPull B x) f (dec B i) 1 (wyU (fun _ => 0) 0 i) i j (mF2 (sPull B x) f B 0 (fun _ => 0) 0 i (mF1 (sPull B x) f B 0 (fun _ => 0) 0 12 (mjd (sPull B x) f B 0 (fun _ => 0) (0, 0, (fun _ => 0)))))) → i ≤ j → gG X (wM q) (fun v M' => v = none ∧ tS M' 0 (fun _ => 0) (mF3 (sPull B x) f B 0 (fun _ => 0) 0 12 (mF2 (sPull B x) f B 0 (fun _ => 0) 0 12 (mF1 (sPull B x) f B 0 (fun _ => 0) 0 12 (mjd (sPull B x) f B 0 (fun _ => 0) (0, 0, (fun _ => 0)))))) ∧ mQ M M') 6 M3 91 [(0, .ref (q.2.2 0)), (1, .int (nI x)), (2, .int (nI f)), (3, .int (nI 3)), (4, .int (nI i)), (5, .int (nI j))] [] := by
                      intro fu; induction fu with
                      | zero => intro j M3 h1 h2; omega
                      | succ fu ih_l91 =>
                        intro j M3 hj12 hfu hq3 hT3 hij
                        have hI3 := mI_Q hI2 hq3
                        by_cases hk : j % 6 < dec B i 9 0 ∧ 4 < dec B i 1 j
                        · skip
                          refine g_iload hC (gDec_at DX7_findBest_0 51 rfl) rfl ?_
                          refine g_bipush hC (gDec_at DX7_findBest_0 52 rfl) (v := nI 12) (by decide) ?_
                          refine g_icmp_geN hC (by omega) (by omega) (gDec_at DX7_findBest_0 53 rfl) 132 (by decide) (fun h95_2 => ?_) (fun h95_2 => ?_)
                          · skip
                            obtain rfl : j = 12 := by omega
                            have hb3 := hb2 _ hq3
                            refine g_sub [0, 1, 2, 3, 4] (L' := [(0, .ref (q.2.2 0)), (1, .int (nI x)), (2, .int (nI f)), (3, .int (nI 3)), (4, .int (nI i))]) rfl ?_
                            refine g_aload_n hC (gDec_at DX7_findBest_1 10 rfl) rfl ?_
                            refine g_get (w := wM q) hC 0 (v := .ref (q.2.2 3)) fl_X7_20 (show 0 < 17 from by decide) rfl rfl (gDec_at DX7_findBest_1 11 rfl) ?_
                            refine g_iload hC (gDec_at DX7_findBest_1 12 rfl) rfl ?_
                            refine g_dup2 hC (gDec_at DX7_findBest_1 13 rfl) rfl rfl ?_
                            refine g_iald (w := wM q) hC 3 0 i (x := (nI (B 1 i - 1))) (show 3 < 17 from by decide) rfl rfl (by omega) (by decide) (ha2 _ hq3) (gDec_at DX7_findBest_1 14 rfl) ?_
                            refine g_iconst hC (gDec_at DX7_findBest_1 15 rfl) (v := nI 1) (by decide) ?_
                            refine g_iaddN hC (gDec_at DX7_findBest_1 16 rfl) ?_
                            refine g_iast (w := wM q) hC 3 0 i (show 3 < 17 from by decide) rfl rfl rfl (by omega) (by decide) (gDec_at DX7_findBest_1 17 rfl) ?_
                            rw [show B 1 i - 1 + 1 = B 1 i by omega]
                            refine g_iincN hC (gDec_at DX7_findBest_1 18 rfl) rfl (by decide) (L' := [(4, .int (nI (i + 1))), (0, .ref (q.2.2 0)), (1, .int (nI x)), (2, .int (nI f)), (3, .int (nI 3))]) rfl ?_
                            refine g_goto hC (gDec_at DX7_findBest_1 19 rfl) 65 (by decide) ?_
                            refine g_sub [1, 2, 3, 4, 0] (L' := [(0, .ref (q.2.2 0)), (1, .int (nI x)), (2, .int (nI f)), (3, .int (nI 3)), (4, .int (nI (i + 1)))]) rfl ?_
                            have e9 : (mF2 (sPull B x) f B 0 (fun _ => 0) 0 (i + 1) (mF1 (sPull B x) f B 0 (fun _ => 0) 0 12 (mjd (sPull B x) f B 0 (fun _ => 0) (0, 0, (fun _ => 0))))) = (mF1 (sPull B x) f (dec B i) 1 (wyU (fun _ => 0) 0 i) i 12 (mF2 (sPull B x) f B 0 (fun _ => 0) 0 i (mF1 (sPull B x) f B 0 (fun _ => 0) 0 12 (mjd (sPull B x) f B 0 (fun _ => 0) (0, 0, (fun _ => 0)))))) := if_pos ⟨Nat.zero_le _, hl⟩
                            have h9 := ih_l65 (i + 1) (gupd M3 3 i (nI (B 1 i))) (by omega) (by omega) (mQ_tr hq1 hb3) (by rw [e9]; exact tS_back hT3)
                            exact h9
                          · skip
                            refine g_aload_n hC (gDec_at DX7_findBest_0 54 rfl) rfl ?_
                            refine g_iload hC (gDec_at DX7_findBest_0 55 rfl) rfl ?_
                            refine g_iconst hC (gDec_at DX7_findBest_0 56 rfl) (v := nI 1) (by decide) ?_
                            refine g_callVd (w := wM q) hC 0 (c_X7_lay_ok q hI3 (i := j) (n := 1) (by omega) (by omega) hk) vf_X7_lay ml_X7_191 (by decide) (show 0 < 17 from by decide) rfl rfl rfl rfl rfl (Nat.le_of_ble_eq_true rfl) (gDec_at DX7_findBest_0 57 rfl) ?_
                            have hI4 := lay_I hI3 (i := j) (t := 1) (y := nI j) hk.2
                            have hT4 := lay_T hT3 (i := j) (x := nI (dec B i 1 j - 1)) (by omega)
                            have hb4 := fun M5 (h : mQ (gupd (gupd M3 3 j (nI (dec B i 1 j - 1))) 15 1 (nI j)) M5) => mQ_back (mi_f1 hI3 (by omega) hk.1) h
                            have ha4 := fun M5 (h : mQ (gupd (gupd M3 3 j (nI (dec B i 1 j - 1))) 15 1 (nI j)) M5) => lay_at h
                            generalize hM4 : gupd (gupd M3 3 j (nI (dec B i 1 j - 1))) 15 1 (nI j) = M4 at hI4 hT4 hb4 ha4 ⊢
                            refine g_if_eqN hC (by decide) (gDec_at DX7_findBest_0 58 rfl) 126 (by decide) (fun h => absurd h (by decide)) (fun h => ?_)
                            refine g_aload_n hC (gDec_at DX7_findBest_0 59 rfl) rfl ?_
                            refine g_iload_n hC (gDec_at DX7_findBest_0 60 rfl) rfl ?_
                            refine g_iload_n hC (gDec_at DX7_findBest_0 61 rfl) rfl ?_
                            refine g_iconst hC (gDec_at DX7_findBest_0 62 rfl) (v := nI 2) (by decide) ?_
                            refine g_callV (w := wM q) hC (i := 0) (c_X7_weigh q hI4 (x := x) (f := f) (n := 2) hx hf (by omega) hT4) vf_X7_weigh ml_X7_187 (by decide) (show 0 < 17 from by decide) rfl rfl rfl rfl rfl (Nat.le_of_ble_eq_true rfl) (gDec_at DX7_findBest_0 63 rfl) (fun v_112 M_112 hq_112 => ?_)
                            obtain ⟨rfl, hT5, hq5⟩ := hq_112
                            have hb5 := hb4 _ hq5
                            refine g_aload_n hC (gDec_at DX7_findBest_1 0 rfl) rfl ?_
                            refine g_get (w := wM q) hC 0 (v := .ref (q.2.2 3)) fl_X7_20 (show 0 < 17 from by decide) rfl rfl (gDec_at DX7_findBest_1 1 rfl) ?_
                            refine g_iload hC (gDec_at DX7_findBest_1 2 rfl) rfl ?_
                            refine g_dup2 hC (gDec_at DX7_findBest_1 3 rfl) rfl rfl ?_
                            refine g_iald (w := wM q) hC 3 0 j (x := (nI (dec B i 1 j - 1))) (show 3 < 17 from by decide) rfl rfl (by omega) (by decide) (ha4 _ hq5) (gDec_at DX7_findBest_1 4 rfl) ?_
                            refine g_iconst hC (gDec_at DX7_findBest_1 5 rfl) (v := nI 1) (by decide) ?_
                            refine g_iaddN hC (gDec_at DX7_findBest_1 6 rfl) ?_
                            refine g_iast (w := wM q) hC 3 0 j (show 3 < 17 from by decide) rfl rfl rfl (by omega) (by decide) (gDec_at DX7_findBest_1 7 rfl) ?_
                            rw [show dec B i 1 j - 1 + 1 = dec B i 1 j by omega]
                            refine g_iincN hC (gDec_at DX7_findBest_1 8 rfl) rfl (by decide) (L' := [(5, .int (nI (j + 1))), (0, .ref (q.2.2 0)), (1, .int (nI x)), (2, .int (nI f)), (3, .int (nI 3)), (4, .int (nI i))]) rfl ?_
                            refine g_goto hC (gDec_at DX7_findBest_1 9 rfl) 91 (by decide) ?_
                            refine g_sub [1, 2, 3, 4, 5, 0] (L' := [(0, .ref (q.2.2 0)), (1, .int (nI x)), (2, .int (nI f)), (3, .int (nI 3)), (4, .int (nI i)), (5, .int (nI (j + 1)))]) rfl ?_
                            have e9 : (mF1 (sPull B x) f (dec B i) 1 (wyU (fun _ => 0) 0 i) i (j + 1) (mF2 (sPull B x) f B 0 (fun _ => 0) 0 i (mF1 (sPull B x) f B 0 (fun _ => 0) 0 12 (mjd (sPull B x) f B 0 (fun _ => 0) (0, 0, (fun _ => 0)))))) = mjd (sPull B x) f (dec (dec B i) j) 2 (wyU (wyU (fun _ => 0) 0 i) 1 j) (mF1 (sPull B x) f (dec B i) 1 (wyU (fun _ => 0) 0 i) i j (mF2 (sPull B x) f B 0 (fun _ => 0) 0 i (mF1 (sPull B x) f B 0 (fun _ => 0) 0 12 (mjd (sPull B x) f B 0 (fun _ => 0) (0, 0, (fun _ => 0)))))) := if_pos ⟨hij, hk⟩
                            have h9 := ih_l91 (j + 1) (gupd M_112 3 j (nI (dec B i 1 j))) (by omega) (by omega) (mQ_tr hq3 hb5) (by rw [e9]; exact tS_back hT5) (by omega)
                            exact h9
                        · skip
                          refine g_iload hC (gDec_at DX7_findBest_0 51 rfl) rfl ?_
                          refine g_bipush hC (gDec_at DX7_findBest_0 52 rfl) (v := nI 12) (by decide) ?_
                          refine g_icmp_geN hC (by omega) (by omega) (gDec_at DX7_findBest_0 53 rfl) 132 (by decide) (fun h95_3 => ?_) (fun h95_3 => ?_)
                          · skip
                            obtain rfl : j = 12 := by omega
                            have hb3 := hb2 _ hq3
                            refine g_sub [0, 1, 2, 3, 4] (L' := [(0, .ref (q.2.2 0)), (1, .int (nI x)), (2, .int (nI f)), (3, .int (nI 3)), (4, .int (nI i))]) rfl ?_
                            refine g_aload_n hC (gDec_at DX7_findBest_1 10 rfl) rfl ?_
                            refine g_get (w := wM q) hC 0 (v := .ref (q.2.2 3)) fl_X7_20 (show 0 < 17 from by decide) rfl rfl (gDec_at DX7_findBest_1 11 rfl) ?_
                            refine g_iload hC (gDec_at DX7_findBest_1 12 rfl) rfl ?_
                            refine g_dup2 hC (gDec_at DX7_findBest_1 13 rfl) rfl rfl ?_
                            refine g_iald (w := wM q) hC 3 0 i (x := (nI (B 1 i - 1))) (show 3 < 17 from by decide) rfl rfl (by omega) (by decide) (ha2 _ hq3) (gDec_at DX7_findBest_1 14 rfl) ?_
                            refine g_iconst hC (gDec_at DX7_findBest_1 15 rfl) (v := nI 1) (by decide) ?_
                            refine g_iaddN hC (gDec_at DX7_findBest_1 16 rfl) ?_
                            refine g_iast (w := wM q) hC 3 0 i (show 3 < 17 from by decide) rfl rfl rfl (by omega) (by decide) (gDec_at DX7_findBest_1 17 rfl) ?_
                            rw [show B 1 i - 1 + 1 = B 1 i by omega]
                            refine g_iincN hC (gDec_at DX7_findBest_1 18 rfl) rfl (by decide) (L' := [(4, .int (nI (i + 1))), (0, .ref (q.2.2 0)), (1, .int (nI x)), (2, .int (nI f)), (3, .int (nI 3))]) rfl ?_
                            refine g_goto hC (gDec_at DX7_findBest_1 19 rfl) 65 (by decide) ?_
                            refine g_sub [1, 2, 3, 4, 0] (L' := [(0, .ref (q.2.2 0)), (1, .int (nI x)), (2, .int (nI f)), (3, .int (nI 3)), (4, .int (nI (i + 1)))]) rfl ?_
                            have e9 : (mF2 (sPull B x) f B 0 (fun _ => 0) 0 (i + 1) (mF1 (sPull B x) f B 0 (fun _ => 0) 0 12 (mjd (sPull B x) f B 0 (fun _ => 0) (0, 0, (fun _ => 0))))) = (mF1 (sPull B x) f (dec B i) 1 (wyU (fun _ => 0) 0 i) i 12 (mF2 (sPull B x) f B 0 (fun _ => 0) 0 i (mF1 (sPull B x) f B 0 (fun _ => 0) 0 12 (mjd (sPull B x) f B 0 (fun _ => 0) (0, 0, (fun _ => 0)))))) := if_pos ⟨Nat.zero_le _, hl⟩
                            have h9 := ih_l65 (i + 1) (gupd M3 3 i (nI (B 1 i))) (by omega) (by omega) (mQ_tr hq1 hb3) (by rw [e9]; exact tS_back hT3)
                            exact h9
                          · skip
                            refine g_aload_n hC (gDec_at DX7_findBest_0 54 rfl) rfl ?_
                            refine g_iload hC (gDec_at DX7_findBest_0 55 rfl) rfl ?_
                            refine g_iconst hC (gDec_at DX7_findBest_0 56 rfl) (v := nI 1) (by decide) ?_
                            refine g_callVd (w := wM q) hC 0 (c_X7_lay_no q hI3 (i := j) (n := 1) (by omega) hk) vf_X7_lay ml_X7_191 (by decide) (show 0 < 17 from by decide) rfl rfl rfl rfl rfl (Nat.le_of_ble_eq_true rfl) (gDec_at DX7_findBest_0 57 rfl) ?_
                            refine g_if_eqN hC (by decide) (gDec_at DX7_findBest_0 58 rfl) 126 (by decide) (fun h => ?_) (fun h => absurd h (by decide))
                            refine g_iincN hC (gDec_at DX7_findBest_1 8 rfl) rfl (by decide) (L' := [(5, .int (nI (j + 1))), (0, .ref (q.2.2 0)), (1, .int (nI x)), (2, .int (nI f)), (3, .int (nI 3)), (4, .int (nI i))]) rfl ?_
                            refine g_goto hC (gDec_at DX7_findBest_1 9 rfl) 91 (by decide) ?_
                            refine g_sub [1, 2, 3, 4, 5, 0] (L' := [(0, .ref (q.2.2 0)), (1, .int (nI x)), (2, .int (nI f)), (3, .int (nI 3)), (4, .int (nI i)), (5, .int (nI (j + 1)))]) rfl ?_
                            have e9 : (mF1 (sPull B x) f (dec B i) 1 (wyU (fun _ => 0) 0 i) i (j + 1) (mF2 (sPull B x) f B 0 (fun _ => 0) 0 i (mF1 (sPull B x) f B 0 (fun _ => 0) 0 12 (mjd (sPull B x) f B 0 (fun _ => 0) (0, 0, (fun _ => 0)))))) = (mF1 (sPull B x) f (dec B i) 1 (wyU (fun _ => 0) 0 i) i j (mF2 (sPull B x) f B 0 (fun _ => 0) 0 i (mF1 (sPull B x) f B 0 (fun _ => 0) 0 12 (mjd (sPull B x) f B 0 (fun _ => 0) (0, 0, (fun _ => 0)))))) := if_neg (fun z => hk z.2)
                            have h9 := ih_l91 (j + 1) M3 (by omega) (by omega) (hq3) (by rw [e9]; exact hT3) (by omega)
                            exact h9
                    exact g_sub [1, 2, 3, 4, 5, 0] rfl (l91 (12 + 1 - i) i M2 (by omega) (by omega) mQ_rf (by rw [mF1_lo]; exact hT2) (by omega))
              · skip
                refine g_iload hC (gDec_at DX7_findBest_0 38 rfl) rfl ?_
                refine g_bipush hC (gDec_at DX7_findBest_0 39 rfl) (v := nI 12) (by decide) ?_
                refine g_icmp_geN hC (by omega) (by omega) (gDec_at DX7_findBest_0 40 rfl) 149 (by decide) (fun h69_3 => ?_) (fun h69_3 => ?_)
                · skip
                  obtain rfl : i = 12 := by omega
                  refine g_iconst hC (gDec_at DX7_findBest_1 20 rfl) (v := nI 0) (by decide) ?_
                  refine g_istore hC (gDec_at DX7_findBest_1 21 rfl) (by decide) (L' := [(4, .int (nI 0)), (0, .ref (q.2.2 0)), (1, .int (nI x)), (2, .int (nI f)), (3, .int (nI 3))]) rfl ?_
                  have l152 : ∀ (fu i : Nat) (M1 : gM), i ≤ 12 → 12 - i < fu → mQ M M1 → tS M1 0 (fun _ => 0) (mF3 (sPull B x) f B 0 (fun _ => 0) 0 i (mF2 (sPull B x) f B 0 (fun _ => 0) 0 12 (mF1 (sPull B x) f B 0 (fun _ => 0) 0 12 (mjd (sPull B x) f B 0 (fun _ => 0) (0, 0, (fun _ => 0)))))) → gG X (wM q) (fun v M' => v = none ∧ tS M' 0 (fun _ => 0) (mF3 (sPull B x) f B 0 (fun _ => 0) 0 12 (mF2 (sPull B x) f B 0 (fun _ => 0) 0 12 (mF1 (sPull B x) f B 0 (fun _ => 0) 0 12 (mjd (sPull B x) f B 0 (fun _ => 0) (0, 0, (fun _ => 0)))))) ∧ mQ M M') 6 M1 152 [(0, .ref (q.2.2 0)), (1, .int (nI x)), (2, .int (nI f)), (3, .int (nI 3)), (4, .int (nI i))] [] := by
                    intro fu; induction fu with
                    | zero => intro i M1 h1 h2; omega
                    | succ fu ih_l152 =>
                      intro i M1 hi hfu hq1 hT1
                      have hI1 := mI_Q hI hq1
                      by_cases hl : i % 6 < B 9 0 ∧ 4 < B 1 i
                      · skip
                        refine g_iload hC (gDec_at DX7_findBest_1 22 rfl) rfl ?_
                        refine g_bipush hC (gDec_at DX7_findBest_1 23 rfl) (v := nI 12) (by decide) ?_
                        refine g_icmp_geN hC (by omega) (by omega) (gDec_at DX7_findBest_1 24 rfl) 199 (by decide) (fun h156_6 => ?_) (fun h156_6 => ?_)
                        · skip
                          obtain rfl : i = 12 := by omega
                          refine g_vret hC (gDec_at DX7_findBest_1 48 rfl) ?_
                          exact ⟨rfl, hT1, hq1⟩
                        · skip
                          refine g_iload_n hC (gDec_at DX7_findBest_1 25 rfl) rfl ?_
                          refine g_iconst hC (gDec_at DX7_findBest_1 26 rfl) (v := nI 2) (by decide) ?_
                          refine g_icmp_leN hC (by omega) (by omega) (gDec_at DX7_findBest_1 27 rfl) 199 (by decide) (fun h161_6 => ?_) (fun h161_6 => ?_)
                          · skip
                            exact absurd h161_6 (by omega)
                          · skip
                            refine g_aload_n hC (gDec_at DX7_findBest_1 28 rfl) rfl ?_
                            refine g_iload hC (gDec_at DX7_findBest_1 29 rfl) rfl ?_
                            refine g_iconst hC (gDec_at DX7_findBest_1 30 rfl) (v := nI 0) (by decide) ?_
                            refine g_callVd (w := wM q) hC 0 (c_X7_lay_ok q hI1 (i := i) (n := 0) (by omega) (by omega) hl) vf_X7_lay ml_X7_191 (by decide) (show 0 < 17 from by decide) rfl rfl rfl rfl rfl (Nat.le_of_ble_eq_true rfl) (gDec_at DX7_findBest_1 31 rfl) ?_
                            have hI2 := lay_I hI1 (i := i) (t := 0) (y := nI i) hl.2
                            have hT2 := lay_T hT1 (i := i) (x := nI (B 1 i - 1)) (by omega)
                            have hb2 := fun M3 (h : mQ (gupd (gupd M1 3 i (nI (B 1 i - 1))) 15 0 (nI i)) M3) => mQ_back (mi_f1 hI1 (by omega) hl.1) h
                            have ha2 := fun M3 (h : mQ (gupd (gupd M1 3 i (nI (B 1 i - 1))) 15 0 (nI i)) M3) => lay_at h
                            generalize hM2 : gupd (gupd M1 3 i (nI (B 1 i - 1))) 15 0 (nI i) = M2 at hI2 hT2 hb2 ha2 ⊢
                            refine g_if_eqN hC (by decide) (gDec_at DX7_findBest_1 32 rfl) 193 (by decide) (fun h => absurd h (by decide)) (fun h => ?_)
                            refine g_aload_n hC (gDec_at DX7_findBest_1 33 rfl) rfl ?_
                            refine g_iload_n hC (gDec_at DX7_findBest_1 34 rfl) rfl ?_
                            refine g_iload_n hC (gDec_at DX7_findBest_1 35 rfl) rfl ?_
                            refine g_iload hC (gDec_at DX7_findBest_1 36 rfl) rfl ?_
                            refine g_callV (w := wM q) hC (i := 0) (c_X7_findThird q hI2 (x := x) (f := f) (a := i) hx hf (by omega) (wy := wyU (fun _ => 0) 0 i) hT2) vf_X7_findThird ml_X7_194 (by decide) (show 0 < 17 from by decide) rfl rfl rfl rfl rfl (Nat.le_of_ble_eq_true rfl) (gDec_at DX7_findBest_1 37 rfl) (fun v_179 M_179 hq_179 => ?_)
                            obtain ⟨rfl, hT5, hq5⟩ := hq_179
                            have hb5 := hb2 _ hq5
                            refine g_aload_n hC (gDec_at DX7_findBest_1 38 rfl) rfl ?_
                            refine g_get (w := wM q) hC 0 (v := .ref (q.2.2 3)) fl_X7_20 (show 0 < 17 from by decide) rfl rfl (gDec_at DX7_findBest_1 39 rfl) ?_
                            refine g_iload hC (gDec_at DX7_findBest_1 40 rfl) rfl ?_
                            refine g_dup2 hC (gDec_at DX7_findBest_1 41 rfl) rfl rfl ?_
                            refine g_iald (w := wM q) hC 3 0 i (x := (nI (B 1 i - 1))) (show 3 < 17 from by decide) rfl rfl (by omega) (by decide) (ha2 _ hq5) (gDec_at DX7_findBest_1 42 rfl) ?_
                            refine g_iconst hC (gDec_at DX7_findBest_1 43 rfl) (v := nI 1) (by decide) ?_
                            refine g_iaddN hC (gDec_at DX7_findBest_1 44 rfl) ?_
                            refine g_iast (w := wM q) hC 3 0 i (show 3 < 17 from by decide) rfl rfl rfl (by omega) (by decide) (gDec_at DX7_findBest_1 45 rfl) ?_
                            rw [show B 1 i - 1 + 1 = B 1 i by omega]
                            refine g_iincN hC (gDec_at DX7_findBest_1 46 rfl) rfl (by decide) (L' := [(4, .int (nI (i + 1))), (0, .ref (q.2.2 0)), (1, .int (nI x)), (2, .int (nI f)), (3, .int (nI 3))]) rfl ?_
                            refine g_goto hC (gDec_at DX7_findBest_1 47 rfl) 152 (by decide) ?_
                            refine g_sub [1, 2, 3, 4, 0] (L' := [(0, .ref (q.2.2 0)), (1, .int (nI x)), (2, .int (nI f)), (3, .int (nI 3)), (4, .int (nI (i + 1)))]) rfl ?_
                            have e9 : (mF3 (sPull B x) f B 0 (fun _ => 0) 0 (i + 1) (mF2 (sPull B x) f B 0 (fun _ => 0) 0 12 (mF1 (sPull B x) f B 0 (fun _ => 0) 0 12 (mjd (sPull B x) f B 0 (fun _ => 0) (0, 0, (fun _ => 0)))))) = mF2 (sPull B x) f (dec B i) 1 (wyU (fun _ => 0) 0 i) i 12 (mF3 (sPull B x) f B 0 (fun _ => 0) 0 i (mF2 (sPull B x) f B 0 (fun _ => 0) 0 12 (mF1 (sPull B x) f B 0 (fun _ => 0) 0 12 (mjd (sPull B x) f B 0 (fun _ => 0) (0, 0, (fun _ => 0)))))) := if_pos ⟨Nat.zero_le _, hl⟩
                            have h9 := ih_l152 (i + 1) (gupd M_179 3 i (nI (B 1 i))) (by omega) (by omega) (mQ_tr hq1 hb5) (by rw [e9]; exact tS_back hT5)
                            exact h9
                      · skip
                        refine g_iload hC (gDec_at DX7_findBest_1 22 rfl) rfl ?_
                        refine g_bipush hC (gDec_at DX7_findBest_1 23 rfl) (v := nI 12) (by decide) ?_
                        refine g_icmp_geN hC (by omega) (by omega) (gDec_at DX7_findBest_1 24 rfl) 199 (by decide) (fun h156_7 => ?_) (fun h156_7 => ?_)
                        · skip
                          obtain rfl : i = 12 := by omega
                          refine g_vret hC (gDec_at DX7_findBest_1 48 rfl) ?_
                          exact ⟨rfl, hT1, hq1⟩
                        · skip
                          refine g_iload_n hC (gDec_at DX7_findBest_1 25 rfl) rfl ?_
                          refine g_iconst hC (gDec_at DX7_findBest_1 26 rfl) (v := nI 2) (by decide) ?_
                          refine g_icmp_leN hC (by omega) (by omega) (gDec_at DX7_findBest_1 27 rfl) 199 (by decide) (fun h161_7 => ?_) (fun h161_7 => ?_)
                          · skip
                            exact absurd h161_7 (by omega)
                          · skip
                            refine g_aload_n hC (gDec_at DX7_findBest_1 28 rfl) rfl ?_
                            refine g_iload hC (gDec_at DX7_findBest_1 29 rfl) rfl ?_
                            refine g_iconst hC (gDec_at DX7_findBest_1 30 rfl) (v := nI 0) (by decide) ?_
                            refine g_callVd (w := wM q) hC 0 (c_X7_lay_no q hI1 (i := i) (n := 0) (by omega) hl) vf_X7_lay ml_X7_191 (by decide) (show 0 < 17 from by decide) rfl rfl rfl rfl rfl (Nat.le_of_ble_eq_true rfl) (gDec_at DX7_findBest_1 31 rfl) ?_
                            refine g_if_eqN hC (by decide) (gDec_at DX7_findBest_1 32 rfl) 193 (by decide) (fun h => ?_) (fun h => absurd h (by decide))
                            refine g_iincN hC (gDec_at DX7_findBest_1 46 rfl) rfl (by decide) (L' := [(4, .int (nI (i + 1))), (0, .ref (q.2.2 0)), (1, .int (nI x)), (2, .int (nI f)), (3, .int (nI 3))]) rfl ?_
                            refine g_goto hC (gDec_at DX7_findBest_1 47 rfl) 152 (by decide) ?_
                            refine g_sub [1, 2, 3, 4, 0] (L' := [(0, .ref (q.2.2 0)), (1, .int (nI x)), (2, .int (nI f)), (3, .int (nI 3)), (4, .int (nI (i + 1)))]) rfl ?_
                            have e9 : (mF3 (sPull B x) f B 0 (fun _ => 0) 0 (i + 1) (mF2 (sPull B x) f B 0 (fun _ => 0) 0 12 (mF1 (sPull B x) f B 0 (fun _ => 0) 0 12 (mjd (sPull B x) f B 0 (fun _ => 0) (0, 0, (fun _ => 0)))))) = (mF3 (sPull B x) f B 0 (fun _ => 0) 0 i (mF2 (sPull B x) f B 0 (fun _ => 0) 0 12 (mF1 (sPull B x) f B 0 (fun _ => 0) 0 12 (mjd (sPull B x) f B 0 (fun _ => 0) (0, 0, (fun _ => 0)))))) := if_neg (fun z => hl z.2)
                            have h9 := ih_l152 (i + 1) M1 (by omega) (by omega) (hq1) (by rw [e9]; exact hT1)
                            exact h9
                  exact g_sub [1, 2, 3, 4, 0] rfl (l152 (12 + 1 - 0) 0 _ (by omega) (by omega) hq1 hT1)
                · skip
                  refine g_iload_n hC (gDec_at DX7_findBest_0 41 rfl) rfl ?_
                  refine g_iconst hC (gDec_at DX7_findBest_0 42 rfl) (v := nI 1) (by decide) ?_
                  refine g_icmp_leN hC (by omega) (by omega) (gDec_at DX7_findBest_0 43 rfl) 149 (by decide) (fun h74_3 => ?_) (fun h74_3 => ?_)
                  · skip
                    exact absurd h74_3 (by omega)
                  · skip
                    refine g_aload_n hC (gDec_at DX7_findBest_0 44 rfl) rfl ?_
                    refine g_iload hC (gDec_at DX7_findBest_0 45 rfl) rfl ?_
                    refine g_iconst hC (gDec_at DX7_findBest_0 46 rfl) (v := nI 0) (by decide) ?_
                    refine g_callVd (w := wM q) hC 0 (c_X7_lay_no q hI1 (i := i) (n := 0) (by omega) hl) vf_X7_lay ml_X7_191 (by decide) (show 0 < 17 from by decide) rfl rfl rfl rfl rfl (Nat.le_of_ble_eq_true rfl) (gDec_at DX7_findBest_0 47 rfl) ?_
                    refine g_if_eqN hC (by decide) (gDec_at DX7_findBest_0 48 rfl) 143 (by decide) (fun h => ?_) (fun h => absurd h (by decide))
                    refine g_iincN hC (gDec_at DX7_findBest_1 18 rfl) rfl (by decide) (L' := [(4, .int (nI (i + 1))), (0, .ref (q.2.2 0)), (1, .int (nI x)), (2, .int (nI f)), (3, .int (nI 3))]) rfl ?_
                    refine g_goto hC (gDec_at DX7_findBest_1 19 rfl) 65 (by decide) ?_
                    refine g_sub [1, 2, 3, 4, 0] (L' := [(0, .ref (q.2.2 0)), (1, .int (nI x)), (2, .int (nI f)), (3, .int (nI 3)), (4, .int (nI (i + 1)))]) rfl ?_
                    have e9 : (mF2 (sPull B x) f B 0 (fun _ => 0) 0 (i + 1) (mF1 (sPull B x) f B 0 (fun _ => 0) 0 12 (mjd (sPull B x) f B 0 (fun _ => 0) (0, 0, (fun _ => 0))))) = (mF2 (sPull B x) f B 0 (fun _ => 0) 0 i (mF1 (sPull B x) f B 0 (fun _ => 0) 0 12 (mjd (sPull B x) f B 0 (fun _ => 0) (0, 0, (fun _ => 0))))) := if_neg (fun z => hl z.2)
                    have h9 := ih_l65 (i + 1) M1 (by omega) (by omega) (hq1) (by rw [e9]; exact hT1)
                    exact h9
          exact g_sub [1, 2, 3, 4, 0] rfl (l65 (12 + 1 - 0) 0 _ (by omega) (by omega) hq1 hT1)
        · skip
          refine g_aload_n hC (gDec_at DX7_findBest_0 16 rfl) rfl ?_
          refine g_iload hC (gDec_at DX7_findBest_0 17 rfl) rfl ?_
          refine g_iconst hC (gDec_at DX7_findBest_0 18 rfl) (v := nI 0) (by decide) ?_
          refine g_callVd (w := wM q) hC 0 (c_X7_lay_no q hI1 (i := i) (n := 0) (by omega) hl) vf_X7_lay ml_X7_191 (by decide) (show 0 < 17 from by decide) rfl rfl rfl rfl rfl (Nat.le_of_ble_eq_true rfl) (gDec_at DX7_findBest_0 19 rfl) ?_
          refine g_if_eqN hC (by decide) (gDec_at DX7_findBest_0 20 rfl) 56 (by decide) (fun h => ?_) (fun h => absurd h (by decide))
          refine g_iincN hC (gDec_at DX7_findBest_0 34 rfl) rfl (by decide) (L' := [(4, .int (nI (i + 1))), (0, .ref (q.2.2 0)), (1, .int (nI x)), (2, .int (nI f)), (3, .int (nI 3))]) rfl ?_
          refine g_goto hC (gDec_at DX7_findBest_0 35 rfl) 21 (by decide) ?_
          refine g_sub [1, 2, 3, 4, 0] (L' := [(0, .ref (q.2.2 0)), (1, .int (nI x)), (2, .int (nI f)), (3, .int (nI 3)), (4, .int (nI (i + 1)))]) rfl ?_
          have e9 : (mF1 (sPull B x) f B 0 (fun _ => 0) 0 (i + 1) (mjd (sPull B x) f B 0 (fun _ => 0) (0, 0, (fun _ => 0)))) = (mF1 (sPull B x) f B 0 (fun _ => 0) 0 i (mjd (sPull B x) f B 0 (fun _ => 0) (0, 0, (fun _ => 0)))) := if_neg (fun z => hl z.2)
          have h9 := ih_l21 (i + 1) M1 (by omega) (by omega) (hq1) (by rw [e9]; exact hT1)
          exact h9
  exact g_sub [1, 2, 3, 4, 0] rfl (l21 (12 + 1 - 0) 0 _ (by omega) (by omega) (mQ_tr hq0 hq6) hT6)
