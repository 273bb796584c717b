/-! BOW, READ ONLY: places, woods, what they give -/
set_option maxRecDepth 100000 in
set_option maxHeartbeats 4000000 in
theorem c_X0_has (q : gQ3) {M : gM} {B : gB} (hI : cI M B) {j : Nat} (hj : j < 12) : gCt (wC q) yX0_has cX0_has 2 (some .boolean) 0 [.ref (q.2.2 9), .ref (q.2.2 (15 + j))] M (gR (some (.int (gb (j % 6 < B 9 0)))) M) := by
  refine gMet RX0 (by decide +kernel) rfl (Nat.le_of_ble_eq_true rfl) (fun X hC => ?_)
  have hC : gC X (wC q) cX0_has 2 RX0 (some .boolean) 0 := hC
  show gG X (wC q) _ 2 M 0 [(0, .ref (q.2.2 9)), (1, .ref (q.2.2 (15 + j)))] []
  have hm := bv_many hI.2.2
  refine g_aload_n hC (gDec_at DX0_has_0 0 rfl) rfl ?_
  refine g_get (w := wC q) hC (15 + j) (v := .int (nI (j % 6 + 1))) fl_X0_49 (show 15 + j < 63 from by have := hj; omega) (cC_p0 q _ _ hj) (g_sv (ci_arm hI hj)) (gDec_at DX0_has_0 1 rfl) ?_
  refine g_aload_n hC (gDec_at DX0_has_0 2 rfl) rfl ?_
  refine g_get (w := wC q) hC 9 (v := .int (nI (B 9 0))) fl_X0_29 (show 9 < 63 from by decide) rfl (g_sv (ci_many hI)) (gDec_at DX0_has_0 3 rfl) ?_
  refine g_icmp_gtN hC (by omega) (by omega) (gDec_at DX0_has_0 4 rfl) 15 (by decide) (fun h8 => ?_) (fun h8 => ?_)
  · skip
    refine g_iconst hC (gDec_at DX0_has_0 7 rfl) (v := nI 0) (by decide) ?_
    refine g_zret hC (Or.inl rfl) (gDec_at DX0_has_0 8 rfl) ?_
    exact ⟨by rw [gb_f (show ¬ j % 6 < B 9 0 by omega)]; rfl, rfl⟩
  · skip
    refine g_iconst hC (gDec_at DX0_has_0 5 rfl) (v := nI 1) (by decide) ?_
    refine g_goto hC (gDec_at DX0_has_0 6 rfl) 16 (by decide) ?_
    refine g_zret hC (Or.inr rfl) (gDec_at DX0_has_0 8 rfl) ?_
    exact ⟨by rw [gb_t (show j % 6 < B 9 0 by omega)]; rfl, rfl⟩
