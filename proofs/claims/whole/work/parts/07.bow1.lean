/-! BOW, READ ONLY: places, woods, what they give -/
set_option maxRecDepth 100000 in
set_option maxHeartbeats 4000000 in
theorem c_X0_has (q : gQ3) {M : gM} {B : gB} (hI : cI M B) {j : Nat} (hj : j < 12) : gCt (wC q) yX0_has cX0_has 2 (some .boolean) 0 [.ref (q.2.2 9), .ref (q.2.2 (15 + j))] M (gR (some (.int (gb (j % 6 < B 9 0)))) M) := by
  refine gMet RX0 (by decide +kernel) rfl (Nat.le_of_ble_eq_true rfl) (fun X hC => ?_)
  have hC : gC X (wC q) cX0_has 2 RX0 (some .boolean) 0 := hC
  show gG X (wC q) _ 2 M 0 [(0, .ref (q.2.2 9)), (1, .ref (q.2.2 (15 + j)))] []
  have hm := bv_many hI.2.2
  refine g_aload_n hC (gDec_at DX0_has_0 0 rfl) rfl ?_
  refine g_get (w := wC q) hC (15 + j) (v := .int (nI (j % 6 + 1))) fl_X0_49 (show 15 + j < 63 from by have := hj; omega) (cC_p0 q _ _ hj) (g_sv (ci_arm hI hj)) (gDec_at DX0_has_0 1 rfl) ?_
  refine g_aload_n hC (gDec_at DX0_has_0 2 rfl) rfl ?_
  refine g_get (w := wC q) hC 9 (v := .int (nI (B 9 0))) fl_X0_29 (show 9 < 63 from by decide) rfl (g_sv (ci_many hI)) (gDec_at DX0_has_0 3 rfl) ?_
  refine g_icmp_gtN hC (by omega) (by omega) (gDec_at DX0_has_0 4 rfl) 15 (by decide) (fun h8 => ?_) (fun h8 => ?_)
  · skip
    refine g_iconst hC (gDec_at DX0_has_0 7 rfl) (v := nI 0) (by decide) ?_
    refine g_zret hC (Or.inl rfl) (gDec_at DX0_has_0 8 rfl) ?_
    exact ⟨by rw [gb_f (show ¬ j % 6 < B 9 0 by omega)]; rfl, rfl⟩
  · skip
    refine g_iconst hC (gDec_at DX0_has_0 5 rfl) (v := nI 1) (by decide) ?_
    refine g_goto hC (gDec_at DX0_has_0 6 rfl) 16 (by decide) ?_
    refine g_zret hC (Or.inr rfl) (gDec_at DX0_has_0 8 rfl) ?_
    exact ⟨by rw [gb_t (show j % 6 < B 9 0 by omega)]; rfl, rfl⟩

set_option maxRecDepth 100000 in
set_option maxHeartbeats 4000000 in
theorem c_X6_quotient (q : gQ3) {M : gM} {a b : Nat} (ha : a < 9223372036854775808) (hb : b < 9223372036854775808) : gCt (wC q) yX6_quotient cX6_quotient 4 (some .long) 0 [.long (lN a), .long (lN b)] M (gR (some (.long (lN (a / b)))) M) := by
  refine gMet RX6 (by decide +kernel) rfl (Nat.le_of_ble_eq_true rfl) (fun X hC => ?_)
  have hC : gC X (wC q) cX6_quotient 4 RX6 (some .long) 0 := hC
  show gG X (wC q) _ 4 M 0 [(0, .long (lN a)), (2, .long (lN b))] []
  refine g_lload_n hC (gDec_at DX6_quotient_0 0 rfl) rfl ?_
  refine g_lconst hC (gDec_at DX6_quotient_0 1 rfl) (v := lN 0) (by decide) ?_
  refine g_lc_leN hC (by omega) (by omega) (gDec_at DX6_quotient_0 2 rfl) (gDec_at DX6_quotient_0 3 rfl) 12 (by decide) (fun h2 => ?_) (fun h2 => ?_)
  · skip
    refine g_lconst hC (gDec_at DX6_quotient_0 8 rfl) (v := lN 0) (by decide) ?_
    refine g_lret hC (gDec_at DX6_quotient_0 9 rfl) ?_
    exact ⟨by rw [show b = 0 by omega, Nat.div_zero], rfl⟩
  · skip
    refine g_lload_n hC (gDec_at DX6_quotient_0 4 rfl) rfl ?_
    refine g_lload_n hC (gDec_at DX6_quotient_0 5 rfl) rfl ?_
    refine g_ldivN hC (by omega) (by omega) (by omega) (gDec_at DX6_quotient_0 6 rfl) ?_
    refine g_goto hC (gDec_at DX6_quotient_0 7 rfl) 13 (by decide) ?_
    refine g_lret hC (gDec_at DX6_quotient_0 9 rfl) ?_
    exact ⟨rfl, rfl⟩

set_option maxRecDepth 100000 in
set_option maxHeartbeats 4000000 in
theorem c_X0_eOf (q : gQ3) {M : gM} {B : gB} (hI : cI M B) {j : Nat} (hj : j < 12) (ht : j % 6 < B 9 0) : gCt (wC q) yX0_eOf cX0_eOf 2 (some .long) 0 [.ref (q.2.2 9), .ref (q.2.2 (15 + j))] M (gR (some (.long (lN (B 6 (B 2 j))))) M) := by
  refine gMet RX0 (by decide +kernel) rfl (Nat.le_of_ble_eq_true rfl) (fun X hC => ?_)
  have hC : gC X (wC q) cX0_eOf 2 RX0 (some .long) 0 := hC
  show gG X (wC q) _ 2 M 0 [(0, .ref (q.2.2 9)), (1, .ref (q.2.2 (15 + j)))] []
  have h2 := bv_f2 hI.2.2 hj ht
  have he := bv_e hI.2.2 h2
  refine g_aload_n hC (gDec_at DX0_eOf_0 0 rfl) rfl ?_
  refine g_get (w := wC q) hC (15 + j) (v := .int (nI (B 2 j))) fl_X0_78 (show 15 + j < 63 from by have := hj; omega) (cC_p0 q _ _ hj) (g_sv (ci_f2 hI hj ht)) (gDec_at DX0_eOf_0 1 rfl) ?_
  refine g_if_ltN hC (by omega) (gDec_at DX0_eOf_0 2 rfl) ?_ 35 (by decide)
  refine g_aload_n hC (gDec_at DX0_eOf_0 3 rfl) rfl ?_
  refine g_get (w := wC q) hC (15 + j) (v := .int (nI (B 2 j))) fl_X0_78 (show 15 + j < 63 from by have := hj; omega) (cC_p0 q _ _ hj) (g_sv (ci_f2 hI hj ht)) (gDec_at DX0_eOf_0 4 rfl) ?_
  refine g_aload_n hC (gDec_at DX0_eOf_0 5 rfl) rfl ?_
  refine g_get (w := wC q) hC 9 (v := .ref (q.2.2 10)) fl_X0_14 (show 9 < 63 from by decide) rfl rfl (gDec_at DX0_eOf_0 6 rfl) ?_
  refine g_alen (w := wC q) hC 10 5 (show 10 < 63 from by decide) rfl rfl (gDec_at DX0_eOf_0 7 rfl) ?_
  refine g_icmp_geN hC (by omega) (by omega) (gDec_at DX0_eOf_0 8 rfl) 35 (by decide) (fun h16 => ?_) (fun h16 => ?_)
  · skip
    exact absurd h2 (by omega)
  · skip
    refine g_aload_n hC (gDec_at DX0_eOf_0 9 rfl) rfl ?_
    refine g_get (w := wC q) hC 9 (v := .ref (q.2.2 10)) fl_X0_14 (show 9 < 63 from by decide) rfl rfl (gDec_at DX0_eOf_0 10 rfl) ?_
    refine g_aload_n hC (gDec_at DX0_eOf_0 11 rfl) rfl ?_
    refine g_get (w := wC q) hC (15 + j) (v := .int (nI (B 2 j))) fl_X0_78 (show 15 + j < 63 from by have := hj; omega) (cC_p0 q _ _ hj) (g_sv (ci_f2 hI hj ht)) (gDec_at DX0_eOf_0 12 rfl) ?_
    refine g_aald (w := wC q) hC 10 5 (B 2 j) (a := q.2.2 (12 + (B 2 j))) (show 10 < 63 from by decide) rfl rfl h2 (by decide) rfl (gDec_at DX0_eOf_0 13 rfl) ?_
    refine g_get (w := wC q) hC (12 + (B 2 j)) (v := .int (nI (B 6 (B 2 j)))) fl_X0_59 (show 12 + (B 2 j) < 63 from by have := h2; omega) (cC_w0 q _ _ h2) (g_sv (ci_e hI h2)) (gDec_at DX0_eOf_0 14 rfl) ?_
    refine g_i2lN hC (by omega) (gDec_at DX0_eOf_0 15 rfl) ?_
    refine g_goto hC (gDec_at DX0_eOf_0 16 rfl) 36 (by decide) ?_
    refine g_lret hC (gDec_at DX0_eOf_0 18 rfl) ?_
    exact ⟨rfl, rfl⟩

set_option maxRecDepth 100000 in
set_option maxHeartbeats 4000000 in
theorem c_X0_giveAtDepth (q : gQ3) {M : gM} {B : gB} (hI : cI M B) {j : Nat} (hj : j < 12) (ht : j % 6 < B 9 0) {d : Nat} (hd : d ≤ 40) : gCt (wC q) yX0_giveAtDepth cX0_giveAtDepth 4 (some .long) 1 [.ref (q.2.2 9), .ref (q.2.2 (15 + j)), .long (lN d)] M (gR (some (.long (lN (sGive B j d)))) M) := by
  refine gMet RX0 (by decide +kernel) rfl (Nat.le_of_ble_eq_true rfl) (fun X hC => ?_)
  have hC : gC X (wC q) cX0_giveAtDepth 4 RX0 (some .long) 1 := hC
  show gG X (wC q) _ 4 M 0 [(0, .ref (q.2.2 9)), (1, .ref (q.2.2 (15 + j))), (2, .long (lN d))] []
  have h2 := bv_f2 hI.2.2 hj ht
  have he := bv_e hI.2.2 h2
  have h0 := bv_f0 hI.2.2 hj ht
  have hden := sDen_bd hI.2.2 hj ht hd
  have h3 : j % 6 + 1 ≤ 6 := by omega
  have hnum : 1000000000 * (j % 6 + 1) * (j % 6 + 1) ≤ 1000000000 * 6 * 6 := mul_bd (mul_bd (Nat.le_refl _) h3) h3
  refine g_ldc2 hC cl_X0_96 (v' := lN 1000000000) (by decide) (gDec_at DX0_giveAtDepth_0 0 rfl) ?_
  refine g_aload_n hC (gDec_at DX0_giveAtDepth_0 1 rfl) rfl ?_
  refine g_get (w := wC q) hC (15 + j) (v := .int (nI (j % 6 + 1))) fl_X0_49 (show 15 + j < 63 from by have := hj; omega) (cC_p0 q _ _ hj) (g_sv (ci_arm hI hj)) (gDec_at DX0_giveAtDepth_0 2 rfl) ?_
  refine g_i2lN hC (by omega) (gDec_at DX0_giveAtDepth_0 3 rfl) ?_
  refine g_lmulN hC (gDec_at DX0_giveAtDepth_0 4 rfl) ?_
  refine g_aload_n hC (gDec_at DX0_giveAtDepth_0 5 rfl) rfl ?_
  refine g_get (w := wC q) hC (15 + j) (v := .int (nI (j % 6 + 1))) fl_X0_49 (show 15 + j < 63 from by have := hj; omega) (cC_p0 q _ _ hj) (g_sv (ci_arm hI hj)) (gDec_at DX0_giveAtDepth_0 6 rfl) ?_
  refine g_i2lN hC (by omega) (gDec_at DX0_giveAtDepth_0 7 rfl) ?_
  refine g_lmulN hC (gDec_at DX0_giveAtDepth_0 8 rfl) ?_
  refine g_aload_n hC (gDec_at DX0_giveAtDepth_0 9 rfl) rfl ?_
  refine g_aload_n hC (gDec_at DX0_giveAtDepth_0 10 rfl) rfl ?_
  refine g_callVd (w := wC q) hC 9 (c_X0_eOf q hI hj ht) vf_X0_eOf ml_X0_98 (by decide) (show 9 < 63 from by decide) rfl rfl rfl rfl rfl (Nat.le_of_ble_eq_true rfl) (gDec_at DX0_giveAtDepth_0 11 rfl) ?_
  refine g_aload_n hC (gDec_at DX0_giveAtDepth_0 12 rfl) rfl ?_
  refine g_get (w := wC q) hC (15 + j) (v := .int (nI (B 0 j))) fl_X0_102 (show 15 + j < 63 from by have := hj; omega) (cC_p0 q _ _ hj) (g_sv (ci_f0 hI hj ht)) (gDec_at DX0_giveAtDepth_0 13 rfl) ?_
  refine g_i2lN hC (by omega) (gDec_at DX0_giveAtDepth_0 14 rfl) ?_
  refine g_lmulN hC (gDec_at DX0_giveAtDepth_0 15 rfl) ?_
  refine g_lload_n hC (gDec_at DX0_giveAtDepth_0 16 rfl) rfl ?_
  refine g_lmulN hC (gDec_at DX0_giveAtDepth_0 17 rfl) ?_
  refine g_lload_n hC (gDec_at DX0_giveAtDepth_0 18 rfl) rfl ?_
  refine g_lmulN hC (gDec_at DX0_giveAtDepth_0 19 rfl) ?_
  refine g_lload_n hC (gDec_at DX0_giveAtDepth_0 20 rfl) rfl ?_
  refine g_lmulN hC (gDec_at DX0_giveAtDepth_0 21 rfl) ?_
  refine g_callSNd (w := wC q) hC (c_X6_quotient q (by omega) (by omega)) sf_X6_quotient ml_X0_105 (by decide) rfl rfl (Nat.le_of_ble_eq_true rfl) (gDec_at DX0_giveAtDepth_0 22 rfl) ?_
  refine g_lret hC (gDec_at DX0_giveAtDepth_0 23 rfl) ?_
  exact ⟨rfl, rfl⟩

set_option maxRecDepth 100000 in
set_option maxHeartbeats 4000000 in
theorem c_X0_giveOf (q : gQ3) {M : gM} {B : gB} (hI : cI M B) {j : Nat} (hj : j < 12) (ht : j % 6 < B 9 0) : gCt (wC q) yX0_giveOf cX0_giveOf 2 (some .long) 2 [.ref (q.2.2 9), .ref (q.2.2 (15 + j))] M (gR (some (.long (lN (sGive B j (B 1 j))))) M) := by
  refine gMet RX0 (by decide +kernel) rfl (Nat.le_of_ble_eq_true rfl) (fun X hC => ?_)
  have hC : gC X (wC q) cX0_giveOf 2 RX0 (some .long) 2 := hC
  show gG X (wC q) _ 2 M 0 [(0, .ref (q.2.2 9)), (1, .ref (q.2.2 (15 + j)))] []
  have h1 := bv_f1 hI.2.2 hj ht
  refine g_aload_n hC (gDec_at DX0_giveOf_0 0 rfl) rfl ?_
  refine g_aload_n hC (gDec_at DX0_giveOf_0 1 rfl) rfl ?_
  refine g_aload_n hC (gDec_at DX0_giveOf_0 2 rfl) rfl ?_
  refine g_get (w := wC q) hC (15 + j) (v := .int (nI (B 1 j))) fl_X0_89 (show 15 + j < 63 from by have := hj; omega) (cC_p0 q _ _ hj) (g_sv (ci_f1 hI hj ht)) (gDec_at DX0_giveOf_0 3 rfl) ?_
  refine g_i2lN hC (by omega) (gDec_at DX0_giveOf_0 4 rfl) ?_
  refine g_callVd (w := wC q) hC 9 (c_X0_giveAtDepth q hI hj ht (by omega)) vf_X0_giveAtDepth ml_X0_92 (by decide) (show 9 < 63 from by decide) rfl rfl rfl rfl rfl (Nat.le_of_ble_eq_true rfl) (gDec_at DX0_giveOf_0 5 rfl) ?_
  refine g_lret hC (gDec_at DX0_giveOf_0 6 rfl) ?_
  exact ⟨rfl, rfl⟩

theorem limb_sum (B : gB) {l : Nat} (hl : l < 2) (hm : B 9 0 ≤ 6) : gsm (fun i => if i % 6 < B 9 0 ∧ i / 6 = l then sGive B i (B 1 i) else 0) 12 = sLimb B l := by
  rcases (show l = 0 ∨ l = 1 by omega) with rfl | rfl <;> simp [gsm, sLimb]
set_option maxRecDepth 100000 in
set_option maxHeartbeats 4000000 in
theorem c_X0_limbGives (q : gQ3) {M : gM} {B : gB} (hI : cI M B) {l : Nat} (hl : l < 2) : gCt (wC q) yX0_limbGives cX0_limbGives 8 (some .long) 3 [.ref (q.2.2 9), .int (nI l)] M (gR (some (.long (lN (sLimb B l)))) M) := by
  refine gMet RX0 (by decide +kernel) rfl (Nat.le_of_ble_eq_true rfl) (fun X hC => ?_)
  have hC : gC X (wC q) cX0_limbGives 8 RX0 (some .long) 3 := hC
  show gG X (wC q) _ 8 M 0 [(0, .ref (q.2.2 9)), (1, .int (nI l))] []
  have hm := bv_many hI.2.2
  refine g_lconst hC (gDec_at DX0_limbGives_0 0 rfl) (v := lN 0) (by decide) ?_
  refine g_lstore_n hC (gDec_at DX0_limbGives_0 1 rfl) (by decide) (L' := [(2, .long (lN 0)), (0, .ref (q.2.2 9)), (1, .int (nI l))]) rfl ?_
  refine g_aload_n hC (gDec_at DX0_limbGives_0 2 rfl) rfl ?_
  refine g_get (w := wC q) hC 9 (v := .ref (q.2.2 11)) fl_X0_22 (show 9 < 63 from by decide) rfl rfl (gDec_at DX0_limbGives_0 3 rfl) ?_
  refine g_astore hC (gDec_at DX0_limbGives_0 4 rfl) (by decide) (L' := [(4, .ref (q.2.2 11)), (2, .long (lN 0)), (0, .ref (q.2.2 9)), (1, .int (nI l))]) rfl ?_
  refine g_aload hC (gDec_at DX0_limbGives_0 5 rfl) rfl ?_
  refine g_alen (w := wC q) hC 11 3 (show 11 < 63 from by decide) rfl rfl (gDec_at DX0_limbGives_0 6 rfl) ?_
  refine g_istore hC (gDec_at DX0_limbGives_0 7 rfl) (by decide) (L' := [(5, .int (nI 12)), (4, .ref (q.2.2 11)), (2, .long (lN 0)), (0, .ref (q.2.2 9)), (1, .int (nI l))]) rfl ?_
  refine g_iconst hC (gDec_at DX0_limbGives_0 8 rfl) (v := nI 0) (by decide) ?_
  refine g_istore hC (gDec_at DX0_limbGives_0 9 rfl) (by decide) (L' := [(6, .int (nI 0)), (5, .int (nI 12)), (4, .ref (q.2.2 11)), (2, .long (lN 0)), (0, .ref (q.2.2 9)), (1, .int (nI l))]) rfl ?_
  have loop16 : ∀ (fu i : Nat), i ≤ 12 → 12 - i < fu → gG X (wC q) (gR (some (.long (lN (sLimb B l)))) M) 8 M 16 [(0, .ref (q.2.2 9)), (1, .int (nI l)), (2, .long (lN (gsm (fun i => if i % 6 < B 9 0 ∧ i / 6 = l then sGive B i (B 1 i) else 0) i))), (4, .ref (q.2.2 11)), (5, .int (nI 12)), (6, .int (nI i))] [] := by
    intro fu; induction fu with
    | zero => intro i h1 h2; omega
    | succ fu ih =>
      intro i hi hfu 
      refine g_iload hC (gDec_at DX0_limbGives_0 10 rfl) rfl ?_
      refine g_iload hC (gDec_at DX0_limbGives_0 11 rfl) rfl ?_
      refine g_icmp_geN hC (by omega) (by omega) (gDec_at DX0_limbGives_0 12 rfl) 63 (by decide) (fun h20 => ?_) (fun h20 => ?_)
      · skip
        obtain rfl : i = 12 := by omega
        rw [limb_sum B hl hm.2]
        refine g_lload_n hC (gDec_at DX0_limbGives_0 33 rfl) rfl ?_
        refine g_lret hC (gDec_at DX0_limbGives_0 34 rfl) ?_
        exact ⟨rfl, rfl⟩
      · skip
        refine g_aload hC (gDec_at DX0_limbGives_0 13 rfl) rfl ?_
        refine g_iload hC (gDec_at DX0_limbGives_0 14 rfl) rfl ?_
        refine g_aald (w := wC q) hC 11 3 i (a := q.2.2 (15 + i)) (show 11 < 63 from by decide) rfl rfl (by omega) (by decide) rfl (gDec_at DX0_limbGives_0 15 rfl) ?_
        refine g_astore hC (gDec_at DX0_limbGives_0 16 rfl) (by decide) (L' := [(7, .ref (q.2.2 (15 + i))), (0, .ref (q.2.2 9)), (1, .int (nI l)), (2, .long (lN (gsm (fun i => if i % 6 < B 9 0 ∧ i / 6 = l then sGive B i (B 1 i) else 0) i))), (4, .ref (q.2.2 11)), (5, .int (nI 12)), (6, .int (nI i))]) rfl ?_
        refine g_aload_n hC (gDec_at DX0_limbGives_0 17 rfl) rfl ?_
        refine g_aload hC (gDec_at DX0_limbGives_0 18 rfl) rfl ?_
        refine g_callVd (w := wC q) hC 9 (c_X0_has q hI (by omega)) vf_X0_has ml_X0_42 (by decide) (show 9 < 63 from by decide) rfl rfl rfl rfl rfl (Nat.le_of_ble_eq_true rfl) (gDec_at DX0_limbGives_0 19 rfl) ?_
        refine g_if_eqB hC (gDec_at DX0_limbGives_0 20 rfl) 57 (by decide) (fun h36 => ?_) (fun h36 => ?_)
        · skip
          refine g_iincN hC (gDec_at DX0_limbGives_0 31 rfl) rfl (by decide) (L' := [(6, .int (nI (i + 1))), (7, .ref (q.2.2 (15 + i))), (0, .ref (q.2.2 9)), (1, .int (nI l)), (2, .long (lN (gsm (fun i => if i % 6 < B 9 0 ∧ i / 6 = l then sGive B i (B 1 i) else 0) i))), (4, .ref (q.2.2 11)), (5, .int (nI 12))]) rfl ?_
          refine g_goto hC (gDec_at DX0_limbGives_0 32 rfl) 16 (by decide) ?_
          refine g_sub [2, 3, 4, 5, 6, 0] (L' := [(0, .ref (q.2.2 9)), (1, .int (nI l)), (2, .long (lN (gsm (fun i => if i % 6 < B 9 0 ∧ i / 6 = l then sGive B i (B 1 i) else 0) i))), (4, .ref (q.2.2 11)), (5, .int (nI 12)), (6, .int (nI (i + 1)))]) rfl ?_
          have h9 := ih (i + 1) (by omega) (by omega)
          rw [show gsm (fun i => if i % 6 < B 9 0 ∧ i / 6 = l then sGive B i (B 1 i) else 0) (i + 1) = gsm (fun i => if i % 6 < B 9 0 ∧ i / 6 = l then sGive B i (B 1 i) else 0) i from gsm_s0 (if_neg (fun z => h36 z.1))] at h9
          exact h9
        · skip
          refine g_aload hC (gDec_at DX0_limbGives_0 21 rfl) rfl ?_
          refine g_get (w := wC q) hC (15 + i) (v := .int (nI (i / 6))) fl_X0_46 (show 15 + i < 63 from by have := (by omega); omega) (cC_p0 q _ _ (by omega)) (g_sv (ci_side hI (by omega))) (gDec_at DX0_limbGives_0 22 rfl) ?_
          refine g_iload_n hC (gDec_at DX0_limbGives_0 23 rfl) rfl ?_
          refine g_icmp_neN hC (by omega) (by omega) (gDec_at DX0_limbGives_0 24 rfl) 57 (by decide) (fun h45 => ?_) (fun h45 => ?_)
          · skip
            refine g_iincN hC (gDec_at DX0_limbGives_0 31 rfl) rfl (by decide) (L' := [(6, .int (nI (i + 1))), (7, .ref (q.2.2 (15 + i))), (0, .ref (q.2.2 9)), (1, .int (nI l)), (2, .long (lN (gsm (fun i => if i % 6 < B 9 0 ∧ i / 6 = l then sGive B i (B 1 i) else 0) i))), (4, .ref (q.2.2 11)), (5, .int (nI 12))]) rfl ?_
            refine g_goto hC (gDec_at DX0_limbGives_0 32 rfl) 16 (by decide) ?_
            refine g_sub [2, 3, 4, 5, 6, 0] (L' := [(0, .ref (q.2.2 9)), (1, .int (nI l)), (2, .long (lN (gsm (fun i => if i % 6 < B 9 0 ∧ i / 6 = l then sGive B i (B 1 i) else 0) i))), (4, .ref (q.2.2 11)), (5, .int (nI 12)), (6, .int (nI (i + 1)))]) rfl ?_
            have h9 := ih (i + 1) (by omega) (by omega)
            rw [show gsm (fun i => if i % 6 < B 9 0 ∧ i / 6 = l then sGive B i (B 1 i) else 0) (i + 1) = gsm (fun i => if i % 6 < B 9 0 ∧ i / 6 = l then sGive B i (B 1 i) else 0) i from gsm_s0 (if_neg (fun z => h45 z.2))] at h9
            exact h9
          · skip
            refine g_lload_n hC (gDec_at DX0_limbGives_0 25 rfl) rfl ?_
            refine g_aload_n hC (gDec_at DX0_limbGives_0 26 rfl) rfl ?_
            refine g_aload hC (gDec_at DX0_limbGives_0 27 rfl) rfl ?_
            refine g_callVd (w := wC q) hC 9 (c_X0_giveOf q hI (by omega) (by omega)) vf_X0_giveOf ml_X0_109 (by decide) (show 9 < 63 from by decide) rfl rfl rfl rfl rfl (Nat.le_of_ble_eq_true rfl) (gDec_at DX0_limbGives_0 28 rfl) ?_
            refine g_laddN hC (gDec_at DX0_limbGives_0 29 rfl) ?_
            refine g_lstore_n hC (gDec_at DX0_limbGives_0 30 rfl) (by decide) (L' := [(2, .long (lN ((gsm (fun i => if i % 6 < B 9 0 ∧ i / 6 = l then sGive B i (B 1 i) else 0) i) + (sGive B i (B 1 i))))), (7, .ref (q.2.2 (15 + i))), (0, .ref (q.2.2 9)), (1, .int (nI l)), (4, .ref (q.2.2 11)), (5, .int (nI 12)), (6, .int (nI i))]) rfl ?_
            refine g_iincN hC (gDec_at DX0_limbGives_0 31 rfl) rfl (by decide) (L' := [(6, .int (nI (i + 1))), (2, .long (lN ((gsm (fun i => if i % 6 < B 9 0 ∧ i / 6 = l then sGive B i (B 1 i) else 0) i) + (sGive B i (B 1 i))))), (7, .ref (q.2.2 (15 + i))), (0, .ref (q.2.2 9)), (1, .int (nI l)), (4, .ref (q.2.2 11)), (5, .int (nI 12))]) rfl ?_
            refine g_goto hC (gDec_at DX0_limbGives_0 32 rfl) 16 (by decide) ?_
            refine g_sub [3, 4, 1, 5, 6, 0] (L' := [(0, .ref (q.2.2 9)), (1, .int (nI l)), (2, .long (lN ((gsm (fun i => if i % 6 < B 9 0 ∧ i / 6 = l then sGive B i (B 1 i) else 0) i) + (sGive B i (B 1 i))))), (4, .ref (q.2.2 11)), (5, .int (nI 12)), (6, .int (nI (i + 1)))]) rfl ?_
            have h9 := ih (i + 1) (by omega) (by omega)
            rw [show gsm (fun i => if i % 6 < B 9 0 ∧ i / 6 = l then sGive B i (B 1 i) else 0) (i + 1) = gsm (fun i => if i % 6 < B 9 0 ∧ i / 6 = l then sGive B i (B 1 i) else 0) i + sGive B i (B 1 i) from gsm_s (if_pos ⟨h36, h45⟩)] at h9
            exact h9
  exact g_sub [4, 5, 3, 2, 1, 0] rfl (loop16 (12 + 1 - 0) 0 (by omega) (by omega))

set_option maxRecDepth 100000 in
set_option maxHeartbeats 4000000 in
theorem c_X0_allGives (q : gQ3) {M : gM} {B : gB} (hI : cI M B) : gCt (wC q) yX0_allGives cX0_allGives 1 (some .long) 4 [.ref (q.2.2 9)] M (gR (some (.long (lN (sAll B)))) M) := by
  refine gMet RX0 (by decide +kernel) rfl (Nat.le_of_ble_eq_true rfl) (fun X hC => ?_)
  have hC : gC X (wC q) cX0_allGives 1 RX0 (some .long) 4 := hC
  show gG X (wC q) _ 1 M 0 [(0, .ref (q.2.2 9))] []
  refine g_aload_n hC (gDec_at DX0_allGives_0 0 rfl) rfl ?_
  refine g_iconst hC (gDec_at DX0_allGives_0 1 rfl) (v := nI 0) (by decide) ?_
  refine g_callVd (w := wC q) hC 9 (c_X0_limbGives q hI (l := 0) (by omega)) vf_X0_limbGives ml_X0_112 (by decide) (show 9 < 63 from by decide) rfl rfl rfl rfl rfl (Nat.le_of_ble_eq_true rfl) (gDec_at DX0_allGives_0 2 rfl) ?_
  refine g_aload_n hC (gDec_at DX0_allGives_0 3 rfl) rfl ?_
  refine g_iconst hC (gDec_at DX0_allGives_0 4 rfl) (v := nI 1) (by decide) ?_
  refine g_callVd (w := wC q) hC 9 (c_X0_limbGives q hI (l := 1) (by omega)) vf_X0_limbGives ml_X0_112 (by decide) (show 9 < 63 from by decide) rfl rfl rfl rfl rfl (Nat.le_of_ble_eq_true rfl) (gDec_at DX0_allGives_0 5 rfl) ?_
  refine g_laddN hC (gDec_at DX0_allGives_0 6 rfl) ?_
  refine g_lret hC (gDec_at DX0_allGives_0 7 rfl) ?_
  exact ⟨rfl, rfl⟩

set_option maxRecDepth 100000 in
set_option maxHeartbeats 4000000 in
theorem c_X0_allSets (q : gQ3) {M : gM} {B : gB} (hI : cI M B) : gCt (wC q) yX0_allSets cX0_allSets 6 (some .int) 1 [.ref (q.2.2 9)] M (gR (some (.int (nI (sSets B)))) M) := by
  refine gMet RX0 (by decide +kernel) rfl (Nat.le_of_ble_eq_true rfl) (fun X hC => ?_)
  have hC : gC X (wC q) cX0_allSets 6 RX0 (some .int) 1 := hC
  show gG X (wC q) _ 6 M 0 [(0, .ref (q.2.2 9))] []
  have hm := bv_many hI.2.2
  refine g_iconst hC (gDec_at DX0_allSets_0 0 rfl) (v := nI 0) (by decide) ?_
  refine g_istore_n hC (gDec_at DX0_allSets_0 1 rfl) (by decide) (L' := [(1, .int (nI 0)), (0, .ref (q.2.2 9))]) rfl ?_
  refine g_aload_n hC (gDec_at DX0_allSets_0 2 rfl) rfl ?_
  refine g_get (w := wC q) hC 9 (v := .ref (q.2.2 11)) fl_X0_22 (show 9 < 63 from by decide) rfl rfl (gDec_at DX0_allSets_0 3 rfl) ?_
  refine g_astore_n hC (gDec_at DX0_allSets_0 4 rfl) (by decide) (L' := [(2, .ref (q.2.2 11)), (1, .int (nI 0)), (0, .ref (q.2.2 9))]) rfl ?_
  refine g_aload_n hC (gDec_at DX0_allSets_0 5 rfl) rfl ?_
  refine g_alen (w := wC q) hC 11 3 (show 11 < 63 from by decide) rfl rfl (gDec_at DX0_allSets_0 6 rfl) ?_
  refine g_istore_n hC (gDec_at DX0_allSets_0 7 rfl) (by decide) (L' := [(3, .int (nI 12)), (2, .ref (q.2.2 11)), (1, .int (nI 0)), (0, .ref (q.2.2 9))]) rfl ?_
  refine g_iconst hC (gDec_at DX0_allSets_0 8 rfl) (v := nI 0) (by decide) ?_
  refine g_istore hC (gDec_at DX0_allSets_0 9 rfl) (by decide) (L' := [(4, .int (nI 0)), (3, .int (nI 12)), (2, .ref (q.2.2 11)), (1, .int (nI 0)), (0, .ref (q.2.2 9))]) rfl ?_
  have loop13 : ∀ (fu i : Nat), i ≤ 12 → 12 - i < fu → gG X (wC q) (gR (some (.int (nI (sSets B)))) M) 6 M 13 [(0, .ref (q.2.2 9)), (1, .int (nI (gsm (fun j => if j % 6 < B 9 0 then B 3 j else 0) i))), (2, .ref (q.2.2 11)), (3, .int (nI 12)), (4, .int (nI i))] [] := by
    intro fu; induction fu with
    | zero => intro i h1 h2; omega
    | succ fu ih =>
      intro i hi hfu 
      refine g_iload hC (gDec_at DX0_allSets_0 10 rfl) rfl ?_
      refine g_iload_n hC (gDec_at DX0_allSets_0 11 rfl) rfl ?_
      refine g_icmp_geN hC (by omega) (by omega) (gDec_at DX0_allSets_0 12 rfl) 48 (by decide) (fun h16 => ?_) (fun h16 => ?_)
      · skip
        obtain rfl : i = 12 := by omega
        refine g_iload_n hC (gDec_at DX0_allSets_0 28 rfl) rfl ?_
        refine g_iret hC (gDec_at DX0_allSets_0 29 rfl) ?_
        exact ⟨rfl, rfl⟩
      · skip
        refine g_aload_n hC (gDec_at DX0_allSets_0 13 rfl) rfl ?_
        refine g_iload hC (gDec_at DX0_allSets_0 14 rfl) rfl ?_
        refine g_aald (w := wC q) hC 11 3 i (a := q.2.2 (15 + i)) (show 11 < 63 from by decide) rfl rfl (by omega) (by decide) rfl (gDec_at DX0_allSets_0 15 rfl) ?_
        refine g_astore hC (gDec_at DX0_allSets_0 16 rfl) (by decide) (L' := [(5, .ref (q.2.2 (15 + i))), (0, .ref (q.2.2 9)), (1, .int (nI (gsm (fun j => if j % 6 < B 9 0 then B 3 j else 0) i))), (2, .ref (q.2.2 11)), (3, .int (nI 12)), (4, .int (nI i))]) rfl ?_
        refine g_aload_n hC (gDec_at DX0_allSets_0 17 rfl) rfl ?_
        refine g_aload hC (gDec_at DX0_allSets_0 18 rfl) rfl ?_
        refine g_callVd (w := wC q) hC 9 (c_X0_has q hI (by omega)) vf_X0_has ml_X0_42 (by decide) (show 9 < 63 from by decide) rfl rfl rfl rfl rfl (Nat.le_of_ble_eq_true rfl) (gDec_at DX0_allSets_0 19 rfl) ?_
        refine g_if_eqB hC (gDec_at DX0_allSets_0 20 rfl) 42 (by decide) (fun h31 => ?_) (fun h31 => ?_)
        · skip
          refine g_iincN hC (gDec_at DX0_allSets_0 26 rfl) rfl (by decide) (L' := [(4, .int (nI (i + 1))), (5, .ref (q.2.2 (15 + i))), (0, .ref (q.2.2 9)), (1, .int (nI (gsm (fun j => if j % 6 < B 9 0 then B 3 j else 0) i))), (2, .ref (q.2.2 11)), (3, .int (nI 12))]) rfl ?_
          refine g_goto hC (gDec_at DX0_allSets_0 27 rfl) 13 (by decide) ?_
          refine g_sub [2, 3, 4, 5, 0] (L' := [(0, .ref (q.2.2 9)), (1, .int (nI (gsm (fun j => if j % 6 < B 9 0 then B 3 j else 0) i))), (2, .ref (q.2.2 11)), (3, .int (nI 12)), (4, .int (nI (i + 1)))]) rfl ?_
          have h9 := ih (i + 1) (by omega) (by omega)
          rw [show gsm (fun j => if j % 6 < B 9 0 then B 3 j else 0) (i + 1) = gsm (fun j => if j % 6 < B 9 0 then B 3 j else 0) i from gsm_s0 (if_neg h31)] at h9
          exact h9
        · skip
          refine g_iload_n hC (gDec_at DX0_allSets_0 21 rfl) rfl ?_
          refine g_aload hC (gDec_at DX0_allSets_0 22 rfl) rfl ?_
          refine g_get (w := wC q) hC (15 + i) (v := .int (nI (B 3 i))) fl_X0_146 (show 15 + i < 63 from by have := (by omega); omega) (cC_p0 q _ _ (by omega)) (g_sv (ci_f3 hI (by omega) (by omega))) (gDec_at DX0_allSets_0 23 rfl) ?_
          refine g_iaddN hC (gDec_at DX0_allSets_0 24 rfl) ?_
          refine g_istore_n hC (gDec_at DX0_allSets_0 25 rfl) (by decide) (L' := [(1, .int (nI ((gsm (fun j => if j % 6 < B 9 0 then B 3 j else 0) i) + (B 3 i)))), (5, .ref (q.2.2 (15 + i))), (0, .ref (q.2.2 9)), (2, .ref (q.2.2 11)), (3, .int (nI 12)), (4, .int (nI i))]) rfl ?_
          refine g_iincN hC (gDec_at DX0_allSets_0 26 rfl) rfl (by decide) (L' := [(4, .int (nI (i + 1))), (1, .int (nI ((gsm (fun j => if j % 6 < B 9 0 then B 3 j else 0) i) + (B 3 i)))), (5, .ref (q.2.2 (15 + i))), (0, .ref (q.2.2 9)), (2, .ref (q.2.2 11)), (3, .int (nI 12))]) rfl ?_
          refine g_goto hC (gDec_at DX0_allSets_0 27 rfl) 13 (by decide) ?_
          refine g_sub [3, 1, 4, 5, 0] (L' := [(0, .ref (q.2.2 9)), (1, .int (nI ((gsm (fun j => if j % 6 < B 9 0 then B 3 j else 0) i) + (B 3 i)))), (2, .ref (q.2.2 11)), (3, .int (nI 12)), (4, .int (nI (i + 1)))]) rfl ?_
          have h9 := ih (i + 1) (by omega) (by omega)
          rw [show gsm (fun j => if j % 6 < B 9 0 then B 3 j else 0) (i + 1) = gsm (fun j => if j % 6 < B 9 0 then B 3 j else 0) i + B 3 i from gsm_s (if_pos h31)] at h9
          exact h9
  exact g_sub [4, 3, 2, 1, 0] rfl (loop13 (12 + 1 - 0) 0 (by omega) (by omega))

def sSeen (B : gB) : Nat := gsm (fun j => if j % 6 < B 9 0 then B 5 j else 0) 12
def sKnots (B : gB) : Nat := gsm (fun j => if j % 6 < B 9 0 then B 4 j else 0) 12
set_option maxRecDepth 100000 in
set_option maxHeartbeats 4000000 in
theorem c_X0_allSeen (q : gQ3) {M : gM} {B : gB} (hI : cI M B) : gCt (wC q) yX0_allSeen cX0_allSeen 6 (some .int) 1 [.ref (q.2.2 9)] M (gR (some (.int (nI (sSeen B)))) M) := by
  refine gMet RX0 (by decide +kernel) rfl (Nat.le_of_ble_eq_true rfl) (fun X hC => ?_)
  have hC : gC X (wC q) cX0_allSeen 6 RX0 (some .int) 1 := hC
  show gG X (wC q) _ 6 M 0 [(0, .ref (q.2.2 9))] []
  have hm := bv_many hI.2.2
  refine g_iconst hC (gDec_at DX0_allSeen_0 0 rfl) (v := nI 0) (by decide) ?_
  refine g_istore_n hC (gDec_at DX0_allSeen_0 1 rfl) (by decide) (L' := [(1, .int (nI 0)), (0, .ref (q.2.2 9))]) rfl ?_
  refine g_aload_n hC (gDec_at DX0_allSeen_0 2 rfl) rfl ?_
  refine g_get (w := wC q) hC 9 (v := .ref (q.2.2 11)) fl_X0_22 (show 9 < 63 from by decide) rfl rfl (gDec_at DX0_allSeen_0 3 rfl) ?_
  refine g_astore_n hC (gDec_at DX0_allSeen_0 4 rfl) (by decide) (L' := [(2, .ref (q.2.2 11)), (1, .int (nI 0)), (0, .ref (q.2.2 9))]) rfl ?_
  refine g_aload_n hC (gDec_at DX0_allSeen_0 5 rfl) rfl ?_
  refine g_alen (w := wC q) hC 11 3 (show 11 < 63 from by decide) rfl rfl (gDec_at DX0_allSeen_0 6 rfl) ?_
  refine g_istore_n hC (gDec_at DX0_allSeen_0 7 rfl) (by decide) (L' := [(3, .int (nI 12)), (2, .ref (q.2.2 11)), (1, .int (nI 0)), (0, .ref (q.2.2 9))]) rfl ?_
  refine g_iconst hC (gDec_at DX0_allSeen_0 8 rfl) (v := nI 0) (by decide) ?_
  refine g_istore hC (gDec_at DX0_allSeen_0 9 rfl) (by decide) (L' := [(4, .int (nI 0)), (3, .int (nI 12)), (2, .ref (q.2.2 11)), (1, .int (nI 0)), (0, .ref (q.2.2 9))]) rfl ?_
  have loop13 : ∀ (fu i : Nat), i ≤ 12 → 12 - i < fu → gG X (wC q) (gR (some (.int (nI (sSeen B)))) M) 6 M 13 [(0, .ref (q.2.2 9)), (1, .int (nI (gsm (fun j => if j % 6 < B 9 0 then B 5 j else 0) i))), (2, .ref (q.2.2 11)), (3, .int (nI 12)), (4, .int (nI i))] [] := by
    intro fu; induction fu with
    | zero => intro i h1 h2; omega
    | succ fu ih =>
      intro i hi hfu 
      refine g_iload hC (gDec_at DX0_allSeen_0 10 rfl) rfl ?_
      refine g_iload_n hC (gDec_at DX0_allSeen_0 11 rfl) rfl ?_
      refine g_icmp_geN hC (by omega) (by omega) (gDec_at DX0_allSeen_0 12 rfl) 48 (by decide) (fun h16 => ?_) (fun h16 => ?_)
      · skip
        obtain rfl : i = 12 := by omega
        refine g_iload_n hC (gDec_at DX0_allSeen_0 28 rfl) rfl ?_
        refine g_iret hC (gDec_at DX0_allSeen_0 29 rfl) ?_
        exact ⟨rfl, rfl⟩
      · skip
        refine g_aload_n hC (gDec_at DX0_allSeen_0 13 rfl) rfl ?_
        refine g_iload hC (gDec_at DX0_allSeen_0 14 rfl) rfl ?_
        refine g_aald (w := wC q) hC 11 3 i (a := q.2.2 (15 + i)) (show 11 < 63 from by decide) rfl rfl (by omega) (by decide) rfl (gDec_at DX0_allSeen_0 15 rfl) ?_
        refine g_astore hC (gDec_at DX0_allSeen_0 16 rfl) (by decide) (L' := [(5, .ref (q.2.2 (15 + i))), (0, .ref (q.2.2 9)), (1, .int (nI (gsm (fun j => if j % 6 < B 9 0 then B 5 j else 0) i))), (2, .ref (q.2.2 11)), (3, .int (nI 12)), (4, .int (nI i))]) rfl ?_
        refine g_aload_n hC (gDec_at DX0_allSeen_0 17 rfl) rfl ?_
        refine g_aload hC (gDec_at DX0_allSeen_0 18 rfl) rfl ?_
        refine g_callVd (w := wC q) hC 9 (c_X0_has q hI (by omega)) vf_X0_has ml_X0_42 (by decide) (show 9 < 63 from by decide) rfl rfl rfl rfl rfl (Nat.le_of_ble_eq_true rfl) (gDec_at DX0_allSeen_0 19 rfl) ?_
        refine g_if_eqB hC (gDec_at DX0_allSeen_0 20 rfl) 42 (by decide) (fun h31 => ?_) (fun h31 => ?_)
        · skip
          refine g_iincN hC (gDec_at DX0_allSeen_0 26 rfl) rfl (by decide) (L' := [(4, .int (nI (i + 1))), (5, .ref (q.2.2 (15 + i))), (0, .ref (q.2.2 9)), (1, .int (nI (gsm (fun j => if j % 6 < B 9 0 then B 5 j else 0) i))), (2, .ref (q.2.2 11)), (3, .int (nI 12))]) rfl ?_
          refine g_goto hC (gDec_at DX0_allSeen_0 27 rfl) 13 (by decide) ?_
          refine g_sub [2, 3, 4, 5, 0] (L' := [(0, .ref (q.2.2 9)), (1, .int (nI (gsm (fun j => if j % 6 < B 9 0 then B 5 j else 0) i))), (2, .ref (q.2.2 11)), (3, .int (nI 12)), (4, .int (nI (i + 1)))]) rfl ?_
          have h9 := ih (i + 1) (by omega) (by omega)
          rw [show gsm (fun j => if j % 6 < B 9 0 then B 5 j else 0) (i + 1) = gsm (fun j => if j % 6 < B 9 0 then B 5 j else 0) i from gsm_s0 (if_neg h31)] at h9
          exact h9
        · skip
          refine g_iload_n hC (gDec_at DX0_allSeen_0 21 rfl) rfl ?_
          refine g_aload hC (gDec_at DX0_allSeen_0 22 rfl) rfl ?_
          refine g_get (w := wC q) hC (15 + i) (v := .int (nI (B 5 i))) fl_X0_171 (show 15 + i < 63 from by have := (by omega); omega) (cC_p0 q _ _ (by omega)) (g_sv (ci_f5 hI (by omega) (by omega))) (gDec_at DX0_allSeen_0 23 rfl) ?_
          refine g_iaddN hC (gDec_at DX0_allSeen_0 24 rfl) ?_
          refine g_istore_n hC (gDec_at DX0_allSeen_0 25 rfl) (by decide) (L' := [(1, .int (nI ((gsm (fun j => if j % 6 < B 9 0 then B 5 j else 0) i) + (B 5 i)))), (5, .ref (q.2.2 (15 + i))), (0, .ref (q.2.2 9)), (2, .ref (q.2.2 11)), (3, .int (nI 12)), (4, .int (nI i))]) rfl ?_
          refine g_iincN hC (gDec_at DX0_allSeen_0 26 rfl) rfl (by decide) (L' := [(4, .int (nI (i + 1))), (1, .int (nI ((gsm (fun j => if j % 6 < B 9 0 then B 5 j else 0) i) + (B 5 i)))), (5, .ref (q.2.2 (15 + i))), (0, .ref (q.2.2 9)), (2, .ref (q.2.2 11)), (3, .int (nI 12))]) rfl ?_
          refine g_goto hC (gDec_at DX0_allSeen_0 27 rfl) 13 (by decide) ?_
          refine g_sub [3, 1, 4, 5, 0] (L' := [(0, .ref (q.2.2 9)), (1, .int (nI ((gsm (fun j => if j % 6 < B 9 0 then B 5 j else 0) i) + (B 5 i)))), (2, .ref (q.2.2 11)), (3, .int (nI 12)), (4, .int (nI (i + 1)))]) rfl ?_
          have h9 := ih (i + 1) (by omega) (by omega)
          rw [show gsm (fun j => if j % 6 < B 9 0 then B 5 j else 0) (i + 1) = gsm (fun j => if j % 6 < B 9 0 then B 5 j else 0) i + B 5 i from gsm_s (if_pos h31)] at h9
          exact h9
  exact g_sub [4, 3, 2, 1, 0] rfl (loop13 (12 + 1 - 0) 0 (by omega) (by omega))

set_option maxRecDepth 100000 in
set_option maxHeartbeats 4000000 in
theorem c_X0_allKnots (q : gQ3) {M : gM} {B : gB} (hI : cI M B) : gCt (wC q) yX0_allKnots cX0_allKnots 6 (some .int) 1 [.ref (q.2.2 9)] M (gR (some (.int (nI (sKnots B)))) M) := by
  refine gMet RX0 (by decide +kernel) rfl (Nat.le_of_ble_eq_true rfl) (fun X hC => ?_)
  have hC : gC X (wC q) cX0_allKnots 6 RX0 (some .int) 1 := hC
  show gG X (wC q) _ 6 M 0 [(0, .ref (q.2.2 9))] []
  have hm := bv_many hI.2.2
  refine g_iconst hC (gDec_at DX0_allKnots_0 0 rfl) (v := nI 0) (by decide) ?_
  refine g_istore_n hC (gDec_at DX0_allKnots_0 1 rfl) (by decide) (L' := [(1, .int (nI 0)), (0, .ref (q.2.2 9))]) rfl ?_
  refine g_aload_n hC (gDec_at DX0_allKnots_0 2 rfl) rfl ?_
  refine g_get (w := wC q) hC 9 (v := .ref (q.2.2 11)) fl_X0_22 (show 9 < 63 from by decide) rfl rfl (gDec_at DX0_allKnots_0 3 rfl) ?_
  refine g_astore_n hC (gDec_at DX0_allKnots_0 4 rfl) (by decide) (L' := [(2, .ref (q.2.2 11)), (1, .int (nI 0)), (0, .ref (q.2.2 9))]) rfl ?_
  refine g_aload_n hC (gDec_at DX0_allKnots_0 5 rfl) rfl ?_
  refine g_alen (w := wC q) hC 11 3 (show 11 < 63 from by decide) rfl rfl (gDec_at DX0_allKnots_0 6 rfl) ?_
  refine g_istore_n hC (gDec_at DX0_allKnots_0 7 rfl) (by decide) (L' := [(3, .int (nI 12)), (2, .ref (q.2.2 11)), (1, .int (nI 0)), (0, .ref (q.2.2 9))]) rfl ?_
  refine g_iconst hC (gDec_at DX0_allKnots_0 8 rfl) (v := nI 0) (by decide) ?_
  refine g_istore hC (gDec_at DX0_allKnots_0 9 rfl) (by decide) (L' := [(4, .int (nI 0)), (3, .int (nI 12)), (2, .ref (q.2.2 11)), (1, .int (nI 0)), (0, .ref (q.2.2 9))]) rfl ?_
  have loop13 : ∀ (fu i : Nat), i ≤ 12 → 12 - i < fu → gG X (wC q) (gR (some (.int (nI (sKnots B)))) M) 6 M 13 [(0, .ref (q.2.2 9)), (1, .int (nI (gsm (fun j => if j % 6 < B 9 0 then B 4 j else 0) i))), (2, .ref (q.2.2 11)), (3, .int (nI 12)), (4, .int (nI i))] [] := by
    intro fu; induction fu with
    | zero => intro i h1 h2; omega
    | succ fu ih =>
      intro i hi hfu 
      refine g_iload hC (gDec_at DX0_allKnots_0 10 rfl) rfl ?_
      refine g_iload_n hC (gDec_at DX0_allKnots_0 11 rfl) rfl ?_
      refine g_icmp_geN hC (by omega) (by omega) (gDec_at DX0_allKnots_0 12 rfl) 51 (by decide) (fun h16 => ?_) (fun h16 => ?_)
      · skip
        obtain rfl : i = 12 := by omega
        refine g_iload_n hC (gDec_at DX0_allKnots_0 27 rfl) rfl ?_
        refine g_iret hC (gDec_at DX0_allKnots_0 28 rfl) ?_
        exact ⟨rfl, rfl⟩
      · skip
        refine g_aload_n hC (gDec_at DX0_allKnots_0 13 rfl) rfl ?_
        refine g_iload hC (gDec_at DX0_allKnots_0 14 rfl) rfl ?_
        refine g_aald (w := wC q) hC 11 3 i (a := q.2.2 (15 + i)) (show 11 < 63 from by decide) rfl rfl (by omega) (by decide) rfl (gDec_at DX0_allKnots_0 15 rfl) ?_
        refine g_astore hC (gDec_at DX0_allKnots_0 16 rfl) (by decide) (L' := [(5, .ref (q.2.2 (15 + i))), (0, .ref (q.2.2 9)), (1, .int (nI (gsm (fun j => if j % 6 < B 9 0 then B 4 j else 0) i))), (2, .ref (q.2.2 11)), (3, .int (nI 12)), (4, .int (nI i))]) rfl ?_
        refine g_aload_n hC (gDec_at DX0_allKnots_0 17 rfl) rfl ?_
        refine g_aload hC (gDec_at DX0_allKnots_0 18 rfl) rfl ?_
        refine g_callVd (w := wC q) hC 9 (c_X0_has q hI (by omega)) vf_X0_has ml_X0_42 (by decide) (show 9 < 63 from by decide) rfl rfl rfl rfl rfl (Nat.le_of_ble_eq_true rfl) (gDec_at DX0_allKnots_0 19 rfl) ?_
        refine g_if_eqB hC (gDec_at DX0_allKnots_0 20 rfl) 45 (by decide) (fun h31 => ?_) (fun h31 => ?_)
        · skip
          refine g_iincN hC (gDec_at DX0_allKnots_0 25 rfl) rfl (by decide) (L' := [(4, .int (nI (i + 1))), (5, .ref (q.2.2 (15 + i))), (0, .ref (q.2.2 9)), (1, .int (nI (gsm (fun j => if j % 6 < B 9 0 then B 4 j else 0) i))), (2, .ref (q.2.2 11)), (3, .int (nI 12))]) rfl ?_
          refine g_goto hC (gDec_at DX0_allKnots_0 26 rfl) 13 (by decide) ?_
          refine g_sub [2, 3, 4, 5, 0] (L' := [(0, .ref (q.2.2 9)), (1, .int (nI (gsm (fun j => if j % 6 < B 9 0 then B 4 j else 0) i))), (2, .ref (q.2.2 11)), (3, .int (nI 12)), (4, .int (nI (i + 1)))]) rfl ?_
          have h9 := ih (i + 1) (by omega) (by omega)
          rw [show gsm (fun j => if j % 6 < B 9 0 then B 4 j else 0) (i + 1) = gsm (fun j => if j % 6 < B 9 0 then B 4 j else 0) i from gsm_s0 (if_neg h31)] at h9
          exact h9
        · skip
          refine g_aload hC (gDec_at DX0_allKnots_0 21 rfl) rfl ?_
          refine g_get (w := wC q) hC (15 + i) (v := .int (nI (B 4 i))) fl_X0_85 (show 15 + i < 63 from by have := (by omega); omega) (cC_p0 q _ _ (by omega)) (g_sv (ci_f4 hI (by omega) (by omega))) (gDec_at DX0_allKnots_0 22 rfl) ?_
          refine g_if_eqN hC (by have := bv_f4 hI.2.2 (by omega : i < 12) h31; omega) (gDec_at DX0_allKnots_0 23 rfl) 45 (by decide) (fun h39 => ?_) (fun h39 => ?_)
          · skip
            refine g_iincN hC (gDec_at DX0_allKnots_0 25 rfl) rfl (by decide) (L' := [(4, .int (nI (i + 1))), (5, .ref (q.2.2 (15 + i))), (0, .ref (q.2.2 9)), (1, .int (nI (gsm (fun j => if j % 6 < B 9 0 then B 4 j else 0) i))), (2, .ref (q.2.2 11)), (3, .int (nI 12))]) rfl ?_
            refine g_goto hC (gDec_at DX0_allKnots_0 26 rfl) 13 (by decide) ?_
            refine g_sub [2, 3, 4, 5, 0] (L' := [(0, .ref (q.2.2 9)), (1, .int (nI (gsm (fun j => if j % 6 < B 9 0 then B 4 j else 0) i))), (2, .ref (q.2.2 11)), (3, .int (nI 12)), (4, .int (nI (i + 1)))]) rfl ?_
            have h9 := ih (i + 1) (by omega) (by omega)
            rw [show gsm (fun j => if j % 6 < B 9 0 then B 4 j else 0) (i + 1) = gsm (fun j => if j % 6 < B 9 0 then B 4 j else 0) i from gsm_s0 ((if_pos h31).trans h39)] at h9
            exact h9
          · skip
            refine g_iincN hC (gDec_at DX0_allKnots_0 24 rfl) rfl (by decide) (L' := [(1, .int (nI (gsm (fun j => if j % 6 < B 9 0 then B 4 j else 0) i + 1))), (5, .ref (q.2.2 (15 + i))), (0, .ref (q.2.2 9)), (2, .ref (q.2.2 11)), (3, .int (nI 12)), (4, .int (nI i))]) rfl ?_
            refine g_iincN hC (gDec_at DX0_allKnots_0 25 rfl) rfl (by decide) (L' := [(4, .int (nI (i + 1))), (1, .int (nI (gsm (fun j => if j % 6 < B 9 0 then B 4 j else 0) i + 1))), (5, .ref (q.2.2 (15 + i))), (0, .ref (q.2.2 9)), (2, .ref (q.2.2 11)), (3, .int (nI 12))]) rfl ?_
            refine g_goto hC (gDec_at DX0_allKnots_0 26 rfl) 13 (by decide) ?_
            refine g_sub [3, 1, 4, 5, 0] (L' := [(0, .ref (q.2.2 9)), (1, .int (nI (gsm (fun j => if j % 6 < B 9 0 then B 4 j else 0) i + 1))), (2, .ref (q.2.2 11)), (3, .int (nI 12)), (4, .int (nI (i + 1)))]) rfl ?_
            have h9 := ih (i + 1) (by omega) (by omega)
            rw [show gsm (fun j => if j % 6 < B 9 0 then B 4 j else 0) (i + 1) = gsm (fun j => if j % 6 < B 9 0 then B 4 j else 0) i + 1 from gsm_s ((if_pos h31).trans (by have := bv_f4 hI.2.2 (by omega : i < 12) h31; omega))] at h9
            exact h9
  exact g_sub [4, 3, 2, 1, 0] rfl (loop13 (12 + 1 - 0) 0 (by omega) (by omega))

set_option maxRecDepth 100000 in
set_option maxHeartbeats 4000000 in
theorem c_X0_followed (q : gQ3) {M : gM} {B : gB} (hI : cI M B) : gCt (wC q) yX0_followed cX0_followed 1 (some .int) 2 [.ref (q.2.2 9)] M (gR (some (.int (nI (sSets B / 10)))) M) := by
  refine gMet RX0 (by decide +kernel) rfl (Nat.le_of_ble_eq_true rfl) (fun X hC => ?_)
  have hC : gC X (wC q) cX0_followed 1 RX0 (some .int) 2 := hC
  show gG X (wC q) _ 1 M 0 [(0, .ref (q.2.2 9))] []
  have hs := sSets_le hI.2.2
  refine g_aload_n hC (gDec_at DX0_followed_0 0 rfl) rfl ?_
  refine g_callVd (w := wC q) hC 9 (c_X0_allSets q hI) vf_X0_allSets ml_X0_116 (by decide) (show 9 < 63 from by decide) rfl rfl rfl rfl rfl (Nat.le_of_ble_eq_true rfl) (gDec_at DX0_followed_0 1 rfl) ?_
  refine g_bipush hC (gDec_at DX0_followed_0 2 rfl) (v := nI 10) (by decide) ?_
  refine g_idivN hC (by omega) (by omega) (by omega) (gDec_at DX0_followed_0 3 rfl) ?_
  refine g_iret hC (gDec_at DX0_followed_0 4 rfl) ?_
  exact ⟨rfl, rfl⟩

section JM
variable {X : gX} {w : gW} {post : Option Value → gM → Prop} {nL : Nat} {M : gM} {pc : Nat} {L : List (Nat × Value)} {st : List Value} {cc : ByteArray} {own : String} {ret : Option FieldType} {d idx : Nat}
theorem g_mmax (hlk : Cond.methodLink own idx Lib.Math.max.name ∈ gTb) (hC : gC X w cc nL own ret d) (hj : Cond.static Lib.Math.max.name ∈ gTb ∧ Cond.initialized "java/lang/Math" ∈ gTb ∧ Cond.code Lib.Math.max.name Lib.Math.max.code 2 (some .int) ∈ gTb) {x y v : Int32} (hd1 : 1 ≤ d) (hv : (if x < y then y else x) = v) (hcat : (st.map fun v => v.category).sum ≤ 8) (hd : decode cc pc = .ok (.invokestatic idx, 3)) (k : gG X w post nL M (pc + 3) L (.int v :: st)) : gG X w post nL M pc L (.int y :: .int x :: st) := by
  subst hv
  intro H locs ls hP hS hL
  have hts := hC.2.2.2.2.1
  have hr := hC.2.2.2.2.2.2.2.2.2.2
  exact va_mmax hC.1 hC.2.1 (by rw [hC.2.2.1]; exact hL.1.symm) hC.2.2.2.1 (hts _ hlk) (hts _ hj.1) (hts _ hj.2.1) (hts _ hj.2.2) (by omega) (by omega) (Nat.zero_le _) (Nat.zero_le _) hd (k H locs ls hP hS hL)
theorem g_mmin (hlk : Cond.methodLink own idx Lib.Math.min.name ∈ gTb) (hC : gC X w cc nL own ret d) (hj : Cond.static Lib.Math.min.name ∈ gTb ∧ Cond.initialized "java/lang/Math" ∈ gTb ∧ Cond.code Lib.Math.min.name Lib.Math.min.code 2 (some .int) ∈ gTb) {x y v : Int32} (hd1 : 1 ≤ d) (hv : (if y < x then y else x) = v) (hcat : (st.map fun v => v.category).sum ≤ 8) (hd : decode cc pc = .ok (.invokestatic idx, 3)) (k : gG X w post nL M (pc + 3) L (.int v :: st)) : gG X w post nL M pc L (.int y :: .int x :: st) := by
  subst hv
  intro H locs ls hP hS hL
  have hts := hC.2.2.2.2.1
  have hr := hC.2.2.2.2.2.2.2.2.2.2
  exact va_mmin hC.1 hC.2.1 (by rw [hC.2.2.1]; exact hL.1.symm) hC.2.2.2.1 (hts _ hlk) (hts _ hj.1) (hts _ hj.2.1) (hts _ hj.2.2) (by omega) (by omega) (Nat.zero_le _) (Nat.zero_le _) hd (k H locs ls hP hS hL)
theorem g_mmax_long (hlk : Cond.methodLink own idx Lib.MathLoose.max_long.x ∈ gTb) (hC : gC X w cc nL own ret d) (hj : Cond.static Lib.MathLoose.max_long.x ∈ gTb ∧ Cond.initialized "java/lang/Math" ∈ gTb ∧ Cond.code Lib.MathLoose.max_long.x Lib.MathLoose.max_long.code 4 (some .long) ∈ gTb) {x y v : Int64} (hd1 : 1 ≤ d) (hv : (if y < x then x else y) = v) (hcat : (st.map fun v => v.category).sum ≤ 8) (hd : decode cc pc = .ok (.invokestatic idx, 3)) (k : gG X w post nL M (pc + 3) L (.long v :: st)) : gG X w post nL M pc L (.long y :: .long x :: st) := by
  subst hv
  intro H locs ls hP hS hL
  have hts := hC.2.2.2.2.1
  have hr := hC.2.2.2.2.2.2.2.2.2.2
  exact va_mmax_long hC.1 hC.2.1 (by rw [hC.2.2.1]; exact hL.1.symm) hC.2.2.2.1 (hts _ hlk) (hts _ hj.1) (hts _ hj.2.1) (hts _ hj.2.2) (by omega) (by omega) (Nat.zero_le _) (Nat.zero_le _) hd (k H locs ls hP hS hL)
theorem g_mmin_long (hlk : Cond.methodLink own idx Lib.MathLoose.min_long.x ∈ gTb) (hC : gC X w cc nL own ret d) (hj : Cond.static Lib.MathLoose.min_long.x ∈ gTb ∧ Cond.initialized "java/lang/Math" ∈ gTb ∧ Cond.code Lib.MathLoose.min_long.x Lib.MathLoose.min_long.code 4 (some .long) ∈ gTb) {x y v : Int64} (hd1 : 1 ≤ d) (hv : (if y < x then y else x) = v) (hcat : (st.map fun v => v.category).sum ≤ 8) (hd : decode cc pc = .ok (.invokestatic idx, 3)) (k : gG X w post nL M (pc + 3) L (.long v :: st)) : gG X w post nL M pc L (.long y :: .long x :: st) := by
  subst hv
  intro H locs ls hP hS hL
  have hts := hC.2.2.2.2.1
  have hr := hC.2.2.2.2.2.2.2.2.2.2
  exact va_mmin_long hC.1 hC.2.1 (by rw [hC.2.2.1]; exact hL.1.symm) hC.2.2.2.1 (hts _ hlk) (hts _ hj.1) (hts _ hj.2.1) (hts _ hj.2.2) (by omega) (by omega) (Nat.zero_le _) (Nat.zero_le _) hd (k H locs ls hP hS hL)
end JM
theorem max_sub {a b : Nat} (ha : a < 1073741824) (hb : b < 1073741824) : (if nI 0 < nI a - nI b then nI a - nI b else nI 0) = nI (a - b) := by
  have e := pk_sub_toInt ha hb
  have z : (nI 0).toInt = 0 := rfl
  by_cases h : b ≤ a
  · rw [pk_sub h]
    by_cases h2 : a = b
    · subst h2; simp
    · rw [if_pos (nI_lt (by omega) (by omega))]
  · rw [if_neg, show a - b = 0 by omega]
    intro q
    have q2 := Int32.lt_iff_toInt_lt.mp q
    rw [e, z] at q2
    omega
theorem lN_max {a b : Nat} (ha : a < 9223372036854775808) (hb : b < 9223372036854775808) : (if lN b < lN a then lN a else lN b) = lN (max a b) := by
  by_cases h : b < a
  · rw [if_pos ((pk_lLT hb ha).mpr h), Nat.max_eq_left (by omega)]
  · rw [if_neg (fun q => h ((pk_lLT hb ha).mp q)), Nat.max_eq_right (by omega)]
theorem lN_min {a b : Nat} (ha : a < 9223372036854775808) (hb : b < 9223372036854775808) : (if lN b < lN a then lN b else lN a) = lN (min a b) := by
  by_cases h : b < a
  · rw [if_pos ((pk_lLT hb ha).mpr h), Nat.min_eq_right (by omega)]
  · rw [if_neg (fun q => h ((pk_lLT hb ha).mp q)), Nat.min_eq_left (by omega)]
set_option maxRecDepth 100000 in
set_option maxHeartbeats 4000000 in
theorem c_X0_pullAt (q : gQ3) {M : gM} {B : gB} (hI : cI M B) {x : Nat} (hx : x ≤ 40) : gCt (wC q) yX0_pullAt cX0_pullAt 2 (some .long) 3 [.ref (q.2.2 9), .int (nI x)] M (gR (some (.long (lN (sPull B x)))) M) := by
  refine gMet RX0 (by decide +kernel) rfl (Nat.le_of_ble_eq_true rfl) (fun X hC => ?_)
  have hC : gC X (wC q) cX0_pullAt 2 RX0 (some .long) 3 := hC
  show gG X (wC q) _ 2 M 0 [(0, .ref (q.2.2 9)), (1, .int (nI x))] []
  have hs := sSets_le hI.2.2
  refine g_ldc2 hC cl_X0_119 (v' := lN 2000000) (by decide) (gDec_at DX0_pullAt_0 0 rfl) ?_
  refine g_iconst hC (gDec_at DX0_pullAt_0 1 rfl) (v := nI 0) (by decide) ?_
  refine g_iload_n hC (gDec_at DX0_pullAt_0 2 rfl) rfl ?_
  refine g_aload_n hC (gDec_at DX0_pullAt_0 3 rfl) rfl ?_
  refine g_callVd (w := wC q) hC 9 (c_X0_followed q hI) vf_X0_followed ml_X0_121 (by decide) (show 9 < 63 from by decide) rfl rfl rfl rfl rfl (Nat.le_of_ble_eq_true rfl) (gDec_at DX0_pullAt_0 4 rfl) ?_
  refine g_isub hC (gDec_at DX0_pullAt_0 5 rfl) (v := (nI x - nI (sSets B / 10))) rfl ?_
  refine g_mmax ml_X0_124 hC jm_max (by decide) (v := (nI (x - sSets B / 10))) (max_sub (by omega) (by omega)) (Nat.le_of_ble_eq_true rfl) (gDec_at DX0_pullAt_0 6 rfl) ?_
  refine g_i2lN hC (by omega) (gDec_at DX0_pullAt_0 7 rfl) ?_
  refine g_lmulN hC (gDec_at DX0_pullAt_0 8 rfl) ?_
  refine g_lret hC (gDec_at DX0_pullAt_0 9 rfl) ?_
  exact ⟨rfl, rfl⟩

set_option maxRecDepth 100000 in
set_option maxHeartbeats 4000000 in
theorem c_X0_weighs (q : gQ3) {M : gM} {f pull gives : Nat} (hf : f ≤ 999) (hp : pull ≤ 80000000) (hg : gives ≤ 432000000000) : gCt (wC q) yX0_weighs cX0_weighs 6 (some .boolean) 0 [.ref (q.2.2 9), .int (nI f), .long (lN pull), .long (lN gives)] M (gR (some (.int (gb (f * gives ≤ pull)))) M) := by
  refine gMet RX0 (by decide +kernel) rfl (Nat.le_of_ble_eq_true rfl) (fun X hC => ?_)
  have hC : gC X (wC q) cX0_weighs 6 RX0 (some .boolean) 0 := hC
  show gG X (wC q) _ 6 M 0 [(0, .ref (q.2.2 9)), (1, .int (nI f)), (2, .long (lN pull)), (4, .long (lN gives))] []
  have hfg := mul_bd hf hg
  refine g_lload_n hC (gDec_at DX0_weighs_0 0 rfl) rfl ?_
  refine g_iload_n hC (gDec_at DX0_weighs_0 1 rfl) rfl ?_
  refine g_i2lN hC (by omega) (gDec_at DX0_weighs_0 2 rfl) ?_
  refine g_lload hC (gDec_at DX0_weighs_0 3 rfl) rfl ?_
  refine g_lmulN hC (gDec_at DX0_weighs_0 4 rfl) ?_
  refine g_lc_ltN hC (by omega) (by omega) (gDec_at DX0_weighs_0 5 rfl) (gDec_at DX0_weighs_0 6 rfl) 14 (by decide) (fun h6 => ?_) (fun h6 => ?_)
  · skip
    refine g_iconst hC (gDec_at DX0_weighs_0 9 rfl) (v := nI 0) (by decide) ?_
    refine g_zret hC (Or.inl rfl) (gDec_at DX0_weighs_0 10 rfl) ?_
    exact ⟨by rw [gb_f (show ¬ f * gives ≤ pull by omega)]; rfl, rfl⟩
  · skip
    refine g_iconst hC (gDec_at DX0_weighs_0 7 rfl) (v := nI 1) (by decide) ?_
    refine g_goto hC (gDec_at DX0_weighs_0 8 rfl) 15 (by decide) ?_
    refine g_zret hC (Or.inr rfl) (gDec_at DX0_weighs_0 10 rfl) ?_
    exact ⟨by rw [gb_t (show f * gives ≤ pull by omega)]; rfl, rfl⟩

theorem sStr_le (B : gB) (j : Nat) {pull gives : Nat} (hp : pull ≤ 80000000) : sStr B pull gives j ≤ 480000000000000 := by
  unfold sStr
  refine Nat.le_trans (Nat.div_le_self _ _) ?_
  have h : j % 6 + 1 ≤ 6 := by omega
  exact mul_bd (mul_bd hp h) (Nat.le_refl 1000000)
set_option maxRecDepth 100000 in
set_option maxHeartbeats 4000000 in
theorem c_X0_strainOf (q : gQ3) {M : gM} {B : gB} (hI : cI M B) {j : Nat} (hj : j < 12) (ht : j % 6 < B 9 0) {pull gives : Nat} (hp : pull ≤ 80000000) (hg : gives ≤ 432000000000) : gCt (wC q) yX0_strainOf cX0_strainOf 8 (some .long) 1 [.ref (q.2.2 9), .ref (q.2.2 (15 + j)), .long (lN pull), .long (lN gives)] M (gR (some (.long (lN (sStr B pull gives j)))) M) := by
  refine gMet RX0 (by decide +kernel) rfl (Nat.le_of_ble_eq_true rfl) (fun X hC => ?_)
  have hC : gC X (wC q) cX0_strainOf 8 RX0 (some .long) 1 := hC
  show gG X (wC q) _ 8 M 0 [(0, .ref (q.2.2 9)), (1, .ref (q.2.2 (15 + j))), (2, .long (lN pull)), (4, .long (lN gives))] []
  have h1 := bv_f1 hI.2.2 hj ht
  have h0 := bv_f0 hI.2.2 hj ht
  have hbe := sBears_bd hI.2.2 hj ht
  have h6 : j % 6 + 1 ≤ 6 := by omega
  have hn := mul_bd (mul_bd hp h6) (Nat.le_refl 1000000)
  have hdn : gives * (B 6 (B 2 j) * B 0 j * B 1 j * B 1 j) ≤ 432000000000 * 129600 := mul_bd hg hbe.2
  refine g_aload_n hC (gDec_at DX0_strainOf_0 0 rfl) rfl ?_
  refine g_aload_n hC (gDec_at DX0_strainOf_0 1 rfl) rfl ?_
  refine g_callVd (w := wC q) hC 9 (c_X0_eOf q hI hj ht) vf_X0_eOf ml_X0_98 (by decide) (show 9 < 63 from by decide) rfl rfl rfl rfl rfl (Nat.le_of_ble_eq_true rfl) (gDec_at DX0_strainOf_0 2 rfl) ?_
  refine g_aload_n hC (gDec_at DX0_strainOf_0 3 rfl) rfl ?_
  refine g_get (w := wC q) hC (15 + j) (v := .int (nI (B 0 j))) fl_X0_102 (show 15 + j < 63 from by have := hj; omega) (cC_p0 q _ _ hj) (g_sv (ci_f0 hI hj ht)) (gDec_at DX0_strainOf_0 4 rfl) ?_
  refine g_i2lN hC (by omega) (gDec_at DX0_strainOf_0 5 rfl) ?_
  refine g_lmulN hC (gDec_at DX0_strainOf_0 6 rfl) ?_
  refine g_aload_n hC (gDec_at DX0_strainOf_0 7 rfl) rfl ?_
  refine g_get (w := wC q) hC (15 + j) (v := .int (nI (B 1 j))) fl_X0_89 (show 15 + j < 63 from by have := hj; omega) (cC_p0 q _ _ hj) (g_sv (ci_f1 hI hj ht)) (gDec_at DX0_strainOf_0 8 rfl) ?_
  refine g_i2lN hC (by omega) (gDec_at DX0_strainOf_0 9 rfl) ?_
  refine g_lmulN hC (gDec_at DX0_strainOf_0 10 rfl) ?_
  refine g_aload_n hC (gDec_at DX0_strainOf_0 11 rfl) rfl ?_
  refine g_get (w := wC q) hC (15 + j) (v := .int (nI (B 1 j))) fl_X0_89 (show 15 + j < 63 from by have := hj; omega) (cC_p0 q _ _ hj) (g_sv (ci_f1 hI hj ht)) (gDec_at DX0_strainOf_0 12 rfl) ?_
  refine g_i2lN hC (by omega) (gDec_at DX0_strainOf_0 13 rfl) ?_
  refine g_lmulN hC (gDec_at DX0_strainOf_0 14 rfl) ?_
  refine g_lstore hC (gDec_at DX0_strainOf_0 15 rfl) (by decide) (L' := [(6, .long (lN ((((B 6 (B 2 j)) * (B 0 j)) * (B 1 j)) * (B 1 j)))), (0, .ref (q.2.2 9)), (1, .ref (q.2.2 (15 + j))), (2, .long (lN pull)), (4, .long (lN gives))]) rfl ?_
  refine g_lload_n hC (gDec_at DX0_strainOf_0 16 rfl) rfl ?_
  refine g_aload_n hC (gDec_at DX0_strainOf_0 17 rfl) rfl ?_
  refine g_get (w := wC q) hC (15 + j) (v := .int (nI (j % 6 + 1))) fl_X0_49 (show 15 + j < 63 from by have := hj; omega) (cC_p0 q _ _ hj) (g_sv (ci_arm hI hj)) (gDec_at DX0_strainOf_0 18 rfl) ?_
  refine g_i2lN hC (by omega) (gDec_at DX0_strainOf_0 19 rfl) ?_
  refine g_lmulN hC (gDec_at DX0_strainOf_0 20 rfl) ?_
  refine g_ldc2 hC cl_X0_130 (v' := lN 1000000) (by decide) (gDec_at DX0_strainOf_0 21 rfl) ?_
  refine g_lmulN hC (gDec_at DX0_strainOf_0 22 rfl) ?_
  refine g_lload hC (gDec_at DX0_strainOf_0 23 rfl) rfl ?_
  refine g_lload hC (gDec_at DX0_strainOf_0 24 rfl) rfl ?_
  refine g_lmulN hC (gDec_at DX0_strainOf_0 25 rfl) ?_
  refine g_callSNd (w := wC q) hC (c_X6_quotient q (by omega) (by omega)) sf_X6_quotient ml_X0_105 (by decide) rfl rfl (Nat.le_of_ble_eq_true rfl) (gDec_at DX0_strainOf_0 26 rfl) ?_
  refine g_lret hC (gDec_at DX0_strainOf_0 27 rfl) ?_
  exact ⟨rfl, rfl⟩

def sFmax (B : gB) (f : Nat → Nat) : Nat → Nat
  | 0 => 0
  | n + 1 => if n % 6 < B 9 0 then max (sFmax B f n) (f n) else sFmax B f n
def sFmin (B : gB) (f : Nat → Nat) : Nat → Nat
  | 0 => 9223372036854775807
  | n + 1 => if n % 6 < B 9 0 then min (sFmin B f n) (f n) else sFmin B f n
def sEvn (B : gB) (pull gives : Nat) : Nat := if sFmax B (sStr B pull gives) 12 = 0 then 1000 else 1000 * sFmin B (sStr B pull gives) 12 / sFmax B (sStr B pull gives) 12
theorem sFmax_le {B : gB} {f : Nat → Nat} {c : Nat} (h : ∀ j, f j ≤ c) : ∀ n, sFmax B f n ≤ c
  | 0 => Nat.zero_le _
  | n + 1 => by
    have h1 := sFmax_le h (B := B) n
    have h2 := h n
    show (if n % 6 < B 9 0 then max (sFmax B f n) (f n) else sFmax B f n) ≤ c
    split <;> omega
theorem sFmin_top (B : gB) (f : Nat → Nat) : ∀ n, sFmin B f n ≤ 9223372036854775807
  | 0 => Nat.le_refl _
  | n + 1 => by
    have h1 := sFmin_top B f n
    show (if n % 6 < B 9 0 then min (sFmin B f n) (f n) else sFmin B f n) ≤ _
    split <;> omega
theorem sFmin_at {B : gB} {f : Nat → Nat} {j : Nat} (ht : j % 6 < B 9 0) : ∀ n, j < n → sFmin B f n ≤ f j
  | 0, h => absurd h (Nat.not_lt_zero _)
  | n + 1, h => by
    show (if n % 6 < B 9 0 then min (sFmin B f n) (f n) else sFmin B f n) ≤ _
    by_cases e : j = n
    · subst e; rw [if_pos ht]; omega
    · have h1 := sFmin_at (B := B) (f := f) ht n (by omega)
      split <;> omega
theorem sFmax_at {B : gB} {f : Nat → Nat} {j : Nat} (ht : j % 6 < B 9 0) : ∀ n, j < n → f j ≤ sFmax B f n
  | 0, h => absurd h (Nat.not_lt_zero _)
  | n + 1, h => by
    show f j ≤ (if n % 6 < B 9 0 then max (sFmax B f n) (f n) else sFmax B f n)
    by_cases e : j = n
    · subst e; rw [if_pos ht]; omega
    · have h1 := sFmax_at (B := B) (f := f) ht n (by omega)
      split <;> omega
theorem sFmin_max {B : gB} {f : Nat → Nat} (hm : 1 ≤ B 9 0) : sFmin B f 12 ≤ sFmax B f 12 := Nat.le_trans (sFmin_at (j := 0) (by omega) 12 (by omega)) (sFmax_at (j := 0) (by omega) 12 (by omega))
theorem sEvn_le {B : gB} (hm : 1 ≤ B 9 0) (pull gives : Nat) : sEvn B pull gives ≤ 1000 := by
  unfold sEvn
  split
  · omega
  · have h := sFmin_max (B := B) (f := fun j => sStr B pull gives j) hm
    refine Nat.div_le_of_le_mul ?_
    rw [Nat.mul_comm]
    exact Nat.mul_le_mul h (Nat.le_refl _)
theorem lN_n9 {n : Nat} (h : n < 9223372036854775808) : ¬ lN n = -9 := fun q => by
  have h1 : (lN n).toInt = n := pk_lT h
  rw [q] at h1
  have h2 : (-9 : Int64).toInt = -9 := by decide
  omega
theorem sFmin_1 {B : gB} {f : Nat → Nat} (ht : 0 % 6 < B 9 0) (hf : f 0 ≤ 9223372036854775807) : sFmin B f 1 = f 0 := by
  show (if 0 % 6 < B 9 0 then min 9223372036854775807 (f 0) else 9223372036854775807) = f 0
  rw [if_pos ht]
  omega
set_option maxRecDepth 100000 in
set_option maxHeartbeats 4000000 in
theorem c_X0_evenness (q : gQ3) {M : gM} {B : gB} (hI : cI M B) {pull gives : Nat} (hp : pull ≤ 80000000) (hg : gives ≤ 432000000000) : gCt (wC q) yX0_evenness cX0_evenness 15 (some .int) 2 [.ref (q.2.2 9), .long (lN pull), .long (lN gives)] M (gR (some (.int (nI (sEvn B pull gives)))) M) := by
  refine gMet RX0 (by decide +kernel) rfl (Nat.le_of_ble_eq_true rfl) (fun X hC => ?_)
  have hC : gC X (wC q) cX0_evenness 15 RX0 (some .int) 2 := hC
  show gG X (wC q) _ 15 M 0 [(0, .ref (q.2.2 9)), (1, .long (lN pull)), (3, .long (lN gives))] []
  have hm := bv_many hI.2.2
  have hst := fun j => sStr_le B j (gives := gives) hp
  refine g_ldc2 hC cl_X0_161 (v' := -9) rfl (gDec_at DX0_evenness_0 0 rfl) ?_
  refine g_lstore hC (gDec_at DX0_evenness_0 1 rfl) (by decide) (L' := [(5, .long (-9)), (0, .ref (q.2.2 9)), (1, .long (lN pull)), (3, .long (lN gives))]) rfl ?_
  refine g_lconst hC (gDec_at DX0_evenness_0 2 rfl) (v := lN 0) (by decide) ?_
  refine g_lstore hC (gDec_at DX0_evenness_0 3 rfl) (by decide) (L' := [(7, .long (lN 0)), (5, .long (-9)), (0, .ref (q.2.2 9)), (1, .long (lN pull)), (3, .long (lN gives))]) rfl ?_
  refine g_aload_n hC (gDec_at DX0_evenness_0 4 rfl) rfl ?_
  refine g_get (w := wC q) hC 9 (v := .ref (q.2.2 11)) fl_X0_22 (show 9 < 63 from by decide) rfl rfl (gDec_at DX0_evenness_0 5 rfl) ?_
  refine g_astore hC (gDec_at DX0_evenness_0 6 rfl) (by decide) (L' := [(9, .ref (q.2.2 11)), (7, .long (lN 0)), (5, .long (-9)), (0, .ref (q.2.2 9)), (1, .long (lN pull)), (3, .long (lN gives))]) rfl ?_
  refine g_aload hC (gDec_at DX0_evenness_0 7 rfl) rfl ?_
  refine g_alen (w := wC q) hC 11 3 (show 11 < 63 from by decide) rfl rfl (gDec_at DX0_evenness_0 8 rfl) ?_
  refine g_istore hC (gDec_at DX0_evenness_0 9 rfl) (by decide) (L' := [(10, .int (nI 12)), (9, .ref (q.2.2 11)), (7, .long (lN 0)), (5, .long (-9)), (0, .ref (q.2.2 9)), (1, .long (lN pull)), (3, .long (lN gives))]) rfl ?_
  refine g_iconst hC (gDec_at DX0_evenness_0 10 rfl) (v := nI 0) (by decide) ?_
  refine g_istore hC (gDec_at DX0_evenness_0 11 rfl) (by decide) (L' := [(11, .int (nI 0)), (10, .int (nI 12)), (9, .ref (q.2.2 11)), (7, .long (lN 0)), (5, .long (-9)), (0, .ref (q.2.2 9)), (1, .long (lN pull)), (3, .long (lN gives))]) rfl ?_
  have loop22 : ∀ (fu i : Nat) (ls : Int64), i ≤ 12 → 12 - i < fu → (i = 0 ∧ ls = -9 ∨ 0 < i ∧ ls = lN (sFmin B (sStr B pull gives) i)) → gG X (wC q) (gR (some (.int (nI (sEvn B pull gives)))) M) 15 M 22 [(0, .ref (q.2.2 9)), (1, .long (lN pull)), (3, .long (lN gives)), (5, .long ls), (7, .long (lN (sFmax B (sStr B pull gives) i))), (9, .ref (q.2.2 11)), (10, .int (nI 12)), (11, .int (nI i))] [] := by
    intro fu; induction fu with
    | zero => intro i ls h1 h2; omega
    | succ fu ih =>
      intro i ls hi hfu hf
      have hmx := sFmax_le (B := B) (f := (sStr B pull gives)) hst i
      have hmn := sFmin_top B (sStr B pull gives) i
      have hsi := hst i
      rcases hf with ⟨h0, rfl⟩ | ⟨h0, rfl⟩
      · skip
        refine g_iload hC (gDec_at DX0_evenness_0 12 rfl) rfl ?_
        refine g_iload hC (gDec_at DX0_evenness_0 13 rfl) rfl ?_
        refine g_icmp_geN hC (by omega) (by omega) (gDec_at DX0_evenness_0 14 rfl) 93 (by decide) (fun h26 => ?_) (fun h26 => ?_)
        · skip
          omega
        · skip
          refine g_aload hC (gDec_at DX0_evenness_0 15 rfl) rfl ?_
          refine g_iload hC (gDec_at DX0_evenness_0 16 rfl) rfl ?_
          refine g_aald (w := wC q) hC 11 3 i (a := q.2.2 (15 + i)) (show 11 < 63 from by decide) rfl rfl (by omega) (by decide) rfl (gDec_at DX0_evenness_0 17 rfl) ?_
          refine g_astore hC (gDec_at DX0_evenness_0 18 rfl) (by decide) (L' := [(12, .ref (q.2.2 (15 + i))), (0, .ref (q.2.2 9)), (1, .long (lN pull)), (3, .long (lN gives)), (5, .long (-9)), (7, .long (lN (sFmax B (sStr B pull gives) i))), (9, .ref (q.2.2 11)), (10, .int (nI 12)), (11, .int (nI i))]) rfl ?_
          refine g_aload_n hC (gDec_at DX0_evenness_0 19 rfl) rfl ?_
          refine g_aload hC (gDec_at DX0_evenness_0 20 rfl) rfl ?_
          refine g_callVd (w := wC q) hC 9 (c_X0_has q hI (by omega)) vf_X0_has ml_X0_42 (by decide) (show 9 < 63 from by decide) rfl rfl rfl rfl rfl (Nat.le_of_ble_eq_true rfl) (gDec_at DX0_evenness_0 21 rfl) ?_
          refine g_if_eqB hC (gDec_at DX0_evenness_0 22 rfl) 87 (by decide) (fun h42 => ?_) (fun h42 => ?_)
          · skip
            exact absurd h42 (by subst h0; omega)
          · skip
            refine g_aload_n hC (gDec_at DX0_evenness_0 23 rfl) rfl ?_
            refine g_aload hC (gDec_at DX0_evenness_0 24 rfl) rfl ?_
            refine g_lload_n hC (gDec_at DX0_evenness_0 25 rfl) rfl ?_
            refine g_lload_n hC (gDec_at DX0_evenness_0 26 rfl) rfl ?_
            refine g_callVd (w := wC q) hC 9 (c_X0_strainOf q hI (by omega) (by omega) (pull := pull) (gives := gives) (by omega) (by omega)) vf_X0_strainOf ml_X0_132 (by decide) (show 9 < 63 from by decide) rfl rfl rfl rfl rfl (Nat.le_of_ble_eq_true rfl) (gDec_at DX0_evenness_0 27 rfl) ?_
            refine g_lstore hC (gDec_at DX0_evenness_0 28 rfl) (by decide) (L' := [(13, .long (lN (sStr B pull gives i))), (12, .ref (q.2.2 (15 + i))), (0, .ref (q.2.2 9)), (1, .long (lN pull)), (3, .long (lN gives)), (5, .long (-9)), (7, .long (lN (sFmax B (sStr B pull gives) i))), (9, .ref (q.2.2 11)), (10, .int (nI 12)), (11, .int (nI i))]) rfl ?_
            refine g_lload hC (gDec_at DX0_evenness_0 29 rfl) rfl ?_
            refine g_ldc2 hC cl_X0_161 (v' := -9) rfl (gDec_at DX0_evenness_0 30 rfl) ?_
            refine g_lc_ne hC (gDec_at DX0_evenness_0 31 rfl) (gDec_at DX0_evenness_0 32 rfl) 69 (by decide) (fun h => absurd rfl h) (fun h => ?_)
            refine g_lload hC (gDec_at DX0_evenness_0 33 rfl) rfl ?_
            refine g_goto hC (gDec_at DX0_evenness_0 34 rfl) 76 (by decide) ?_
            refine g_lstore hC (gDec_at DX0_evenness_0 38 rfl) (by decide) (L' := [(5, .long (lN (sStr B pull gives i))), (13, .long (lN (sStr B pull gives i))), (12, .ref (q.2.2 (15 + i))), (0, .ref (q.2.2 9)), (1, .long (lN pull)), (3, .long (lN gives)), (7, .long (lN (sFmax B (sStr B pull gives) i))), (9, .ref (q.2.2 11)), (10, .int (nI 12)), (11, .int (nI i))]) rfl ?_
            refine g_lload hC (gDec_at DX0_evenness_0 39 rfl) rfl ?_
            refine g_lload hC (gDec_at DX0_evenness_0 40 rfl) rfl ?_
            refine g_mmax_long ml_X0_163 hC jm_max_long (by decide) (v := (lN (max (sFmax B (sStr B pull gives) i) (sStr B pull gives i)))) (lN_max (by omega) (by omega)) (Nat.le_of_ble_eq_true rfl) (gDec_at DX0_evenness_0 41 rfl) ?_
            refine g_lstore hC (gDec_at DX0_evenness_0 42 rfl) (by decide) (L' := [(7, .long (lN (max (sFmax B (sStr B pull gives) i) (sStr B pull gives i)))), (5, .long (lN (sStr B pull gives i))), (13, .long (lN (sStr B pull gives i))), (12, .ref (q.2.2 (15 + i))), (0, .ref (q.2.2 9)), (1, .long (lN pull)), (3, .long (lN gives)), (9, .ref (q.2.2 11)), (10, .int (nI 12)), (11, .int (nI i))]) rfl ?_
            refine g_iincN hC (gDec_at DX0_evenness_0 43 rfl) rfl (by decide) (L' := [(11, .int (nI (i + 1))), (7, .long (lN (max (sFmax B (sStr B pull gives) i) (sStr B pull gives i)))), (5, .long (lN (sStr B pull gives i))), (13, .long (lN (sStr B pull gives i))), (12, .ref (q.2.2 (15 + i))), (0, .ref (q.2.2 9)), (1, .long (lN pull)), (3, .long (lN gives)), (9, .ref (q.2.2 11)), (10, .int (nI 12))]) rfl ?_
            refine g_goto hC (gDec_at DX0_evenness_0 44 rfl) 22 (by decide) ?_
            refine g_sub [5, 6, 7, 2, 1, 8, 9, 0] (L' := [(0, .ref (q.2.2 9)), (1, .long (lN pull)), (3, .long (lN gives)), (5, .long (lN (sStr B pull gives i))), (7, .long (lN (max (sFmax B (sStr B pull gives) i) (sStr B pull gives i)))), (9, .ref (q.2.2 11)), (10, .int (nI 12)), (11, .int (nI (i + 1)))]) rfl ?_
            have h9 := ih (i + 1) (lN (sStr B pull gives i)) (by omega) (by omega) (Or.inr ⟨by omega, by subst h0; exact congrArg lN (sFmin_1 (f := (sStr B pull gives)) (by omega) (by have := hst 0; omega)).symm⟩)
            rw [show sFmax B (sStr B pull gives) (i + 1) = max (sFmax B (sStr B pull gives) i) (sStr B pull gives i) from if_pos h42] at h9
            exact h9
      · skip
        refine g_iload hC (gDec_at DX0_evenness_0 12 rfl) rfl ?_
        refine g_iload hC (gDec_at DX0_evenness_0 13 rfl) rfl ?_
        refine g_icmp_geN hC (by omega) (by omega) (gDec_at DX0_evenness_0 14 rfl) 93 (by decide) (fun h26_1 => ?_) (fun h26_1 => ?_)
        · skip
          obtain rfl : i = 12 := by omega
          have hmn0 := sFmin_at (B := B) (f := (sStr B pull gives)) (j := 0) (by omega) 12 (by omega)
          have hst0 := hst 0
          refine g_lload hC (gDec_at DX0_evenness_0 45 rfl) rfl ?_
          refine g_lconst hC (gDec_at DX0_evenness_0 46 rfl) (v := lN 0) (by decide) ?_
          refine g_lc_neN hC (by omega) (by omega) (gDec_at DX0_evenness_0 47 rfl) (gDec_at DX0_evenness_0 48 rfl) 106 (by decide) (fun h96 => ?_) (fun h96 => ?_)
          · skip
            refine g_ldc2 hC cl_X0_136 (v' := lN 1000) (by decide) (gDec_at DX0_evenness_0 51 rfl) ?_
            refine g_lload hC (gDec_at DX0_evenness_0 52 rfl) rfl ?_
            refine g_lmulN hC (gDec_at DX0_evenness_0 53 rfl) ?_
            refine g_lload hC (gDec_at DX0_evenness_0 54 rfl) rfl ?_
            refine g_callSNd (w := wC q) hC (c_X6_quotient q (by omega) (by omega)) sf_X6_quotient ml_X0_105 (by decide) rfl rfl (Nat.le_of_ble_eq_true rfl) (gDec_at DX0_evenness_0 55 rfl) ?_
            refine g_l2iN hC (gDec_at DX0_evenness_0 56 rfl) ?_
            refine g_iret hC (gDec_at DX0_evenness_0 57 rfl) ?_
            exact ⟨by unfold sEvn; rw [if_neg (by assumption)], rfl⟩
          · skip
            refine g_sipush hC (gDec_at DX0_evenness_0 49 rfl) (v := nI 1000) (by decide) ?_
            refine g_goto hC (gDec_at DX0_evenness_0 50 rfl) 118 (by decide) ?_
            refine g_iret hC (gDec_at DX0_evenness_0 57 rfl) ?_
            exact ⟨by unfold sEvn; rw [if_pos (by assumption)], rfl⟩
        · skip
          refine g_aload hC (gDec_at DX0_evenness_0 15 rfl) rfl ?_
          refine g_iload hC (gDec_at DX0_evenness_0 16 rfl) rfl ?_
          refine g_aald (w := wC q) hC 11 3 i (a := q.2.2 (15 + i)) (show 11 < 63 from by decide) rfl rfl (by omega) (by decide) rfl (gDec_at DX0_evenness_0 17 rfl) ?_
          refine g_astore hC (gDec_at DX0_evenness_0 18 rfl) (by decide) (L' := [(12, .ref (q.2.2 (15 + i))), (0, .ref (q.2.2 9)), (1, .long (lN pull)), (3, .long (lN gives)), (5, .long (lN (sFmin B (sStr B pull gives) i))), (7, .long (lN (sFmax B (sStr B pull gives) i))), (9, .ref (q.2.2 11)), (10, .int (nI 12)), (11, .int (nI i))]) rfl ?_
          refine g_aload_n hC (gDec_at DX0_evenness_0 19 rfl) rfl ?_
          refine g_aload hC (gDec_at DX0_evenness_0 20 rfl) rfl ?_
          refine g_callVd (w := wC q) hC 9 (c_X0_has q hI (by omega)) vf_X0_has ml_X0_42 (by decide) (show 9 < 63 from by decide) rfl rfl rfl rfl rfl (Nat.le_of_ble_eq_true rfl) (gDec_at DX0_evenness_0 21 rfl) ?_
          refine g_if_eqB hC (gDec_at DX0_evenness_0 22 rfl) 87 (by decide) (fun h42_1 => ?_) (fun h42_1 => ?_)
          · skip
            refine g_iincN hC (gDec_at DX0_evenness_0 43 rfl) rfl (by decide) (L' := [(11, .int (nI (i + 1))), (12, .ref (q.2.2 (15 + i))), (0, .ref (q.2.2 9)), (1, .long (lN pull)), (3, .long (lN gives)), (5, .long (lN (sFmin B (sStr B pull gives) i))), (7, .long (lN (sFmax B (sStr B pull gives) i))), (9, .ref (q.2.2 11)), (10, .int (nI 12))]) rfl ?_
            refine g_goto hC (gDec_at DX0_evenness_0 44 rfl) 22 (by decide) ?_
            refine g_sub [2, 3, 4, 5, 6, 7, 8, 0] (L' := [(0, .ref (q.2.2 9)), (1, .long (lN pull)), (3, .long (lN gives)), (5, .long (lN (sFmin B (sStr B pull gives) i))), (7, .long (lN (sFmax B (sStr B pull gives) i))), (9, .ref (q.2.2 11)), (10, .int (nI 12)), (11, .int (nI (i + 1)))]) rfl ?_
            have h9 := ih (i + 1) (lN (sFmin B (sStr B pull gives) i)) (by omega) (by omega) (Or.inr ⟨by omega, congrArg lN (show sFmin B (sStr B pull gives) i = sFmin B (sStr B pull gives) (i + 1) from (if_neg h42_1).symm)⟩)
            rw [show sFmax B (sStr B pull gives) (i + 1) = sFmax B (sStr B pull gives) i from if_neg h42_1] at h9
            exact h9
          · skip
            refine g_aload_n hC (gDec_at DX0_evenness_0 23 rfl) rfl ?_
            refine g_aload hC (gDec_at DX0_evenness_0 24 rfl) rfl ?_
            refine g_lload_n hC (gDec_at DX0_evenness_0 25 rfl) rfl ?_
            refine g_lload_n hC (gDec_at DX0_evenness_0 26 rfl) rfl ?_
            refine g_callVd (w := wC q) hC 9 (c_X0_strainOf q hI (by omega) (by omega) (pull := pull) (gives := gives) (by omega) (by omega)) vf_X0_strainOf ml_X0_132 (by decide) (show 9 < 63 from by decide) rfl rfl rfl rfl rfl (Nat.le_of_ble_eq_true rfl) (gDec_at DX0_evenness_0 27 rfl) ?_
            refine g_lstore hC (gDec_at DX0_evenness_0 28 rfl) (by decide) (L' := [(13, .long (lN (sStr B pull gives i))), (12, .ref (q.2.2 (15 + i))), (0, .ref (q.2.2 9)), (1, .long (lN pull)), (3, .long (lN gives)), (5, .long (lN (sFmin B (sStr B pull gives) i))), (7, .long (lN (sFmax B (sStr B pull gives) i))), (9, .ref (q.2.2 11)), (10, .int (nI 12)), (11, .int (nI i))]) rfl ?_
            refine g_lload hC (gDec_at DX0_evenness_0 29 rfl) rfl ?_
            refine g_ldc2 hC cl_X0_161 (v' := -9) rfl (gDec_at DX0_evenness_0 30 rfl) ?_
            refine g_lc_ne hC (gDec_at DX0_evenness_0 31 rfl) (gDec_at DX0_evenness_0 32 rfl) 69 (by decide) (fun h => ?_) (fun h => absurd h (lN_n9 (by omega)))
            refine g_lload hC (gDec_at DX0_evenness_0 35 rfl) rfl ?_
            refine g_lload hC (gDec_at DX0_evenness_0 36 rfl) rfl ?_
            refine g_mmin_long ml_X0_151 hC jm_min_long (by decide) (v := (lN (min (sFmin B (sStr B pull gives) i) (sStr B pull gives i)))) (lN_min (by omega) (by omega)) (Nat.le_of_ble_eq_true rfl) (gDec_at DX0_evenness_0 37 rfl) ?_
            refine g_lstore hC (gDec_at DX0_evenness_0 38 rfl) (by decide) (L' := [(5, .long (lN (min (sFmin B (sStr B pull gives) i) (sStr B pull gives i)))), (13, .long (lN (sStr B pull gives i))), (12, .ref (q.2.2 (15 + i))), (0, .ref (q.2.2 9)), (1, .long (lN pull)), (3, .long (lN gives)), (7, .long (lN (sFmax B (sStr B pull gives) i))), (9, .ref (q.2.2 11)), (10, .int (nI 12)), (11, .int (nI i))]) rfl ?_
            refine g_lload hC (gDec_at DX0_evenness_0 39 rfl) rfl ?_
            refine g_lload hC (gDec_at DX0_evenness_0 40 rfl) rfl ?_
            refine g_mmax_long ml_X0_163 hC jm_max_long (by decide) (v := (lN (max (sFmax B (sStr B pull gives) i) (sStr B pull gives i)))) (lN_max (by omega) (by omega)) (Nat.le_of_ble_eq_true rfl) (gDec_at DX0_evenness_0 41 rfl) ?_
            refine g_lstore hC (gDec_at DX0_evenness_0 42 rfl) (by decide) (L' := [(7, .long (lN (max (sFmax B (sStr B pull gives) i) (sStr B pull gives i)))), (5, .long (lN (min (sFmin B (sStr B pull gives) i) (sStr B pull gives i)))), (13, .long (lN (sStr B pull gives i))), (12, .ref (q.2.2 (15 + i))), (0, .ref (q.2.2 9)), (1, .long (lN pull)), (3, .long (lN gives)), (9, .ref (q.2.2 11)), (10, .int (nI 12)), (11, .int (nI i))]) rfl ?_
            refine g_iincN hC (gDec_at DX0_evenness_0 43 rfl) rfl (by decide) (L' := [(11, .int (nI (i + 1))), (7, .long (lN (max (sFmax B (sStr B pull gives) i) (sStr B pull gives i)))), (5, .long (lN (min (sFmin B (sStr B pull gives) i) (sStr B pull gives i)))), (13, .long (lN (sStr B pull gives i))), (12, .ref (q.2.2 (15 + i))), (0, .ref (q.2.2 9)), (1, .long (lN pull)), (3, .long (lN gives)), (9, .ref (q.2.2 11)), (10, .int (nI 12))]) rfl ?_
            refine g_goto hC (gDec_at DX0_evenness_0 44 rfl) 22 (by decide) ?_
            refine g_sub [5, 6, 7, 2, 1, 8, 9, 0] (L' := [(0, .ref (q.2.2 9)), (1, .long (lN pull)), (3, .long (lN gives)), (5, .long (lN (min (sFmin B (sStr B pull gives) i) (sStr B pull gives i)))), (7, .long (lN (max (sFmax B (sStr B pull gives) i) (sStr B pull gives i)))), (9, .ref (q.2.2 11)), (10, .int (nI 12)), (11, .int (nI (i + 1)))]) rfl ?_
            have h9 := ih (i + 1) (lN (min (sFmin B (sStr B pull gives) i) (sStr B pull gives i))) (by omega) (by omega) (Or.inr ⟨by omega, congrArg lN (show min (sFmin B (sStr B pull gives) i) (sStr B pull gives i) = sFmin B (sStr B pull gives) (i + 1) from (if_pos h42_1).symm)⟩)
            rw [show sFmax B (sStr B pull gives) (i + 1) = max (sFmax B (sStr B pull gives) i) (sStr B pull gives i) from if_pos h42_1] at h9
            exact h9
  exact g_sub [5, 6, 7, 4, 3, 2, 1, 0] rfl (loop22 (12 + 1 - 0) 0 (-9) (by omega) (by omega) (Or.inl ⟨rfl, rfl⟩))
