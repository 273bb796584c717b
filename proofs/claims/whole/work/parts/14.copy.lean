/-! A bow copied; small statics of BowBend -/
theorem bK_up2 {M : gM} (h : bK M) {i k : Nat} {x : Int32} (hi : ∀ b j, b < 3 → j < 12 → 15 + 18 * b + j ≠ i) : bK (gupd M i k x) := by
  intro b hb j hj
  obtain ⟨h1, h2, h3, h4⟩ := h b hb j hj
  have e := hi b j hb hj
  refine ⟨?_, ?_, ?_, ?_⟩ <;> rw [gupd_get, if_neg (fun z => e z.1)]
  · exact h1
  · exact h2
  · exact h3
  · exact h4
/-- Bow b is becoming what Bow b2 is: i1 woods, i2 places stand -/
def cpI (b b2 : Nat) (M M1 : gM) (i1 i2 : Nat) : Prop := bK M1 ∧ M1.1 (9 + 18 * b) 2 = M.1 (9 + 18 * b2) 2 ∧ M1.1 (9 + 18 * b) 3 = M.1 (9 + 18 * b2) 3 ∧ (∀ k, k < i1 → ∀ c, c < 3 → M1.1 (12 + 18 * b + k) c = M.1 (12 + 18 * b2 + k) c) ∧ (∀ j, j < i2 → ∀ c, 3 ≤ c → c ≤ 8 → M1.1 (15 + 18 * b + j) c = M.1 (15 + 18 * b2 + j) c) ∧ sameO (fun i => 9 + 18 * b ≤ i ∧ i < 27 + 18 * b) M M1
theorem cpI_w {b b2 : Nat} {M M1 : gM} {i : Nat} (h : cpI b b2 M M1 i 0) (hi : i < 3) : cpI b b2 M (gupd (gupd (gupd M1 (12 + 18 * b + i) 0 (M.1 (12 + 18 * b2 + i) 0)) (12 + 18 * b + i) 1 (M.1 (12 + 18 * b2 + i) 1)) (12 + 18 * b + i) 2 (M.1 (12 + 18 * b2 + i) 2)) (i + 1) 0 := by
  obtain ⟨h1, h2, h3, h4, h5, h6⟩ := h
  refine ⟨fun b3 hb j hj => ?_, ?_, ?_, fun k hk c hc => ?_, fun j hj => absurd hj (Nat.not_lt_zero j), sameO_up (sameO_up (sameO_up h6 (by omega)) (by omega)) (by omega)⟩
  · simp only [gupd_get]
    rw [if_neg (by omega), if_neg (by omega), if_neg (by omega), if_neg (by omega), if_neg (by omega), if_neg (by omega), if_neg (by omega), if_neg (by omega), if_neg (by omega), if_neg (by omega), if_neg (by omega), if_neg (by omega)]
    exact h1 b3 hb j hj
  · simp only [gupd_get]; rw [if_neg (by omega), if_neg (by omega), if_neg (by omega)]; exact h2
  · simp only [gupd_get]; rw [if_neg (by omega), if_neg (by omega), if_neg (by omega)]; exact h3
  · by_cases e : k = i
    · subst e
      rcases (show c = 0 ∨ c = 1 ∨ c = 2 by omega) with rfl | rfl | rfl <;> simp [gupd_get]
    · simp only [gupd_get]; rw [if_neg (by omega), if_neg (by omega), if_neg (by omega)]; exact h4 k (by omega) c hc
theorem cpI_p {b b2 : Nat} {M M1 : gM} {i : Nat} (h : cpI b b2 M M1 3 i) (hi : i < 12) (h8 : M.1 (15 + 18 * b2 + i) 8 = 0 ∨ M.1 (15 + 18 * b2 + i) 8 = 1) : cpI b b2 M (pl6 M1 (15 + 18 * b + i) (M.1 (15 + 18 * b2 + i) 3) (M.1 (15 + 18 * b2 + i) 4) (M.1 (15 + 18 * b2 + i) 5) (M.1 (15 + 18 * b2 + i) 6) (M.1 (15 + 18 * b2 + i) 7) (M.1 (15 + 18 * b2 + i) 8)) 3 (i + 1) := by
  obtain ⟨h1, h2, h3, h4, h5, h6⟩ := h
  refine ⟨fun b3 hb j hj => ?_, by rw [pl6_ne _ _ _ _ _ _ _ (by omega)]; exact h2, by rw [pl6_ne _ _ _ _ _ _ _ (by omega)]; exact h3, fun k hk c hc => by rw [pl6_ne _ _ _ _ _ _ _ (by omega)]; exact h4 k hk c hc, fun j hj c hc1 hc2 => ?_, fun c hc => by rw [pl6_ne _ _ _ _ _ _ _ (fun z => hc (by omega))]; exact h6 c hc⟩
  · obtain ⟨p, q, r, s⟩ := h1 b3 hb j hj
    by_cases z : 15 + 18 * b3 + j = 15 + 18 * b + i
    · rw [z] at p q r s ⊢
      refine ⟨?_, ?_, ?_, ?_⟩ <;> rw [pl6_get] <;> simp [p, q, r]
      exact h8
    · rw [pl6_ne _ _ _ _ _ _ _ z]; exact ⟨p, q, r, s⟩
  · by_cases z : j = i
    · subst z
      rw [pl6_get, if_pos rfl]
      rcases (show c = 3 ∨ c = 4 ∨ c = 5 ∨ c = 6 ∨ c = 7 ∨ c = 8 by omega) with rfl | rfl | rfl | rfl | rfl | rfl <;> rfl
    · rw [pl6_ne _ _ _ _ _ _ _ (by omega)]
      exact h5 j (by omega) c hc1 hc2
theorem cpI_end {b b2 : Nat} {M M1 : gM} {B : gB} (h : cpI b b2 M M1 3 12) (hB : bC b2 M B) : bC b M1 B := by
  obtain ⟨h1, h2, h3, h4, h5, h6⟩ := h
  obtain ⟨g1, g2, g3, g4⟩ := hB
  refine ⟨h2.trans g1, h3.trans g2, fun k hk => ?_, fun j hj ht => ?_⟩
  · obtain ⟨a, b, c⟩ := g3 k hk
    exact ⟨(h4 k hk 0 (by decide)).trans a, (h4 k hk 1 (by decide)).trans b, (h4 k hk 2 (by decide)).trans c⟩
  · obtain ⟨a, b, c, d, e, f⟩ := g4 j hj ht
    exact ⟨(h5 j hj 3 (by decide) (by decide)).trans a, (h5 j hj 4 (by decide) (by decide)).trans b, (h5 j hj 5 (by decide) (by decide)).trans c, (h5 j hj 6 (by decide) (by decide)).trans d, (h5 j hj 8 (by decide) (by decide)).trans e, (h5 j hj 7 (by decide) (by decide)).trans f⟩
set_option maxRecDepth 100000 in
set_option maxHeartbeats 4000000 in
theorem c_X0_copyFrom (q : gQ3) {M : gM} {b b2 : Nat} (hb : b < 3) (hb2 : b2 < 3) (hne : b ≠ b2) (hK : bK M) : gCt (wC q) yX0_copyFrom cX0_copyFrom 3 none 1 [.ref (q.2.2 (9 + 18 * b)), .ref (q.2.2 (9 + 18 * b2))] M (fun v M' => v = none ∧ cpI b b2 M M' 3 12) := by
  refine gMet RX0 (by decide +kernel) rfl (Nat.le_of_ble_eq_true rfl) (fun X hC => ?_)
  have hC : gC X (wC q) cX0_copyFrom 3 RX0 none 1 := hC
  show gG X (wC q) _ 3 M 0 [(0, .ref (q.2.2 (9 + 18 * b))), (1, .ref (q.2.2 (9 + 18 * b2)))] []
  have h8 := fun j hj => (hK b2 hb2 j hj).2.2.2
  refine g_aload_n hC (gDec_at DX0_copyFrom_0 0 rfl) rfl ?_
  refine g_aload_n hC (gDec_at DX0_copyFrom_0 1 rfl) rfl ?_
  refine g_get (w := wC q) hC (9 + 18 * b2) (v := .int (M.1 (9 + 18 * b2) 2)) fl_X0_29 (show 9 + 18 * b2 < 63 from by omega) (cC_bw q _ _ b2) rfl (gDec_at DX0_copyFrom_0 2 rfl) ?_
  refine g_putI (w := wC q) hC (9 + 18 * b) fl_X0_29 fp_0_2 (show 9 + 18 * b < 63 from by omega) (cC_bw q _ _ b) (Nat.le_of_ble_eq_true rfl) (cC_bw q _ _ b) rfl (gDec_at DX0_copyFrom_0 3 rfl) ?_
  refine g_aload_n hC (gDec_at DX0_copyFrom_0 4 rfl) rfl ?_
  refine g_aload_n hC (gDec_at DX0_copyFrom_0 5 rfl) rfl ?_
  refine g_get (w := wC q) hC (9 + 18 * b2) (v := .int (M.1 (9 + 18 * b2) 3)) fl_X0_33 (show 9 + 18 * b2 < 63 from by omega) (cC_bw q _ _ b2) (g_sv (by rw [gupd_get, if_neg (by omega)])) (gDec_at DX0_copyFrom_0 6 rfl) ?_
  refine g_putI (w := wC q) hC (9 + 18 * b) fl_X0_33 fp_0_3 (show 9 + 18 * b < 63 from by omega) (cC_bw q _ _ b) (Nat.le_of_ble_eq_true rfl) (cC_bw q _ _ b) rfl (gDec_at DX0_copyFrom_0 7 rfl) ?_
  refine g_iconst hC (gDec_at DX0_copyFrom_0 8 rfl) (v := nI 0) (by decide) ?_
  refine g_istore_n hC (gDec_at DX0_copyFrom_0 9 rfl) (by decide) (L' := [(2, .int (nI 0)), (0, .ref (q.2.2 (9 + 18 * b))), (1, .ref (q.2.2 (9 + 18 * b2)))]) rfl ?_
  have loop18 : ∀ (fu i : Nat) (M1 : gM), i ≤ 3 → 3 - i < fu → cpI b b2 M M1 i 0 → gG X (wC q) (fun v M' => v = none ∧ cpI b b2 M M' 3 12) 3 M1 18 [(0, .ref (q.2.2 (9 + 18 * b))), (1, .ref (q.2.2 (9 + 18 * b2))), (2, .int (nI i))] [] := by
    intro fu; induction fu with
    | zero => intro i M1 h1 h2; omega
    | succ fu ih =>
      intro i M1 hi hfu hc
      refine g_iload_n hC (gDec_at DX0_copyFrom_0 10 rfl) rfl ?_
      refine g_aload_n hC (gDec_at DX0_copyFrom_0 11 rfl) rfl ?_
      refine g_get (w := wC q) hC (9 + 18 * b) (v := .ref (q.2.2 (10 + 18 * b))) fl_X0_14 (show 9 + 18 * b < 63 from by omega) (cC_bw q _ _ b) (congrArg (fun z => some (Value.ref (q.2.2 z))) (by omega)) (gDec_at DX0_copyFrom_0 12 rfl) ?_
      refine g_alen (w := wC q) hC (10 + 18 * b) 5 (show 10 + 18 * b < 63 from by omega) (cC_wr q _ _ b) rfl (gDec_at DX0_copyFrom_0 13 rfl) ?_
      refine g_icmp_geN hC (by omega) (by omega) (gDec_at DX0_copyFrom_0 14 rfl) 78 (by decide) (fun h24 => ?_) (fun h24 => ?_)
      · skip
        obtain rfl : i = 3 := by omega
        refine g_iconst hC (gDec_at DX0_copyFrom_0 42 rfl) (v := nI 0) (by decide) ?_
        refine g_istore_n hC (gDec_at DX0_copyFrom_0 43 rfl) (by decide) (L' := [(2, .int (nI 0)), (0, .ref (q.2.2 (9 + 18 * b))), (1, .ref (q.2.2 (9 + 18 * b2)))]) rfl ?_
        have lq : ∀ (fu i : Nat) (M2 : gM), i ≤ 12 → 12 - i < fu → cpI b b2 M M2 3 i → gG X (wC q) (fun v M' => v = none ∧ cpI b b2 M M' 3 12) 3 M2 80 [(0, .ref (q.2.2 (9 + 18 * b))), (1, .ref (q.2.2 (9 + 18 * b2))), (2, .int (nI i))] [] := by
          intro fu; induction fu with
          | zero => intro i M2 h1 h2; omega
          | succ fu ih_lq =>
            intro i M2 hi hfu hc
            refine g_iload_n hC (gDec_at DX0_copyFrom_0 44 rfl) rfl ?_
            refine g_aload_n hC (gDec_at DX0_copyFrom_0 45 rfl) rfl ?_
            refine g_get (w := wC q) hC (9 + 18 * b) (v := .ref (q.2.2 (11 + 18 * b))) fl_X0_22 (show 9 + 18 * b < 63 from by omega) (cC_bw q _ _ b) (congrArg (fun z => some (Value.ref (q.2.2 z))) (by omega)) (gDec_at DX0_copyFrom_0 46 rfl) ?_
            refine g_alen (w := wC q) hC (11 + 18 * b) 3 (show 11 + 18 * b < 63 from by omega) (cC_pr q _ _ b) rfl (gDec_at DX0_copyFrom_0 47 rfl) ?_
            refine g_icmp_geN hC (by omega) (by omega) (gDec_at DX0_copyFrom_0 48 rfl) 119 (by decide) (fun h86 => ?_) (fun h86 => ?_)
            · skip
              obtain rfl : i = 12 := by omega
              refine g_vret hC (gDec_at DX0_copyFrom_1 1 rfl) ?_
              exact ⟨rfl, hc⟩
            · skip
              refine g_iload_n hC (gDec_at DX0_copyFrom_0 49 rfl) rfl ?_
              refine g_aload_n hC (gDec_at DX0_copyFrom_0 50 rfl) rfl ?_
              refine g_get (w := wC q) hC (9 + 18 * b2) (v := .ref (q.2.2 (11 + 18 * b2))) fl_X0_22 (show 9 + 18 * b2 < 63 from by omega) (cC_bw q _ _ b2) (congrArg (fun z => some (Value.ref (q.2.2 z))) (by omega)) (gDec_at DX0_copyFrom_0 51 rfl) ?_
              refine g_alen (w := wC q) hC (11 + 18 * b2) 3 (show 11 + 18 * b2 < 63 from by omega) (cC_pr q _ _ b2) rfl (gDec_at DX0_copyFrom_0 52 rfl) ?_
              refine g_icmp_geN hC (by omega) (by omega) (gDec_at DX0_copyFrom_0 53 rfl) 119 (by decide) (fun h95 => ?_) (fun h95 => ?_)
              · skip
                exact absurd h95 (by omega)
              · skip
                refine g_aload_n hC (gDec_at DX0_copyFrom_0 54 rfl) rfl ?_
                refine g_get (w := wC q) hC (9 + 18 * b) (v := .ref (q.2.2 (11 + 18 * b))) fl_X0_22 (show 9 + 18 * b < 63 from by omega) (cC_bw q _ _ b) (congrArg (fun z => some (Value.ref (q.2.2 z))) (by omega)) (gDec_at DX0_copyFrom_0 55 rfl) ?_
                refine g_iload_n hC (gDec_at DX0_copyFrom_0 56 rfl) rfl ?_
                refine g_aald (w := wC q) hC (11 + 18 * b) 3 i (a := q.2.2 (15 + 18 * b + i)) (show 11 + 18 * b < 63 from by omega) (cC_pr q _ _ b) rfl (by omega) (by decide) (congrArg (fun z => some (q.2.2 z)) (by omega)) (gDec_at DX0_copyFrom_0 57 rfl) ?_
                refine g_aload_n hC (gDec_at DX0_copyFrom_0 58 rfl) rfl ?_
                refine g_get (w := wC q) hC (9 + 18 * b2) (v := .ref (q.2.2 (11 + 18 * b2))) fl_X0_22 (show 9 + 18 * b2 < 63 from by omega) (cC_bw q _ _ b2) (congrArg (fun z => some (Value.ref (q.2.2 z))) (by omega)) (gDec_at DX0_copyFrom_0 59 rfl) ?_
                refine g_iload_n hC (gDec_at DX0_copyFrom_0 60 rfl) rfl ?_
                refine g_aald (w := wC q) hC (11 + 18 * b2) 3 i (a := q.2.2 (15 + 18 * b2 + i)) (show 11 + 18 * b2 < 63 from by omega) (cC_pr q _ _ b2) rfl (by omega) (by decide) (congrArg (fun z => some (q.2.2 z)) (by omega)) (gDec_at DX0_copyFrom_0 61 rfl) ?_
                refine g_callV (w := wC q) hC (i := (15 + 18 * b + i)) (c_X1_copyFrom q hb hb2 hne (by omega) (by rw [hc.2.2.2.2.2 (15 + 18 * b2 + i) (by omega)]; exact h8 i (by omega))) vf_X1_copyFrom ml_X0_71 (by decide) (show 15 + 18 * b + i < 63 from by omega) (cC_pl q _ _ (by omega)) rfl rfl rfl rfl (Nat.le_of_ble_eq_true rfl) (gDec_at DX0_copyFrom_0 62 rfl) (fun v_110 M_110 hq_110 => ?_)
                obtain ⟨rfl, rfl⟩ := hq_110
                have e5 := hc.2.2.2.2.2 (15 + 18 * b2 + i) (by omega)
                rw [e5]
                refine g_iincN hC (gDec_at DX0_copyFrom_0 63 rfl) rfl (by decide) (L' := [(2, .int (nI (i + 1))), (0, .ref (q.2.2 (9 + 18 * b))), (1, .ref (q.2.2 (9 + 18 * b2)))]) rfl ?_
                refine g_goto hC (gDec_at DX0_copyFrom_1 0 rfl) 80 (by decide) ?_
                refine g_sub [1, 2, 0] (L' := [(0, .ref (q.2.2 (9 + 18 * b))), (1, .ref (q.2.2 (9 + 18 * b2))), (2, .int (nI (i + 1)))]) rfl ?_
                have h9 := ih_lq (i + 1) _ (by omega) (by omega) (cpI_p hc (by omega) (h8 i (by omega)))
                exact h9
        exact g_sub [1, 2, 0] rfl (lq (12 + 1 - 0) 0 _ (by omega) (by omega) hc)
      · skip
        refine g_iload_n hC (gDec_at DX0_copyFrom_0 15 rfl) rfl ?_
        refine g_aload_n hC (gDec_at DX0_copyFrom_0 16 rfl) rfl ?_
        refine g_get (w := wC q) hC (9 + 18 * b2) (v := .ref (q.2.2 (10 + 18 * b2))) fl_X0_14 (show 9 + 18 * b2 < 63 from by omega) (cC_bw q _ _ b2) (congrArg (fun z => some (Value.ref (q.2.2 z))) (by omega)) (gDec_at DX0_copyFrom_0 17 rfl) ?_
        refine g_alen (w := wC q) hC (10 + 18 * b2) 5 (show 10 + 18 * b2 < 63 from by omega) (cC_wr q _ _ b2) rfl (gDec_at DX0_copyFrom_0 18 rfl) ?_
        refine g_icmp_geN hC (by omega) (by omega) (gDec_at DX0_copyFrom_0 19 rfl) 78 (by decide) (fun h33 => ?_) (fun h33 => ?_)
        · skip
          exact absurd h33 (by omega)
        · skip
          refine g_aload_n hC (gDec_at DX0_copyFrom_0 20 rfl) rfl ?_
          refine g_get (w := wC q) hC (9 + 18 * b) (v := .ref (q.2.2 (10 + 18 * b))) fl_X0_14 (show 9 + 18 * b < 63 from by omega) (cC_bw q _ _ b) (congrArg (fun z => some (Value.ref (q.2.2 z))) (by omega)) (gDec_at DX0_copyFrom_0 21 rfl) ?_
          refine g_iload_n hC (gDec_at DX0_copyFrom_0 22 rfl) rfl ?_
          refine g_aald (w := wC q) hC (10 + 18 * b) 5 i (a := q.2.2 (12 + 18 * b + i)) (show 10 + 18 * b < 63 from by omega) (cC_wr q _ _ b) rfl (by omega) (by decide) (congrArg (fun z => some (q.2.2 z)) (by omega)) (gDec_at DX0_copyFrom_0 23 rfl) ?_
          refine g_aload_n hC (gDec_at DX0_copyFrom_0 24 rfl) rfl ?_
          refine g_get (w := wC q) hC (9 + 18 * b2) (v := .ref (q.2.2 (10 + 18 * b2))) fl_X0_14 (show 9 + 18 * b2 < 63 from by omega) (cC_bw q _ _ b2) (congrArg (fun z => some (Value.ref (q.2.2 z))) (by omega)) (gDec_at DX0_copyFrom_0 25 rfl) ?_
          refine g_iload_n hC (gDec_at DX0_copyFrom_0 26 rfl) rfl ?_
          refine g_aald (w := wC q) hC (10 + 18 * b2) 5 i (a := q.2.2 (12 + 18 * b2 + i)) (show 10 + 18 * b2 < 63 from by omega) (cC_wr q _ _ b2) rfl (by omega) (by decide) (congrArg (fun z => some (q.2.2 z)) (by omega)) (gDec_at DX0_copyFrom_0 27 rfl) ?_
          refine g_get (w := wC q) hC (12 + 18 * b2 + i) (v := .int (M.1 (12 + 18 * b2 + i) 0)) fl_X0_59 (show 12 + 18 * b2 + i < 63 from by omega) (cC_wd q _ _ (by omega)) (g_sv (congrFun (hc.2.2.2.2.2 (12 + 18 * b2 + i) (by omega)) 0)) (gDec_at DX0_copyFrom_0 28 rfl) ?_
          refine g_aload_n hC (gDec_at DX0_copyFrom_0 29 rfl) rfl ?_
          refine g_get (w := wC q) hC (9 + 18 * b2) (v := .ref (q.2.2 (10 + 18 * b2))) fl_X0_14 (show 9 + 18 * b2 < 63 from by omega) (cC_bw q _ _ b2) (congrArg (fun z => some (Value.ref (q.2.2 z))) (by omega)) (gDec_at DX0_copyFrom_0 30 rfl) ?_
          refine g_iload_n hC (gDec_at DX0_copyFrom_0 31 rfl) rfl ?_
          refine g_aald (w := wC q) hC (10 + 18 * b2) 5 i (a := q.2.2 (12 + 18 * b2 + i)) (show 10 + 18 * b2 < 63 from by omega) (cC_wr q _ _ b2) rfl (by omega) (by decide) (congrArg (fun z => some (q.2.2 z)) (by omega)) (gDec_at DX0_copyFrom_0 32 rfl) ?_
          refine g_get (w := wC q) hC (12 + 18 * b2 + i) (v := .int (M.1 (12 + 18 * b2 + i) 1)) fl_X0_62 (show 12 + 18 * b2 + i < 63 from by omega) (cC_wd q _ _ (by omega)) (g_sv (congrFun (hc.2.2.2.2.2 (12 + 18 * b2 + i) (by omega)) 1)) (gDec_at DX0_copyFrom_0 33 rfl) ?_
          refine g_aload_n hC (gDec_at DX0_copyFrom_0 34 rfl) rfl ?_
          refine g_get (w := wC q) hC (9 + 18 * b2) (v := .ref (q.2.2 (10 + 18 * b2))) fl_X0_14 (show 9 + 18 * b2 < 63 from by omega) (cC_bw q _ _ b2) (congrArg (fun z => some (Value.ref (q.2.2 z))) (by omega)) (gDec_at DX0_copyFrom_0 35 rfl) ?_
          refine g_iload_n hC (gDec_at DX0_copyFrom_0 36 rfl) rfl ?_
          refine g_aald (w := wC q) hC (10 + 18 * b2) 5 i (a := q.2.2 (12 + 18 * b2 + i)) (show 10 + 18 * b2 < 63 from by omega) (cC_wr q _ _ b2) rfl (by omega) (by decide) (congrArg (fun z => some (q.2.2 z)) (by omega)) (gDec_at DX0_copyFrom_0 37 rfl) ?_
          refine g_get (w := wC q) hC (12 + 18 * b2 + i) (v := .int (M.1 (12 + 18 * b2 + i) 2)) fl_X0_65 (show 12 + 18 * b2 + i < 63 from by omega) (cC_wd q _ _ (by omega)) (g_sv (congrFun (hc.2.2.2.2.2 (12 + 18 * b2 + i) (by omega)) 2)) (gDec_at DX0_copyFrom_0 38 rfl) ?_
          refine g_callVn (w := wC q) hC (12 + 18 * b + i) (c_X5_become q hb (by omega) _ _ _) vf_X5_become ml_X0_68 (by decide) (show 12 + 18 * b + i < 63 from by omega) (cC_wd q _ _ (by omega)) rfl rfl rfl rfl (Nat.le_of_ble_eq_true rfl) (gDec_at DX0_copyFrom_0 39 rfl) ?_
          refine g_iincN hC (gDec_at DX0_copyFrom_0 40 rfl) rfl (by decide) (L' := [(2, .int (nI (i + 1))), (0, .ref (q.2.2 (9 + 18 * b))), (1, .ref (q.2.2 (9 + 18 * b2)))]) rfl ?_
          refine g_goto hC (gDec_at DX0_copyFrom_0 41 rfl) 18 (by decide) ?_
          refine g_sub [1, 2, 0] (L' := [(0, .ref (q.2.2 (9 + 18 * b))), (1, .ref (q.2.2 (9 + 18 * b2))), (2, .int (nI (i + 1)))]) rfl ?_
          have h9 := ih (i + 1) _ (by omega) (by omega) (cpI_w hc (by omega))
          exact h9
  exact g_sub [1, 2, 0] rfl (loop18 (3 + 1 - 0) 0 _ (by omega) (by omega) ⟨bK_up2 (bK_up2 hK (by intros; omega)) (by intros; omega), by rw [gupd_get, if_neg (by omega), gupd_get, if_pos ⟨rfl, rfl⟩], by rw [gupd_get, if_pos ⟨rfl, rfl⟩], fun k hk => absurd hk (Nat.not_lt_zero k), fun j hj => absurd hj (Nat.not_lt_zero j), sameO_up (sameO_up sameO_rf (by omega)) (by omega)⟩)

set_option maxRecDepth 100000 in
set_option maxHeartbeats 4000000 in
theorem c_X6_isOutside_in (q : gQ3) {M : gM} {x : Int32} {a b : Nat} (ha : a < 2147483648) (hb : b < 2147483648) (hx : gin x a b) : gCt (wC q) yX6_isOutside cX6_isOutside 3 (some .boolean) 0 [.int x, .int (nI a), .int (nI b)] M (gR (some (.int (nI 0))) M) := by
  refine gMet RX6 (by decide +kernel) rfl (Nat.le_of_ble_eq_true rfl) (fun X hC => ?_)
  have hC : gC X (wC q) cX6_isOutside 3 RX6 (some .boolean) 0 := hC
  show gG X (wC q) _ 3 M 0 [(0, .int x), (1, .int (nI a)), (2, .int (nI b))] []
  refine g_iload_n hC (gDec_at DX6_isOutside_0 0 rfl) rfl ?_
  refine g_iload_n hC (gDec_at DX6_isOutside_0 1 rfl) rfl ?_
  refine g_icmp_lt hC (gDec_at DX6_isOutside_0 2 rfl) 10 (by decide) (fun h2 => ?_) (fun h2 => ?_)
  · skip
    refine g_iconst hC (gDec_at DX6_isOutside_0 6 rfl) (v := nI 1) (by decide) ?_
    refine g_goto hC (gDec_at DX6_isOutside_0 7 rfl) 15 (by decide) ?_
    refine g_zret hC (Or.inr rfl) (gDec_at DX6_isOutside_0 9 rfl) ?_
    exact absurd hx (by unfold gin; rw [lt_I, nI_toInt ha] at h2; omega)
  · skip
    refine g_iload_n hC (gDec_at DX6_isOutside_0 3 rfl) rfl ?_
    refine g_iload_n hC (gDec_at DX6_isOutside_0 4 rfl) rfl ?_
    refine g_icmp_le hC (gDec_at DX6_isOutside_0 5 rfl) 14 (by decide) (fun h7 => ?_) (fun h7 => ?_)
    · skip
      refine g_iconst hC (gDec_at DX6_isOutside_0 8 rfl) (v := nI 0) (by decide) ?_
      refine g_zret hC (Or.inl rfl) (gDec_at DX6_isOutside_0 9 rfl) ?_
      exact ⟨rfl, rfl⟩
    · skip
      refine g_iconst hC (gDec_at DX6_isOutside_0 6 rfl) (v := nI 1) (by decide) ?_
      refine g_goto hC (gDec_at DX6_isOutside_0 7 rfl) 15 (by decide) ?_
      refine g_zret hC (Or.inr rfl) (gDec_at DX6_isOutside_0 9 rfl) ?_
      exact absurd hx (by unfold gin; rw [le_I, nI_toInt hb] at h7; omega)

set_option maxRecDepth 100000 in
set_option maxHeartbeats 4000000 in
theorem c_X6_isOutside_out (q : gQ3) {M : gM} {x : Int32} {a b : Nat} (ha : a < 2147483648) (hb : b < 2147483648) (hx : ¬ gin x a b) : gCt (wC q) yX6_isOutside cX6_isOutside 3 (some .boolean) 0 [.int x, .int (nI a), .int (nI b)] M (gR (some (.int (nI 1))) M) := by
  refine gMet RX6 (by decide +kernel) rfl (Nat.le_of_ble_eq_true rfl) (fun X hC => ?_)
  have hC : gC X (wC q) cX6_isOutside 3 RX6 (some .boolean) 0 := hC
  show gG X (wC q) _ 3 M 0 [(0, .int x), (1, .int (nI a)), (2, .int (nI b))] []
  refine g_iload_n hC (gDec_at DX6_isOutside_0 0 rfl) rfl ?_
  refine g_iload_n hC (gDec_at DX6_isOutside_0 1 rfl) rfl ?_
  refine g_icmp_lt hC (gDec_at DX6_isOutside_0 2 rfl) 10 (by decide) (fun h2 => ?_) (fun h2 => ?_)
  · skip
    refine g_iconst hC (gDec_at DX6_isOutside_0 6 rfl) (v := nI 1) (by decide) ?_
    refine g_goto hC (gDec_at DX6_isOutside_0 7 rfl) 15 (by decide) ?_
    refine g_zret hC (Or.inr rfl) (gDec_at DX6_isOutside_0 9 rfl) ?_
    exact ⟨rfl, rfl⟩
  · skip
    refine g_iload_n hC (gDec_at DX6_isOutside_0 3 rfl) rfl ?_
    refine g_iload_n hC (gDec_at DX6_isOutside_0 4 rfl) rfl ?_
    refine g_icmp_le hC (gDec_at DX6_isOutside_0 5 rfl) 14 (by decide) (fun h7 => ?_) (fun h7 => ?_)
    · skip
      refine g_iconst hC (gDec_at DX6_isOutside_0 8 rfl) (v := nI 0) (by decide) ?_
      refine g_zret hC (Or.inl rfl) (gDec_at DX6_isOutside_0 9 rfl) ?_
      exact absurd (show gin x a b from by rw [lt_I, nI_toInt ha] at h2; rw [le_I, nI_toInt hb] at h7; unfold gin; omega) hx
    · skip
      refine g_iconst hC (gDec_at DX6_isOutside_0 6 rfl) (v := nI 1) (by decide) ?_
      refine g_goto hC (gDec_at DX6_isOutside_0 7 rfl) 15 (by decide) ?_
      refine g_zret hC (Or.inr rfl) (gDec_at DX6_isOutside_0 9 rfl) ?_
      exact ⟨rfl, rfl⟩

set_option maxRecDepth 100000 in
set_option maxHeartbeats 4000000 in
theorem c_X6_isBadDraw_in (q : gQ3) {M : gM} {k : Nat} (hk : k ≤ 40) : gCt (wC q) yX6_isBadDraw cX6_isBadDraw 1 (some .boolean) 1 [.int (nI k)] M (gR (some (.int (nI 0))) M) := by
  refine gMet RX6 (by decide +kernel) rfl (Nat.le_of_ble_eq_true rfl) (fun X hC => ?_)
  have hC : gC X (wC q) cX6_isBadDraw 1 RX6 (some .boolean) 1 := hC
  show gG X (wC q) _ 1 M 0 [(0, .int (nI k))] []
  refine g_iload_n hC (gDec_at DX6_isBadDraw_0 0 rfl) rfl ?_
  refine g_iconst hC (gDec_at DX6_isBadDraw_0 1 rfl) (v := nI 0) (by decide) ?_
  refine g_bipush hC (gDec_at DX6_isBadDraw_0 2 rfl) (v := nI 40) (by decide) ?_
  refine g_callSd (w := wC q) hC (c_X6_isOutside_in q (by omega) (by omega) (nI_gin (k := k) (a := 0) (b := 40) (by omega) (by omega) (by omega))) sf_X6_isOutside ml_X6_60 (by decide) rfl rfl (Nat.le_of_ble_eq_true rfl) (gDec_at DX6_isBadDraw_0 3 rfl) ?_
  refine g_zret hC (Or.inl rfl) (gDec_at DX6_isBadDraw_0 4 rfl) ?_
  exact ⟨rfl, rfl⟩

set_option maxRecDepth 100000 in
set_option maxHeartbeats 4000000 in
theorem c_X6_isBadDraw_out (q : gQ3) {M : gM} {x : Int32} (hx : ¬ gin x 0 40) : gCt (wC q) yX6_isBadDraw cX6_isBadDraw 1 (some .boolean) 1 [.int x] M (gR (some (.int (nI 1))) M) := by
  refine gMet RX6 (by decide +kernel) rfl (Nat.le_of_ble_eq_true rfl) (fun X hC => ?_)
  have hC : gC X (wC q) cX6_isBadDraw 1 RX6 (some .boolean) 1 := hC
  show gG X (wC q) _ 1 M 0 [(0, .int x)] []
  refine g_iload_n hC (gDec_at DX6_isBadDraw_0 0 rfl) rfl ?_
  refine g_iconst hC (gDec_at DX6_isBadDraw_0 1 rfl) (v := nI 0) (by decide) ?_
  refine g_bipush hC (gDec_at DX6_isBadDraw_0 2 rfl) (v := nI 40) (by decide) ?_
  refine g_callSd (w := wC q) hC (c_X6_isOutside_out q (by omega) (by omega) hx) sf_X6_isOutside ml_X6_60 (by decide) rfl rfl (Nat.le_of_ble_eq_true rfl) (gDec_at DX6_isBadDraw_0 3 rfl) ?_
  refine g_zret hC (Or.inr rfl) (gDec_at DX6_isBadDraw_0 4 rfl) ?_
  exact ⟨rfl, rfl⟩

set_option maxRecDepth 100000 in
set_option maxHeartbeats 4000000 in
theorem c_X6_isBadSearch_3 (q : gQ3) {M : gM} {x : Nat} (hxa : 0 ≤ x) (hxb : x ≤ 40) {f : Nat} (hfa : 0 ≤ f) (hfb : f ≤ 999) {n : Nat} (hna : 1 ≤ n) (hnb : n ≤ 3) : gCt (wC q) yX6_isBadSearch cX6_isBadSearch 3 (some .boolean) 2 [.int (nI x), .int (nI f), .int (nI n)] M (gR (some (.int (nI 0))) M) := by
  refine gMet RX6 (by decide +kernel) rfl (Nat.le_of_ble_eq_true rfl) (fun X hC => ?_)
  have hC : gC X (wC q) cX6_isBadSearch 3 RX6 (some .boolean) 2 := hC
  show gG X (wC q) _ 3 M 0 [(0, .int (nI x)), (1, .int (nI f)), (2, .int (nI n))] []
  refine g_iload_n hC (gDec_at DX6_isBadSearch_0 0 rfl) rfl ?_
  refine g_callSd (w := wC q) hC (c_X6_isBadDraw_in q (k := x) (by omega)) sf_X6_isBadDraw ml_X6_117 (by decide) rfl rfl (Nat.le_of_ble_eq_true rfl) (gDec_at DX6_isBadSearch_0 1 rfl) ?_
  refine g_if_neN hC (by decide) (gDec_at DX6_isBadSearch_0 2 rfl) 27 (by decide) (fun h => absurd h (by decide)) (fun h => ?_)
  refine g_iload_n hC (gDec_at DX6_isBadSearch_0 3 rfl) rfl ?_
  refine g_iconst hC (gDec_at DX6_isBadSearch_0 4 rfl) (v := nI 0) (by decide) ?_
  refine g_sipush hC (gDec_at DX6_isBadSearch_0 5 rfl) (v := nI 999) (by decide) ?_
  refine g_callSd (w := wC q) hC (c_X6_isOutside_in q (by omega) (by omega) (nI_gin (k := f) (a := 0) (b := 999) (by omega) (by omega) (by omega))) sf_X6_isOutside ml_X6_60 (by decide) rfl rfl (Nat.le_of_ble_eq_true rfl) (gDec_at DX6_isBadSearch_0 6 rfl) ?_
  refine g_if_neN hC (by decide) (gDec_at DX6_isBadSearch_0 7 rfl) 27 (by decide) (fun h => absurd h (by decide)) (fun h => ?_)
  refine g_iload_n hC (gDec_at DX6_isBadSearch_0 8 rfl) rfl ?_
  refine g_iconst hC (gDec_at DX6_isBadSearch_0 9 rfl) (v := nI 1) (by decide) ?_
  refine g_iconst hC (gDec_at DX6_isBadSearch_0 10 rfl) (v := nI 3) (by decide) ?_
  refine g_callSd (w := wC q) hC (c_X6_isOutside_in q (by omega) (by omega) (nI_gin (k := n) (a := 1) (b := 3) (by omega) (by omega) (by omega))) sf_X6_isOutside ml_X6_60 (by decide) rfl rfl (Nat.le_of_ble_eq_true rfl) (gDec_at DX6_isBadSearch_0 11 rfl) ?_
  refine g_if_eqN hC (by decide) (gDec_at DX6_isBadSearch_0 12 rfl) 31 (by decide) (fun h => ?_) (fun h => absurd h (by decide))
  refine g_iconst hC (gDec_at DX6_isBadSearch_0 15 rfl) (v := nI 0) (by decide) ?_
  refine g_zret hC (Or.inl rfl) (gDec_at DX6_isBadSearch_0 16 rfl) ?_
  exact ⟨rfl, rfl⟩

set_option maxRecDepth 100000 in
set_option maxHeartbeats 4000000 in
theorem c_X6_isBadSearch_2 (q : gQ3) {M : gM} {x : Nat} (hxa : 0 ≤ x) (hxb : x ≤ 40) {f : Nat} (hfa : 0 ≤ f) (hfb : f ≤ 999) {n : Int32} (hn : ¬ gin n 1 3) : gCt (wC q) yX6_isBadSearch cX6_isBadSearch 3 (some .boolean) 2 [.int (nI x), .int (nI f), .int n] M (gR (some (.int (nI 1))) M) := by
  refine gMet RX6 (by decide +kernel) rfl (Nat.le_of_ble_eq_true rfl) (fun X hC => ?_)
  have hC : gC X (wC q) cX6_isBadSearch 3 RX6 (some .boolean) 2 := hC
  show gG X (wC q) _ 3 M 0 [(0, .int (nI x)), (1, .int (nI f)), (2, .int n)] []
  refine g_iload_n hC (gDec_at DX6_isBadSearch_0 0 rfl) rfl ?_
  refine g_callSd (w := wC q) hC (c_X6_isBadDraw_in q (k := x) (by omega)) sf_X6_isBadDraw ml_X6_117 (by decide) rfl rfl (Nat.le_of_ble_eq_true rfl) (gDec_at DX6_isBadSearch_0 1 rfl) ?_
  refine g_if_neN hC (by decide) (gDec_at DX6_isBadSearch_0 2 rfl) 27 (by decide) (fun h => absurd h (by decide)) (fun h => ?_)
  refine g_iload_n hC (gDec_at DX6_isBadSearch_0 3 rfl) rfl ?_
  refine g_iconst hC (gDec_at DX6_isBadSearch_0 4 rfl) (v := nI 0) (by decide) ?_
  refine g_sipush hC (gDec_at DX6_isBadSearch_0 5 rfl) (v := nI 999) (by decide) ?_
  refine g_callSd (w := wC q) hC (c_X6_isOutside_in q (by omega) (by omega) (nI_gin (k := f) (a := 0) (b := 999) (by omega) (by omega) (by omega))) sf_X6_isOutside ml_X6_60 (by decide) rfl rfl (Nat.le_of_ble_eq_true rfl) (gDec_at DX6_isBadSearch_0 6 rfl) ?_
  refine g_if_neN hC (by decide) (gDec_at DX6_isBadSearch_0 7 rfl) 27 (by decide) (fun h => absurd h (by decide)) (fun h => ?_)
  refine g_iload_n hC (gDec_at DX6_isBadSearch_0 8 rfl) rfl ?_
  refine g_iconst hC (gDec_at DX6_isBadSearch_0 9 rfl) (v := nI 1) (by decide) ?_
  refine g_iconst hC (gDec_at DX6_isBadSearch_0 10 rfl) (v := nI 3) (by decide) ?_
  refine g_callSd (w := wC q) hC (c_X6_isOutside_out q (by omega) (by omega) hn) sf_X6_isOutside ml_X6_60 (by decide) rfl rfl (Nat.le_of_ble_eq_true rfl) (gDec_at DX6_isBadSearch_0 11 rfl) ?_
  refine g_if_eqN hC (by decide) (gDec_at DX6_isBadSearch_0 12 rfl) 31 (by decide) (fun h => absurd h (by decide)) (fun h => ?_)
  refine g_iconst hC (gDec_at DX6_isBadSearch_0 13 rfl) (v := nI 1) (by decide) ?_
  refine g_goto hC (gDec_at DX6_isBadSearch_0 14 rfl) 32 (by decide) ?_
  refine g_zret hC (Or.inr rfl) (gDec_at DX6_isBadSearch_0 16 rfl) ?_
  exact ⟨rfl, rfl⟩

set_option maxRecDepth 100000 in
set_option maxHeartbeats 4000000 in
theorem c_X6_isBadSearch_1 (q : gQ3) {M : gM} {x : Nat} (hxa : 0 ≤ x) (hxb : x ≤ 40) {f : Int32} (hf : ¬ gin f 0 999) {n : Int32} : gCt (wC q) yX6_isBadSearch cX6_isBadSearch 3 (some .boolean) 2 [.int (nI x), .int f, .int n] M (gR (some (.int (nI 1))) M) := by
  refine gMet RX6 (by decide +kernel) rfl (Nat.le_of_ble_eq_true rfl) (fun X hC => ?_)
  have hC : gC X (wC q) cX6_isBadSearch 3 RX6 (some .boolean) 2 := hC
  show gG X (wC q) _ 3 M 0 [(0, .int (nI x)), (1, .int f), (2, .int n)] []
  refine g_iload_n hC (gDec_at DX6_isBadSearch_0 0 rfl) rfl ?_
  refine g_callSd (w := wC q) hC (c_X6_isBadDraw_in q (k := x) (by omega)) sf_X6_isBadDraw ml_X6_117 (by decide) rfl rfl (Nat.le_of_ble_eq_true rfl) (gDec_at DX6_isBadSearch_0 1 rfl) ?_
  refine g_if_neN hC (by decide) (gDec_at DX6_isBadSearch_0 2 rfl) 27 (by decide) (fun h => absurd h (by decide)) (fun h => ?_)
  refine g_iload_n hC (gDec_at DX6_isBadSearch_0 3 rfl) rfl ?_
  refine g_iconst hC (gDec_at DX6_isBadSearch_0 4 rfl) (v := nI 0) (by decide) ?_
  refine g_sipush hC (gDec_at DX6_isBadSearch_0 5 rfl) (v := nI 999) (by decide) ?_
  refine g_callSd (w := wC q) hC (c_X6_isOutside_out q (by omega) (by omega) hf) sf_X6_isOutside ml_X6_60 (by decide) rfl rfl (Nat.le_of_ble_eq_true rfl) (gDec_at DX6_isBadSearch_0 6 rfl) ?_
  refine g_if_neN hC (by decide) (gDec_at DX6_isBadSearch_0 7 rfl) 27 (by decide) (fun h => ?_) (fun h => absurd h (by decide))
  refine g_iconst hC (gDec_at DX6_isBadSearch_0 13 rfl) (v := nI 1) (by decide) ?_
  refine g_goto hC (gDec_at DX6_isBadSearch_0 14 rfl) 32 (by decide) ?_
  refine g_zret hC (Or.inr rfl) (gDec_at DX6_isBadSearch_0 16 rfl) ?_
  exact ⟨rfl, rfl⟩

set_option maxRecDepth 100000 in
set_option maxHeartbeats 4000000 in
theorem c_X6_isBadSearch_0 (q : gQ3) {M : gM} {x : Int32} (hx : ¬ gin x 0 40) {f : Int32} {n : Int32} : gCt (wC q) yX6_isBadSearch cX6_isBadSearch 3 (some .boolean) 2 [.int x, .int f, .int n] M (gR (some (.int (nI 1))) M) := by
  refine gMet RX6 (by decide +kernel) rfl (Nat.le_of_ble_eq_true rfl) (fun X hC => ?_)
  have hC : gC X (wC q) cX6_isBadSearch 3 RX6 (some .boolean) 2 := hC
  show gG X (wC q) _ 3 M 0 [(0, .int x), (1, .int f), (2, .int n)] []
  refine g_iload_n hC (gDec_at DX6_isBadSearch_0 0 rfl) rfl ?_
  refine g_callSd (w := wC q) hC (c_X6_isBadDraw_out q hx) sf_X6_isBadDraw ml_X6_117 (by decide) rfl rfl (Nat.le_of_ble_eq_true rfl) (gDec_at DX6_isBadSearch_0 1 rfl) ?_
  refine g_if_neN hC (by decide) (gDec_at DX6_isBadSearch_0 2 rfl) 27 (by decide) (fun h => ?_) (fun h => absurd h (by decide))
  refine g_iconst hC (gDec_at DX6_isBadSearch_0 13 rfl) (v := nI 1) (by decide) ?_
  refine g_goto hC (gDec_at DX6_isBadSearch_0 14 rfl) 32 (by decide) ?_
  refine g_zret hC (Or.inr rfl) (gDec_at DX6_isBadSearch_0 16 rfl) ?_
  exact ⟨rfl, rfl⟩

set_option maxRecDepth 100000 in
set_option maxHeartbeats 4000000 in
theorem c_X6_isBadForm_2 (q : gQ3) {M : gM} {f : Nat} (hfa : 1 ≤ f) (hfb : f ≤ 999) {s : Nat} (hsa : 1 ≤ s) (hsb : s ≤ 99) : gCt (wC q) yX6_isBadForm cX6_isBadForm 2 (some .boolean) 2 [.int (nI f), .int (nI s)] M (gR (some (.int (nI 0))) M) := by
  refine gMet RX6 (by decide +kernel) rfl (Nat.le_of_ble_eq_true rfl) (fun X hC => ?_)
  have hC : gC X (wC q) cX6_isBadForm 2 RX6 (some .boolean) 2 := hC
  show gG X (wC q) _ 2 M 0 [(0, .int (nI f)), (1, .int (nI s))] []
  refine g_iload_n hC (gDec_at DX6_isBadForm_0 0 rfl) rfl ?_
  refine g_iconst hC (gDec_at DX6_isBadForm_0 1 rfl) (v := nI 1) (by decide) ?_
  refine g_sipush hC (gDec_at DX6_isBadForm_0 2 rfl) (v := nI 999) (by decide) ?_
  refine g_callSd (w := wC q) hC (c_X6_isOutside_in q (by omega) (by omega) (nI_gin (k := f) (a := 1) (b := 999) (by omega) (by omega) (by omega))) sf_X6_isOutside ml_X6_60 (by decide) rfl rfl (Nat.le_of_ble_eq_true rfl) (gDec_at DX6_isBadForm_0 3 rfl) ?_
  refine g_if_neN hC (by decide) (gDec_at DX6_isBadForm_0 4 rfl) 21 (by decide) (fun h => absurd h (by decide)) (fun h => ?_)
  refine g_iload_n hC (gDec_at DX6_isBadForm_0 5 rfl) rfl ?_
  refine g_iconst hC (gDec_at DX6_isBadForm_0 6 rfl) (v := nI 1) (by decide) ?_
  refine g_bipush hC (gDec_at DX6_isBadForm_0 7 rfl) (v := nI 99) (by decide) ?_
  refine g_callSd (w := wC q) hC (c_X6_isOutside_in q (by omega) (by omega) (nI_gin (k := s) (a := 1) (b := 99) (by omega) (by omega) (by omega))) sf_X6_isOutside ml_X6_60 (by decide) rfl rfl (Nat.le_of_ble_eq_true rfl) (gDec_at DX6_isBadForm_0 8 rfl) ?_
  refine g_if_eqN hC (by decide) (gDec_at DX6_isBadForm_0 9 rfl) 25 (by decide) (fun h => ?_) (fun h => absurd h (by decide))
  refine g_iconst hC (gDec_at DX6_isBadForm_0 12 rfl) (v := nI 0) (by decide) ?_
  refine g_zret hC (Or.inl rfl) (gDec_at DX6_isBadForm_0 13 rfl) ?_
  exact ⟨rfl, rfl⟩

set_option maxRecDepth 100000 in
set_option maxHeartbeats 4000000 in
theorem c_X6_isBadForm_1 (q : gQ3) {M : gM} {f : Nat} (hfa : 1 ≤ f) (hfb : f ≤ 999) {s : Int32} (hs : ¬ gin s 1 99) : gCt (wC q) yX6_isBadForm cX6_isBadForm 2 (some .boolean) 2 [.int (nI f), .int s] M (gR (some (.int (nI 1))) M) := by
  refine gMet RX6 (by decide +kernel) rfl (Nat.le_of_ble_eq_true rfl) (fun X hC => ?_)
  have hC : gC X (wC q) cX6_isBadForm 2 RX6 (some .boolean) 2 := hC
  show gG X (wC q) _ 2 M 0 [(0, .int (nI f)), (1, .int s)] []
  refine g_iload_n hC (gDec_at DX6_isBadForm_0 0 rfl) rfl ?_
  refine g_iconst hC (gDec_at DX6_isBadForm_0 1 rfl) (v := nI 1) (by decide) ?_
  refine g_sipush hC (gDec_at DX6_isBadForm_0 2 rfl) (v := nI 999) (by decide) ?_
  refine g_callSd (w := wC q) hC (c_X6_isOutside_in q (by omega) (by omega) (nI_gin (k := f) (a := 1) (b := 999) (by omega) (by omega) (by omega))) sf_X6_isOutside ml_X6_60 (by decide) rfl rfl (Nat.le_of_ble_eq_true rfl) (gDec_at DX6_isBadForm_0 3 rfl) ?_
  refine g_if_neN hC (by decide) (gDec_at DX6_isBadForm_0 4 rfl) 21 (by decide) (fun h => absurd h (by decide)) (fun h => ?_)
  refine g_iload_n hC (gDec_at DX6_isBadForm_0 5 rfl) rfl ?_
  refine g_iconst hC (gDec_at DX6_isBadForm_0 6 rfl) (v := nI 1) (by decide) ?_
  refine g_bipush hC (gDec_at DX6_isBadForm_0 7 rfl) (v := nI 99) (by decide) ?_
  refine g_callSd (w := wC q) hC (c_X6_isOutside_out q (by omega) (by omega) hs) sf_X6_isOutside ml_X6_60 (by decide) rfl rfl (Nat.le_of_ble_eq_true rfl) (gDec_at DX6_isBadForm_0 8 rfl) ?_
  refine g_if_eqN hC (by decide) (gDec_at DX6_isBadForm_0 9 rfl) 25 (by decide) (fun h => absurd h (by decide)) (fun h => ?_)
  refine g_iconst hC (gDec_at DX6_isBadForm_0 10 rfl) (v := nI 1) (by decide) ?_
  refine g_goto hC (gDec_at DX6_isBadForm_0 11 rfl) 26 (by decide) ?_
  refine g_zret hC (Or.inr rfl) (gDec_at DX6_isBadForm_0 13 rfl) ?_
  exact ⟨rfl, rfl⟩

set_option maxRecDepth 100000 in
set_option maxHeartbeats 4000000 in
theorem c_X6_isBadForm_0 (q : gQ3) {M : gM} {f : Int32} (hf : ¬ gin f 1 999) {s : Int32} : gCt (wC q) yX6_isBadForm cX6_isBadForm 2 (some .boolean) 2 [.int f, .int s] M (gR (some (.int (nI 1))) M) := by
  refine gMet RX6 (by decide +kernel) rfl (Nat.le_of_ble_eq_true rfl) (fun X hC => ?_)
  have hC : gC X (wC q) cX6_isBadForm 2 RX6 (some .boolean) 2 := hC
  show gG X (wC q) _ 2 M 0 [(0, .int f), (1, .int s)] []
  refine g_iload_n hC (gDec_at DX6_isBadForm_0 0 rfl) rfl ?_
  refine g_iconst hC (gDec_at DX6_isBadForm_0 1 rfl) (v := nI 1) (by decide) ?_
  refine g_sipush hC (gDec_at DX6_isBadForm_0 2 rfl) (v := nI 999) (by decide) ?_
  refine g_callSd (w := wC q) hC (c_X6_isOutside_out q (by omega) (by omega) hf) sf_X6_isOutside ml_X6_60 (by decide) rfl rfl (Nat.le_of_ble_eq_true rfl) (gDec_at DX6_isBadForm_0 3 rfl) ?_
  refine g_if_neN hC (by decide) (gDec_at DX6_isBadForm_0 4 rfl) 21 (by decide) (fun h => ?_) (fun h => absurd h (by decide))
  refine g_iconst hC (gDec_at DX6_isBadForm_0 10 rfl) (v := nI 1) (by decide) ?_
  refine g_goto hC (gDec_at DX6_isBadForm_0 11 rfl) 26 (by decide) ?_
  refine g_zret hC (Or.inr rfl) (gDec_at DX6_isBadForm_0 13 rfl) ?_
  exact ⟨rfl, rfl⟩

def gcI (a b i big small : Nat) : Prop := Nat.gcd big small = Nat.gcd a b ∧ big < 9223372036854775808 ∧ small < 9223372036854775808 ∧ (i = 0 ∨ (small ≤ big ∧ big * small * 2 ^ i < 2 ^ 127))
theorem mod_half {a b : Nat} (h0 : 0 < b) (h : b ≤ a) : 2 * (a % b) ≤ a := by
  have h1 := Nat.mod_lt a h0
  have h2 := Nat.div_add_mod a b
  have h3 : 1 ≤ a / b := Nat.div_pos h h0
  have h4 : b * 1 ≤ b * (a / b) := Nat.mul_le_mul (Nat.le_refl b) h3
  omega
theorem gcI_s {a b i big small : Nat} (h : gcI a b i big small) (h0 : 0 < small) : gcI a b (i + 1) small (big % small) := by
  obtain ⟨h1, h2, h3, h4⟩ := h
  have hm := Nat.mod_lt big h0
  refine ⟨by rw [← h1, Nat.gcd_comm big small, Nat.gcd_rec small big, Nat.gcd_comm], h3, by omega, Or.inr ⟨by omega, ?_⟩⟩
  rcases h4 with h4 | ⟨h4, h5⟩
  · subst h4
    have e : small * (big % small) ≤ 9223372036854775807 * 9223372036854775807 := mul_bd (by omega) (by omega)
    have e2 : (2 : Nat) ^ (0 + 1) = 2 := rfl
    have e3 : (2 : Nat) ^ 127 = 170141183460469231731687303715884105728 := by decide +kernel
    rw [e2, e3]; omega
  · have e := mod_half h0 h4
    have e2 : small * (big % small) * 2 ^ (i + 1) ≤ big * small * 2 ^ i := by
      rw [Nat.pow_succ, Nat.mul_comm (2 ^ i) 2, ← Nat.mul_assoc, Nat.mul_assoc small, Nat.mul_comm (big % small) 2, Nat.mul_comm small]
      exact Nat.mul_le_mul (Nat.mul_le_mul e (Nat.le_refl _)) (Nat.le_refl _)
    omega
theorem gcI_e {a b big small : Nat} (h : gcI a b 1000 big small) : small = 0 := by
  obtain ⟨-, -, -, h4⟩ := h
  rcases h4 with h4 | ⟨h4, h5⟩
  · omega
  · rcases Nat.eq_zero_or_pos small with z | z
    · exact z
    · have h6 : 1 ≤ big * small := mul_ps (by omega) z
      have h7 : 1 * 2 ^ 1000 ≤ big * small * 2 ^ 1000 := Nat.mul_le_mul h6 (Nat.le_refl _)
      have h8 : (2 : Nat) ^ 127 ≤ 2 ^ 1000 := Nat.pow_le_pow_right (by omega) (by omega)
      rw [Nat.one_mul] at h7
      exact absurd (Nat.lt_of_le_of_lt h7 h5) (Nat.not_lt.mpr h8)
theorem gcI_g {a b i big : Nat} (h : gcI a b i big 0) : big = Nat.gcd a b := by rw [← h.1, Nat.gcd_zero_right]
set_option maxRecDepth 100000 in
set_option maxHeartbeats 4000000 in
theorem c_X6_commonDivisor (q : gQ3) {M : gM} {a b : Nat} (ha : a < 9223372036854775808) (hb : b < 9223372036854775808) : gCt (wC q) yX6_commonDivisor cX6_commonDivisor 11 (some .long) 0 [.long (lN a), .long (lN b)] M (gR (some (.long (lN (Nat.gcd a b)))) M) := by
  refine gMet RX6 (by decide +kernel) rfl (Nat.le_of_ble_eq_true rfl) (fun X hC => ?_)
  have hC : gC X (wC q) cX6_commonDivisor 11 RX6 (some .long) 0 := hC
  show gG X (wC q) _ 11 M 0 [(0, .long (lN a)), (2, .long (lN b))] []
  refine g_lload_n hC (gDec_at DX6_commonDivisor_0 0 rfl) rfl ?_
  refine g_lstore hC (gDec_at DX6_commonDivisor_0 1 rfl) (by decide) (L' := [(4, .long (lN a)), (0, .long (lN a)), (2, .long (lN b))]) rfl ?_
  refine g_lload_n hC (gDec_at DX6_commonDivisor_0 2 rfl) rfl ?_
  refine g_lstore hC (gDec_at DX6_commonDivisor_0 3 rfl) (by decide) (L' := [(6, .long (lN b)), (4, .long (lN a)), (0, .long (lN a)), (2, .long (lN b))]) rfl ?_
  refine g_iconst hC (gDec_at DX6_commonDivisor_0 4 rfl) (v := nI 0) (by decide) ?_
  refine g_istore hC (gDec_at DX6_commonDivisor_0 5 rfl) (by decide) (L' := [(8, .int (nI 0)), (6, .long (lN b)), (4, .long (lN a)), (0, .long (lN a)), (2, .long (lN b))]) rfl ?_
  have loop9 : ∀ (fu i : Nat) (big small : Nat), i ≤ 1000 → 1000 - i < fu → gcI a b i big small → gG X (wC q) (gR (some (.long (lN (Nat.gcd a b)))) M) 11 M 9 [(0, .long (lN a)), (2, .long (lN b)), (4, .long (lN big)), (6, .long (lN small)), (8, .int (nI i))] [] := by
    intro fu; induction fu with
    | zero => intro i big small h1 h2; omega
    | succ fu ih =>
      intro i big small hi hfu hg
      have hg2 := hg.2.1
      have hg3 := hg.2.2.1
      refine g_iload hC (gDec_at DX6_commonDivisor_0 6 rfl) rfl ?_
      refine g_sipush hC (gDec_at DX6_commonDivisor_0 7 rfl) (v := nI 1000) (by decide) ?_
      refine g_icmp_geN hC (by omega) (by omega) (gDec_at DX6_commonDivisor_0 8 rfl) 45 (by decide) (fun h14 => ?_) (fun h14 => ?_)
      · skip
        obtain rfl : i = 1000 := by omega
        obtain rfl := gcI_e hg
        obtain rfl := gcI_g hg
        refine g_lload hC (gDec_at DX6_commonDivisor_0 23 rfl) rfl ?_
        refine g_lret hC (gDec_at DX6_commonDivisor_0 24 rfl) ?_
        exact ⟨rfl, rfl⟩
      · skip
        refine g_lload hC (gDec_at DX6_commonDivisor_0 9 rfl) rfl ?_
        refine g_lconst hC (gDec_at DX6_commonDivisor_0 10 rfl) (v := lN 0) (by decide) ?_
        refine g_lc_eqN hC (by omega) (by omega) (gDec_at DX6_commonDivisor_0 11 rfl) (gDec_at DX6_commonDivisor_0 12 rfl) 45 (by decide) (fun h20 => ?_) (fun h20 => ?_)
        · skip
          obtain rfl : small = 0 := by omega
          obtain rfl := gcI_g hg
          refine g_lload hC (gDec_at DX6_commonDivisor_0 23 rfl) rfl ?_
          refine g_lret hC (gDec_at DX6_commonDivisor_0 24 rfl) ?_
          exact ⟨rfl, rfl⟩
        · skip
          refine g_lload hC (gDec_at DX6_commonDivisor_0 13 rfl) rfl ?_
          refine g_lload hC (gDec_at DX6_commonDivisor_0 14 rfl) rfl ?_
          refine g_lremN hC (by omega) (by omega) (by omega) (gDec_at DX6_commonDivisor_0 15 rfl) ?_
          refine g_lstore hC (gDec_at DX6_commonDivisor_0 16 rfl) (by decide) (L' := [(9, .long (lN (big % small))), (0, .long (lN a)), (2, .long (lN b)), (4, .long (lN big)), (6, .long (lN small)), (8, .int (nI i))]) rfl ?_
          refine g_lload hC (gDec_at DX6_commonDivisor_0 17 rfl) rfl ?_
          refine g_lstore hC (gDec_at DX6_commonDivisor_0 18 rfl) (by decide) (L' := [(4, .long (lN small)), (9, .long (lN (big % small))), (0, .long (lN a)), (2, .long (lN b)), (6, .long (lN small)), (8, .int (nI i))]) rfl ?_
          refine g_lload hC (gDec_at DX6_commonDivisor_0 19 rfl) rfl ?_
          refine g_lstore hC (gDec_at DX6_commonDivisor_0 20 rfl) (by decide) (L' := [(6, .long (lN (big % small))), (4, .long (lN small)), (9, .long (lN (big % small))), (0, .long (lN a)), (2, .long (lN b)), (8, .int (nI i))]) rfl ?_
          refine g_iincN hC (gDec_at DX6_commonDivisor_0 21 rfl) rfl (by decide) (L' := [(8, .int (nI (i + 1))), (6, .long (lN (big % small))), (4, .long (lN small)), (9, .long (lN (big % small))), (0, .long (lN a)), (2, .long (lN b))]) rfl ?_
          refine g_goto hC (gDec_at DX6_commonDivisor_0 22 rfl) 9 (by decide) ?_
          refine g_sub [4, 5, 2, 1, 0] (L' := [(0, .long (lN a)), (2, .long (lN b)), (4, .long (lN small)), (6, .long (lN (big % small))), (8, .int (nI (i + 1)))]) rfl ?_
          have h9 := ih (i + 1) small (big % small) (by omega) (by omega) (gcI_s hg (by omega))
          exact h9
  exact g_sub [3, 4, 2, 1, 0] rfl (loop9 (1000 + 1 - 0) 0 a b (by omega) (by omega) ⟨rfl, ha, hb, Or.inl rfl⟩)

/-- a fraction, above (u = 1), below, in least terms -/
def sTo (a b u : Nat) : Nat := (if u = 0 then b else a) / Nat.gcd a b
theorem gcd_lt {a b : Nat} (ha : a < 9223372036854775808) (hb : b < 9223372036854775808) : Nat.gcd a b < 9223372036854775808 := by
  rcases Nat.eq_zero_or_pos a with z | z
  · subst z; rw [Nat.gcd_zero_left]; exact hb
  · exact Nat.lt_of_le_of_lt (Nat.gcd_le_left b z) ha
set_option maxRecDepth 100000 in
set_option maxHeartbeats 4000000 in
theorem c_X6_fractionPart (q : gQ3) {M : gM} {a b u : Nat} (ha : a < 9223372036854775808) (hb : b < 9223372036854775808) (hu : u ≤ 1) : gCt (wC q) yX6_fractionPart cX6_fractionPart 5 (some .long) 1 [.long (lN a), .long (lN b), .int (nI u)] M (gR (some (.long (lN (sTo a b u)))) M) := by
  refine gMet RX6 (by decide +kernel) rfl (Nat.le_of_ble_eq_true rfl) (fun X hC => ?_)
  have hC : gC X (wC q) cX6_fractionPart 5 RX6 (some .long) 1 := hC
  show gG X (wC q) _ 5 M 0 [(0, .long (lN a)), (2, .long (lN b)), (4, .int (nI u))] []
  have hgl := gcd_lt ha hb
  refine g_iload hC (gDec_at DX6_fractionPart_0 0 rfl) rfl ?_
  refine g_if_eqN hC (by omega) (gDec_at DX6_fractionPart_0 1 rfl) 9 (by decide) (fun h2 => ?_) (fun h2 => ?_)
  · skip
    refine g_lload_n hC (gDec_at DX6_fractionPart_0 4 rfl) rfl ?_
    refine g_lload_n hC (gDec_at DX6_fractionPart_0 5 rfl) rfl ?_
    refine g_lload_n hC (gDec_at DX6_fractionPart_0 6 rfl) rfl ?_
    refine g_callSd (w := wC q) hC (c_X6_commonDivisor q (a := a) (b := b) (by omega) (by omega)) sf_X6_commonDivisor ml_X6_239 (by decide) rfl rfl (Nat.le_of_ble_eq_true rfl) (gDec_at DX6_fractionPart_0 7 rfl) ?_
    refine g_callSd (w := wC q) hC (c_X6_quotient q (by omega) (by omega)) sf_X6_quotient ml_X6_243 (by decide) rfl rfl (Nat.le_of_ble_eq_true rfl) (gDec_at DX6_fractionPart_0 8 rfl) ?_
    refine g_lret hC (gDec_at DX6_fractionPart_0 9 rfl) ?_
    exact ⟨by unfold sTo; rw [if_pos (by omega)], rfl⟩
  · skip
    refine g_lload_n hC (gDec_at DX6_fractionPart_0 2 rfl) rfl ?_
    refine g_goto hC (gDec_at DX6_fractionPart_0 3 rfl) 10 (by decide) ?_
    refine g_lload_n hC (gDec_at DX6_fractionPart_0 5 rfl) rfl ?_
    refine g_lload_n hC (gDec_at DX6_fractionPart_0 6 rfl) rfl ?_
    refine g_callSd (w := wC q) hC (c_X6_commonDivisor q (a := a) (b := b) (by omega) (by omega)) sf_X6_commonDivisor ml_X6_239 (by decide) rfl rfl (Nat.le_of_ble_eq_true rfl) (gDec_at DX6_fractionPart_0 7 rfl) ?_
    refine g_callSd (w := wC q) hC (c_X6_quotient q (by omega) (by omega)) sf_X6_quotient ml_X6_243 (by decide) rfl rfl (Nat.le_of_ble_eq_true rfl) (gDec_at DX6_fractionPart_0 8 rfl) ?_
    refine g_lret hC (gDec_at DX6_fractionPart_0 9 rfl) ?_
    exact ⟨by unfold sTo; rw [if_neg (by omega)], rfl⟩

set_option maxRecDepth 100000 in
set_option maxHeartbeats 4000000 in
theorem c_X6_power (q : gQ3) {M : gM} {b n : Nat} (hn : n ≤ 1000) : gCt (wC q) yX6_power cX6_power 6 (some .long) 0 [.long (lN b), .int (nI n)] M (gR (some (.long (lN (b ^ n)))) M) := by
  refine gMet RX6 (by decide +kernel) rfl (Nat.le_of_ble_eq_true rfl) (fun X hC => ?_)
  have hC : gC X (wC q) cX6_power 6 RX6 (some .long) 0 := hC
  show gG X (wC q) _ 6 M 0 [(0, .long (lN b)), (2, .int (nI n))] []
  refine g_lconst hC (gDec_at DX6_power_0 0 rfl) (v := lN 1) (by decide) ?_
  refine g_lstore_n hC (gDec_at DX6_power_0 1 rfl) (by decide) (L' := [(3, .long (lN 1)), (0, .long (lN b)), (2, .int (nI n))]) rfl ?_
  refine g_iconst hC (gDec_at DX6_power_0 2 rfl) (v := nI 0) (by decide) ?_
  refine g_istore hC (gDec_at DX6_power_0 3 rfl) (by decide) (L' := [(5, .int (nI 0)), (3, .long (lN 1)), (0, .long (lN b)), (2, .int (nI n))]) rfl ?_
  have loop5 : ∀ (fu i : Nat), i ≤ n → n - i < fu → gG X (wC q) (gR (some (.long (lN (b ^ n)))) M) 6 M 5 [(0, .long (lN b)), (2, .int (nI n)), (3, .long (lN (b ^ i))), (5, .int (nI i))] [] := by
    intro fu; induction fu with
    | zero => intro i h1 h2; omega
    | succ fu ih =>
      intro i hi2 hfu 
      refine g_iload hC (gDec_at DX6_power_0 4 rfl) rfl ?_
      refine g_iload_n hC (gDec_at DX6_power_0 5 rfl) rfl ?_
      refine g_icmp_geN hC (by omega) (by omega) (gDec_at DX6_power_0 6 rfl) 21 (by decide) (fun h8 => ?_) (fun h8 => ?_)
      · skip
        obtain rfl : i = n := by omega
        refine g_lload_n hC (gDec_at DX6_power_0 13 rfl) rfl ?_
        refine g_lret hC (gDec_at DX6_power_0 14 rfl) ?_
        exact ⟨rfl, rfl⟩
      · skip
        refine g_lload_n hC (gDec_at DX6_power_0 7 rfl) rfl ?_
        refine g_lload_n hC (gDec_at DX6_power_0 8 rfl) rfl ?_
        refine g_lmulN hC (gDec_at DX6_power_0 9 rfl) ?_
        refine g_lstore_n hC (gDec_at DX6_power_0 10 rfl) (by decide) (L' := [(3, .long (lN ((b ^ i) * b))), (0, .long (lN b)), (2, .int (nI n)), (5, .int (nI i))]) rfl ?_
        refine g_iincN hC (gDec_at DX6_power_0 11 rfl) rfl (by decide) (L' := [(5, .int (nI (i + 1))), (3, .long (lN ((b ^ i) * b))), (0, .long (lN b)), (2, .int (nI n))]) rfl ?_
        refine g_goto hC (gDec_at DX6_power_0 12 rfl) 5 (by decide) ?_
        refine g_sub [2, 3, 1, 0] (L' := [(0, .long (lN b)), (2, .int (nI n)), (3, .long (lN ((b ^ i) * b))), (5, .int (nI (i + 1)))]) rfl ?_
        have h9 := ih (i + 1) (by omega) (by omega)
        rw [Nat.pow_succ] at h9
        exact h9
  exact g_sub [2, 3, 1, 0] rfl (loop5 (n + 1 - 0) 0 (by omega) (by omega))
