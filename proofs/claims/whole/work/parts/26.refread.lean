/-! THE REFERENCE: a place of the text read -/
theorem mT_pl {M : gM} {tl : Nat} {tb : Nat → Nat} (hT : mT M tl tb) {k : Nat} {x : Int32} (hk : k ≠ 2) : mT (gupd M 0 k x) tl tb := by
  obtain ⟨a, b, c⟩ := hT
  exact ⟨by rw [gupd_get, if_neg (by omega)]; exact a, b, fun i hi => ⟨by rw [gupd_get, if_neg (by omega)]; exact (c i hi).1, (c i hi).2⟩⟩
theorem mT_r {M : gM} {tl : Nat} {tb : Nat → Nat} (hT : mT M tl tb) {c k : Nat} {x : Int32} (hc : 2 ≤ c) : mT (gupd M c k x) tl tb := by
  obtain ⟨a, b, d⟩ := hT
  exact ⟨by rw [gupd_get, if_neg (by omega)]; exact a, b, fun i hi => ⟨by rw [gupd_get, if_neg (by omega)]; exact (d i hi).1, (d i hi).2⟩⟩
theorem pl_at {M : gM} {x : Int32} : (gupd M 0 3 x).1 0 3 = x := by rw [gupd_get, if_pos ⟨rfl, rfl⟩]
theorem fg_ngin {b lo hi : Nat} (hb : b < 256) (h : ¬ (48 + lo ≤ b ∧ b ≤ 48 + hi)) : ¬ gin (fg b) lo hi := by
  unfold gin
  rw [fg_int hb]
  omega
set_option maxRecDepth 100000 in
set_option maxHeartbeats 4000000 in
theorem c_X7_figure_no (q : gQ3) {M : gM} {tl : Nat} {tb : Nat → Nat} (hT : mT M tl tb) {p lo hi : Nat} (hp : M.1 0 3 = nI p) (hpt : p ≤ tl) (hlo : lo ≤ 9) (hhi : hi ≤ 9) (hz : p < tl → ¬ (48 + lo ≤ tb p ∧ tb p ≤ 48 + hi)) : gCt (wM q) yX7_figure cX7_figure 3 (some .int) 1 [.ref (q.2.2 0), .int (nI lo), .int (nI hi)] M (gR (some (.int (-9))) M) := by
  refine gMet RX7 (by decide +kernel) rfl (Nat.le_of_ble_eq_true rfl) (fun X hC => ?_)
  have hC : gC X (wM q) cX7_figure 3 RX7 (some .int) 1 := hC
  show gG X (wM q) _ 3 M 0 [(0, .ref (q.2.2 0)), (1, .int (nI lo)), (2, .int (nI hi))] []
  have ht := hT.2.1
  refine g_aload_n hC (gDec_at DX7_figure_0 0 rfl) rfl ?_
  refine g_get (w := wM q) hC 0 (v := .int (nI p)) fl_X7_83 (show 0 < 17 from by decide) rfl (g_sv hp) (gDec_at DX7_figure_0 1 rfl) ?_
  refine g_aload_n hC (gDec_at DX7_figure_0 2 rfl) rfl ?_
  refine g_get (w := wM q) hC 0 (v := .int (nI tl)) fl_X7_80 (show 0 < 17 from by decide) rfl (g_sv hT.1) (gDec_at DX7_figure_0 3 rfl) ?_
  refine g_icmp_eqN hC (by omega) (by omega) (gDec_at DX7_figure_0 4 rfl) 34 (by decide) (fun h8 => ?_) (fun h8 => ?_)
  · skip
    refine g_bipush hC (gDec_at DX7_figure_0 19 rfl) (v := -9) (by decide) ?_
    refine g_iret hC (gDec_at DX7_figure_0 20 rfl) ?_
    exact ⟨rfl, rfl⟩
  · skip
    have hpl : p < tl := by omega
    have htb := (hT.2.2 p hpl).2
    refine g_aload_n hC (gDec_at DX7_figure_0 5 rfl) rfl ?_
    refine g_get (w := wM q) hC 0 (v := .ref (q.2.2 1)) fl_X7_7 (show 0 < 17 from by decide) rfl rfl (gDec_at DX7_figure_0 6 rfl) ?_
    refine g_aload_n hC (gDec_at DX7_figure_0 7 rfl) rfl ?_
    refine g_get (w := wM q) hC 0 (v := .int (nI p)) fl_X7_83 (show 0 < 17 from by decide) rfl (g_sv hp) (gDec_at DX7_figure_0 8 rfl) ?_
    refine g_iald (w := wM q) hC 1 0 p (x := (nI (tb p))) (show 1 < 17 from by decide) rfl rfl (by omega) (by decide) (hT.2.2 p (by omega)).1 (gDec_at DX7_figure_0 9 rfl) ?_
    refine g_bipush hC (gDec_at DX7_figure_0 10 rfl) (v := nI 48) (by decide) ?_
    refine g_isub hC (gDec_at DX7_figure_0 11 rfl) (v := (fg (tb p))) rfl ?_
    refine g_i2l hC (gDec_at DX7_figure_0 12 rfl) rfl ?_
    refine g_iload_n hC (gDec_at DX7_figure_0 13 rfl) rfl ?_
    refine g_i2lN hC (by omega) (gDec_at DX7_figure_0 14 rfl) ?_
    refine g_iload_n hC (gDec_at DX7_figure_0 15 rfl) rfl ?_
    refine g_i2lN hC (by omega) (gDec_at DX7_figure_0 16 rfl) ?_
    refine g_callSd (w := wM q) hC (c_X7_in_no q (by omega) (by omega) (fg_ngin htb (hz hpl))) sf_X7_in ml_X7_72 (by decide) rfl rfl (Nat.le_of_ble_eq_true rfl) (gDec_at DX7_figure_0 17 rfl) ?_
    refine g_if_neN hC (by decide) (gDec_at DX7_figure_0 18 rfl) 37 (by decide) (fun h => absurd h (by decide)) (fun h => ?_)
    refine g_bipush hC (gDec_at DX7_figure_0 19 rfl) (v := -9) (by decide) ?_
    refine g_iret hC (gDec_at DX7_figure_0 20 rfl) ?_
    exact ⟨rfl, rfl⟩

set_option maxRecDepth 100000 in
set_option maxHeartbeats 4000000 in
theorem c_X7_figure_ok (q : gQ3) {M : gM} {tl : Nat} {tb : Nat → Nat} (hT : mT M tl tb) {p lo hi : Nat} (hp : M.1 0 3 = nI p) (hpt : p ≤ tl) (hlo : lo ≤ 9) (hhi : hi ≤ 9) (hz1 : p < tl) (hz2 : 48 + lo ≤ tb p ∧ tb p ≤ 48 + hi) : gCt (wM q) yX7_figure cX7_figure 3 (some .int) 1 [.ref (q.2.2 0), .int (nI lo), .int (nI hi)] M (gR (some (.int (nI (tb p - 48)))) (gupd M 0 3 (nI (p + 1)))) := by
  refine gMet RX7 (by decide +kernel) rfl (Nat.le_of_ble_eq_true rfl) (fun X hC => ?_)
  have hC : gC X (wM q) cX7_figure 3 RX7 (some .int) 1 := hC
  show gG X (wM q) _ 3 M 0 [(0, .ref (q.2.2 0)), (1, .int (nI lo)), (2, .int (nI hi))] []
  have ht := hT.2.1
  refine g_aload_n hC (gDec_at DX7_figure_0 0 rfl) rfl ?_
  refine g_get (w := wM q) hC 0 (v := .int (nI p)) fl_X7_83 (show 0 < 17 from by decide) rfl (g_sv hp) (gDec_at DX7_figure_0 1 rfl) ?_
  refine g_aload_n hC (gDec_at DX7_figure_0 2 rfl) rfl ?_
  refine g_get (w := wM q) hC 0 (v := .int (nI tl)) fl_X7_80 (show 0 < 17 from by decide) rfl (g_sv hT.1) (gDec_at DX7_figure_0 3 rfl) ?_
  refine g_icmp_eqN hC (by omega) (by omega) (gDec_at DX7_figure_0 4 rfl) 34 (by decide) (fun h8 => ?_) (fun h8 => ?_)
  · skip
    exact absurd h8 (by omega)
  · skip
    refine g_aload_n hC (gDec_at DX7_figure_0 5 rfl) rfl ?_
    refine g_get (w := wM q) hC 0 (v := .ref (q.2.2 1)) fl_X7_7 (show 0 < 17 from by decide) rfl rfl (gDec_at DX7_figure_0 6 rfl) ?_
    refine g_aload_n hC (gDec_at DX7_figure_0 7 rfl) rfl ?_
    refine g_get (w := wM q) hC 0 (v := .int (nI p)) fl_X7_83 (show 0 < 17 from by decide) rfl (g_sv hp) (gDec_at DX7_figure_0 8 rfl) ?_
    refine g_iald (w := wM q) hC 1 0 p (x := (nI (tb p))) (show 1 < 17 from by decide) rfl rfl (by omega) (by decide) (hT.2.2 p (by omega)).1 (gDec_at DX7_figure_0 9 rfl) ?_
    refine g_bipush hC (gDec_at DX7_figure_0 10 rfl) (v := nI 48) (by decide) ?_
    refine g_isubN hC (by omega) (gDec_at DX7_figure_0 11 rfl) ?_
    refine g_i2lN hC (by omega) (gDec_at DX7_figure_0 12 rfl) ?_
    refine g_iload_n hC (gDec_at DX7_figure_0 13 rfl) rfl ?_
    refine g_i2lN hC (by omega) (gDec_at DX7_figure_0 14 rfl) ?_
    refine g_iload_n hC (gDec_at DX7_figure_0 15 rfl) rfl ?_
    refine g_i2lN hC (by omega) (gDec_at DX7_figure_0 16 rfl) ?_
    refine g_callSd (w := wM q) hC (c_X7_in_yes q (v := ((tb p) - 48)) (a := lo) (b := hi) (by omega) (by omega) (by omega)) sf_X7_in ml_X7_72 (by decide) rfl rfl (Nat.le_of_ble_eq_true rfl) (gDec_at DX7_figure_0 17 rfl) ?_
    refine g_if_neN hC (by decide) (gDec_at DX7_figure_0 18 rfl) 37 (by decide) (fun h => ?_) (fun h => absurd h (by decide))
    refine g_aload_n hC (gDec_at DX7_figure_0 21 rfl) rfl ?_
    refine g_dup hC (gDec_at DX7_figure_0 22 rfl) rfl ?_
    refine g_get (w := wM q) hC 0 (v := .int (nI p)) fl_X7_83 (show 0 < 17 from by decide) rfl (g_sv hp) (gDec_at DX7_figure_0 23 rfl) ?_
    refine g_iconst hC (gDec_at DX7_figure_0 24 rfl) (v := nI 1) (by decide) ?_
    refine g_iaddN hC (gDec_at DX7_figure_0 25 rfl) ?_
    refine g_putI (w := wM q) hC 0 fl_X7_83 fp_7_3 (show 0 < 17 from by decide) rfl (Nat.le_of_ble_eq_true rfl) rfl rfl (gDec_at DX7_figure_0 26 rfl) ?_
    refine g_aload_n hC (gDec_at DX7_figure_0 27 rfl) rfl ?_
    refine g_get (w := wM q) hC 0 (v := .ref (q.2.2 1)) fl_X7_7 (show 0 < 17 from by decide) rfl rfl (gDec_at DX7_figure_0 28 rfl) ?_
    refine g_aload_n hC (gDec_at DX7_figure_0 29 rfl) rfl ?_
    refine g_get (w := wM q) hC 0 (v := .int (nI (p + 1))) fl_X7_83 (show 0 < 17 from by decide) rfl (g_sv pl_at) (gDec_at DX7_figure_0 30 rfl) ?_
    refine g_iconst hC (gDec_at DX7_figure_0 31 rfl) (v := nI 1) (by decide) ?_
    refine g_isubN hC (by omega) (gDec_at DX7_figure_0 32 rfl) ?_
    refine g_iald (w := wM q) hC 1 0 ((p + 1) - 1) (x := (nI (tb p))) (show 1 < 17 from by decide) rfl rfl (by omega) (by decide) (by rw [gupd_get, if_neg (by omega)]; exact (hT.2.2 p hz1).1) (gDec_at DX7_figure_0 33 rfl) ?_
    refine g_bipush hC (gDec_at DX7_figure_0 34 rfl) (v := nI 48) (by decide) ?_
    refine g_isubN hC (by omega) (gDec_at DX7_figure_0 35 rfl) ?_
    refine g_iret hC (gDec_at DX7_figure_0 36 rfl) ?_
    exact ⟨rfl, rfl⟩

set_option maxRecDepth 100000 in
set_option maxHeartbeats 4000000 in
theorem c_X7_readPlace_0 (q : gQ3) {M : gM} {tl : Nat} {tb : Nat → Nat} (hT : mT M tl tb) {p i : Nat} (hi : i < 12) (hp : M.1 0 3 = nI p) (hpt : p + 0 ≤ tl) (hx : p + 0 < tl → ¬ ffit 0 (tb (p + 0 - 1)) (tb (p + 0))) : gCt (wM q) yX7_readPlace cX7_readPlace 6 (some .boolean) 2 [.ref (q.2.2 0), .int (nI i)] M (gR (some (.int (nI 0))) M) := by
  refine gMet RX7 (by decide +kernel) rfl (Nat.le_of_ble_eq_true rfl) (fun X hC => ?_)
  have hC : gC X (wM q) cX7_readPlace 6 RX7 (some .boolean) 2 := hC
  show gG X (wM q) _ 6 M 0 [(0, .ref (q.2.2 0)), (1, .int (nI i))] []
  have ht := hT.2.1
  refine g_aload_n hC (gDec_at DX7_readPlace_0 0 rfl) rfl ?_
  refine g_iconst hC (gDec_at DX7_readPlace_0 1 rfl) (v := nI 1) (by decide) ?_
  refine g_bipush hC (gDec_at DX7_readPlace_0 2 rfl) (v := nI 9) (by decide) ?_
  refine g_callVd (w := wM q) hC 0 (c_X7_figure_no q (M := M) hT (p := p) (lo := 1) (hi := 9) hp (by omega) (by omega) (by omega) (fun h z => hx h (by have e : tb (p + 0) = tb p := rfl; unfold ffit; omega))) vf_X7_figure ml_X7_86 (by decide) (show 0 < 17 from by decide) rfl rfl rfl rfl rfl (Nat.le_of_ble_eq_true rfl) (gDec_at DX7_readPlace_0 3 rfl) ?_
  refine g_istore_n hC (gDec_at DX7_readPlace_0 4 rfl) (by decide) (L' := [(2, .int (-9)), (0, .ref (q.2.2 0)), (1, .int (nI i))]) rfl ?_
  refine g_iload_n hC (gDec_at DX7_readPlace_0 5 rfl) rfl ?_
  refine g_bipush hC (gDec_at DX7_readPlace_0 6 rfl) (v := -9) (by decide) ?_
  refine g_icmp_ne hC (gDec_at DX7_readPlace_0 7 rfl) 19 (by decide) (fun h => absurd rfl h) (fun h => ?_)
  refine g_bipush hC (gDec_at DX7_readPlace_0 8 rfl) (v := -9) (by decide) ?_
  refine g_goto hC (gDec_at DX7_readPlace_0 9 rfl) 25 (by decide) ?_
  refine g_istore_n hC (gDec_at DX7_readPlace_0 14 rfl) (by decide) (L' := [(3, .int (-9)), (2, .int (-9)), (0, .ref (q.2.2 0)), (1, .int (nI i))]) rfl ?_
  refine g_iload_n hC (gDec_at DX7_readPlace_0 15 rfl) rfl ?_
  refine g_bipush hC (gDec_at DX7_readPlace_0 16 rfl) (v := -9) (by decide) ?_
  refine g_icmp_ne hC (gDec_at DX7_readPlace_0 17 rfl) 37 (by decide) (fun h => absurd rfl h) (fun h => ?_)
  refine g_bipush hC (gDec_at DX7_readPlace_0 18 rfl) (v := -9) (by decide) ?_
  refine g_goto hC (gDec_at DX7_readPlace_0 19 rfl) 61 (by decide) ?_
  refine g_istore hC (gDec_at DX7_readPlace_0 33 rfl) (by decide) (L' := [(4, .int (-9)), (3, .int (-9)), (2, .int (-9)), (0, .ref (q.2.2 0)), (1, .int (nI i))]) rfl ?_
  refine g_iload hC (gDec_at DX7_readPlace_0 34 rfl) rfl ?_
  refine g_bipush hC (gDec_at DX7_readPlace_0 35 rfl) (v := -9) (by decide) ?_
  refine g_icmp_ne hC (gDec_at DX7_readPlace_0 36 rfl) 75 (by decide) (fun h => absurd rfl h) (fun h => ?_)
  refine g_bipush hC (gDec_at DX7_readPlace_0 37 rfl) (v := -9) (by decide) ?_
  refine g_goto hC (gDec_at DX7_readPlace_0 38 rfl) 81 (by decide) ?_
  refine g_istore hC (gDec_at DX7_readPlace_0 43 rfl) (by decide) (L' := [(5, .int (-9)), (4, .int (-9)), (3, .int (-9)), (2, .int (-9)), (0, .ref (q.2.2 0)), (1, .int (nI i))]) rfl ?_
  refine g_iload hC (gDec_at DX7_readPlace_0 44 rfl) rfl ?_
  refine g_bipush hC (gDec_at DX7_readPlace_0 45 rfl) (v := -9) (by decide) ?_
  refine g_icmp_ne hC (gDec_at DX7_readPlace_0 46 rfl) 92 (by decide) (fun h => absurd rfl h) (fun h => ?_)
  refine g_iconst hC (gDec_at DX7_readPlace_0 47 rfl) (v := nI 0) (by decide) ?_
  refine g_zret hC (Or.inl rfl) (gDec_at DX7_readPlace_0 48 rfl) ?_
  exact ⟨rfl, rfl⟩

set_option maxRecDepth 100000 in
set_option maxHeartbeats 4000000 in
theorem c_X7_readPlace_1 (q : gQ3) {M : gM} {tl : Nat} {tb : Nat → Nat} (hT : mT M tl tb) {p i : Nat} (hi : i < 12) (hp : M.1 0 3 = nI p) (hpt : p + 1 ≤ tl) (ht0 : p + 0 < tl) (f0 : ffit 0 (tb (p + 0 - 1)) (tb (p + 0))) (hx : p + 1 < tl → ¬ ffit 1 (tb (p + 1 - 1)) (tb (p + 1))) : gCt (wM q) yX7_readPlace cX7_readPlace 6 (some .boolean) 2 [.ref (q.2.2 0), .int (nI i)] M (gR (some (.int (nI 0))) (gupd M 0 3 (nI (p + 1)))) := by
  refine gMet RX7 (by decide +kernel) rfl (Nat.le_of_ble_eq_true rfl) (fun X hC => ?_)
  have hC : gC X (wM q) cX7_readPlace 6 RX7 (some .boolean) 2 := hC
  show gG X (wM q) _ 6 M 0 [(0, .ref (q.2.2 0)), (1, .int (nI i))] []
  have ht := hT.2.1
  have g0 : 49 ≤ tb p ∧ tb p ≤ 57 := by have z := f0; unfold ffit at z; have e : tb (p + 0) = tb p := rfl; omega
  refine g_aload_n hC (gDec_at DX7_readPlace_0 0 rfl) rfl ?_
  refine g_iconst hC (gDec_at DX7_readPlace_0 1 rfl) (v := nI 1) (by decide) ?_
  refine g_bipush hC (gDec_at DX7_readPlace_0 2 rfl) (v := nI 9) (by decide) ?_
  refine g_callVd (w := wM q) hC 0 (c_X7_figure_ok q (M := M) hT (p := p) (lo := 1) (hi := 9) hp (by omega) (by omega) (by omega) (by omega) (by omega)) vf_X7_figure ml_X7_86 (by decide) (show 0 < 17 from by decide) rfl rfl rfl rfl rfl (Nat.le_of_ble_eq_true rfl) (gDec_at DX7_readPlace_0 3 rfl) ?_
  refine g_istore_n hC (gDec_at DX7_readPlace_0 4 rfl) (by decide) (L' := [(2, .int (nI (tb p - 48))), (0, .ref (q.2.2 0)), (1, .int (nI i))]) rfl ?_
  refine g_iload_n hC (gDec_at DX7_readPlace_0 5 rfl) rfl ?_
  refine g_bipush hC (gDec_at DX7_readPlace_0 6 rfl) (v := -9) (by decide) ?_
  refine g_icmp_ne hC (gDec_at DX7_readPlace_0 7 rfl) 19 (by decide) (fun h => ?_) (fun h => absurd h (nI_n9 (by omega)))
  refine g_aload_n hC (gDec_at DX7_readPlace_0 10 rfl) rfl ?_
  refine g_iconst hC (gDec_at DX7_readPlace_0 11 rfl) (v := nI 0) (by decide) ?_
  refine g_iconst hC (gDec_at DX7_readPlace_0 12 rfl) (v := nI 4) (by decide) ?_
  refine g_callVd (w := wM q) hC 0 (c_X7_figure_no q (M := (gupd M 0 3 (nI (p + 1)))) (mT_pl hT (by omega)) (p := p + 1) (lo := 0) (hi := 4) pl_at (by omega) (by omega) (by omega) (fun h z => hx h (by unfold ffit; omega))) vf_X7_figure ml_X7_86 (by decide) (show 0 < 17 from by decide) rfl rfl rfl rfl rfl (Nat.le_of_ble_eq_true rfl) (gDec_at DX7_readPlace_0 13 rfl) ?_
  refine g_istore_n hC (gDec_at DX7_readPlace_0 14 rfl) (by decide) (L' := [(3, .int (-9)), (2, .int (nI (tb p - 48))), (0, .ref (q.2.2 0)), (1, .int (nI i))]) rfl ?_
  refine g_iload_n hC (gDec_at DX7_readPlace_0 15 rfl) rfl ?_
  refine g_bipush hC (gDec_at DX7_readPlace_0 16 rfl) (v := -9) (by decide) ?_
  refine g_icmp_ne hC (gDec_at DX7_readPlace_0 17 rfl) 37 (by decide) (fun h => absurd rfl h) (fun h => ?_)
  refine g_bipush hC (gDec_at DX7_readPlace_0 18 rfl) (v := -9) (by decide) ?_
  refine g_goto hC (gDec_at DX7_readPlace_0 19 rfl) 61 (by decide) ?_
  refine g_istore hC (gDec_at DX7_readPlace_0 33 rfl) (by decide) (L' := [(4, .int (-9)), (3, .int (-9)), (2, .int (nI (tb p - 48))), (0, .ref (q.2.2 0)), (1, .int (nI i))]) rfl ?_
  refine g_iload hC (gDec_at DX7_readPlace_0 34 rfl) rfl ?_
  refine g_bipush hC (gDec_at DX7_readPlace_0 35 rfl) (v := -9) (by decide) ?_
  refine g_icmp_ne hC (gDec_at DX7_readPlace_0 36 rfl) 75 (by decide) (fun h => absurd rfl h) (fun h => ?_)
  refine g_bipush hC (gDec_at DX7_readPlace_0 37 rfl) (v := -9) (by decide) ?_
  refine g_goto hC (gDec_at DX7_readPlace_0 38 rfl) 81 (by decide) ?_
  refine g_istore hC (gDec_at DX7_readPlace_0 43 rfl) (by decide) (L' := [(5, .int (-9)), (4, .int (-9)), (3, .int (-9)), (2, .int (nI (tb p - 48))), (0, .ref (q.2.2 0)), (1, .int (nI i))]) rfl ?_
  refine g_iload hC (gDec_at DX7_readPlace_0 44 rfl) rfl ?_
  refine g_bipush hC (gDec_at DX7_readPlace_0 45 rfl) (v := -9) (by decide) ?_
  refine g_icmp_ne hC (gDec_at DX7_readPlace_0 46 rfl) 92 (by decide) (fun h => absurd rfl h) (fun h => ?_)
  refine g_iconst hC (gDec_at DX7_readPlace_0 47 rfl) (v := nI 0) (by decide) ?_
  refine g_zret hC (Or.inl rfl) (gDec_at DX7_readPlace_0 48 rfl) ?_
  exact ⟨rfl, rfl⟩

set_option maxRecDepth 100000 in
set_option maxHeartbeats 4000000 in
theorem c_X7_readPlace_2 (q : gQ3) {M : gM} {tl : Nat} {tb : Nat → Nat} (hT : mT M tl tb) {p i : Nat} (hi : i < 12) (hp : M.1 0 3 = nI p) (hpt : p + 2 ≤ tl) (ht0 : p + 0 < tl) (f0 : ffit 0 (tb (p + 0 - 1)) (tb (p + 0))) (ht1 : p + 1 < tl) (f1 : ffit 1 (tb (p + 1 - 1)) (tb (p + 1))) (hx : p + 2 < tl → ¬ ffit 2 (tb (p + 2 - 1)) (tb (p + 2))) : gCt (wM q) yX7_readPlace cX7_readPlace 6 (some .boolean) 2 [.ref (q.2.2 0), .int (nI i)] M (gR (some (.int (nI 0))) (gupd M 0 3 (nI (p + 2)))) := by
  refine gMet RX7 (by decide +kernel) rfl (Nat.le_of_ble_eq_true rfl) (fun X hC => ?_)
  have hC : gC X (wM q) cX7_readPlace 6 RX7 (some .boolean) 2 := hC
  show gG X (wM q) _ 6 M 0 [(0, .ref (q.2.2 0)), (1, .int (nI i))] []
  have ht := hT.2.1
  have g0 : 49 ≤ tb p ∧ tb p ≤ 57 := by have z := f0; unfold ffit at z; have e : tb (p + 0) = tb p := rfl; omega
  have g1 : 48 ≤ tb (p + 1) ∧ tb (p + 1) ≤ 52 := by have z := f1; unfold ffit at z; omega
  refine g_aload_n hC (gDec_at DX7_readPlace_0 0 rfl) rfl ?_
  refine g_iconst hC (gDec_at DX7_readPlace_0 1 rfl) (v := nI 1) (by decide) ?_
  refine g_bipush hC (gDec_at DX7_readPlace_0 2 rfl) (v := nI 9) (by decide) ?_
  refine g_callVd (w := wM q) hC 0 (c_X7_figure_ok q (M := M) hT (p := p) (lo := 1) (hi := 9) hp (by omega) (by omega) (by omega) (by omega) (by omega)) vf_X7_figure ml_X7_86 (by decide) (show 0 < 17 from by decide) rfl rfl rfl rfl rfl (Nat.le_of_ble_eq_true rfl) (gDec_at DX7_readPlace_0 3 rfl) ?_
  refine g_istore_n hC (gDec_at DX7_readPlace_0 4 rfl) (by decide) (L' := [(2, .int (nI (tb p - 48))), (0, .ref (q.2.2 0)), (1, .int (nI i))]) rfl ?_
  refine g_iload_n hC (gDec_at DX7_readPlace_0 5 rfl) rfl ?_
  refine g_bipush hC (gDec_at DX7_readPlace_0 6 rfl) (v := -9) (by decide) ?_
  refine g_icmp_ne hC (gDec_at DX7_readPlace_0 7 rfl) 19 (by decide) (fun h => ?_) (fun h => absurd h (nI_n9 (by omega)))
  refine g_aload_n hC (gDec_at DX7_readPlace_0 10 rfl) rfl ?_
  refine g_iconst hC (gDec_at DX7_readPlace_0 11 rfl) (v := nI 0) (by decide) ?_
  refine g_iconst hC (gDec_at DX7_readPlace_0 12 rfl) (v := nI 4) (by decide) ?_
  refine g_callVd (w := wM q) hC 0 (c_X7_figure_ok q (M := (gupd M 0 3 (nI (p + 1)))) (mT_pl hT (by omega)) (p := p + 1) (lo := 0) (hi := 4) pl_at (by omega) (by omega) (by omega) (by omega) (by omega)) vf_X7_figure ml_X7_86 (by decide) (show 0 < 17 from by decide) rfl rfl rfl rfl rfl (Nat.le_of_ble_eq_true rfl) (gDec_at DX7_readPlace_0 13 rfl) ?_
  refine g_M (M' := (gupd M 0 3 (nI (p + 2)))) gupd_2 ?_
  refine g_istore_n hC (gDec_at DX7_readPlace_0 14 rfl) (by decide) (L' := [(3, .int (nI (tb (p + 1) - 48))), (2, .int (nI (tb p - 48))), (0, .ref (q.2.2 0)), (1, .int (nI i))]) rfl ?_
  refine g_iload_n hC (gDec_at DX7_readPlace_0 15 rfl) rfl ?_
  refine g_bipush hC (gDec_at DX7_readPlace_0 16 rfl) (v := -9) (by decide) ?_
  refine g_icmp_ne hC (gDec_at DX7_readPlace_0 17 rfl) 37 (by decide) (fun h => ?_) (fun h => absurd h (nI_n9 (by omega)))
  refine g_aload_n hC (gDec_at DX7_readPlace_0 20 rfl) rfl ?_
  refine g_iload_n hC (gDec_at DX7_readPlace_0 21 rfl) rfl ?_
  refine g_if_neN hC (by omega) (gDec_at DX7_readPlace_0 22 rfl) 46 (by decide) (fun h39 => ?_) (fun h39 => ?_)
  · skip
    refine g_iconst hC (gDec_at DX7_readPlace_0 25 rfl) (v := nI 0) (by decide) ?_
    refine g_iload_n hC (gDec_at DX7_readPlace_0 26 rfl) rfl ?_
    refine g_iconst hC (gDec_at DX7_readPlace_0 27 rfl) (v := nI 4) (by decide) ?_
    refine g_icmp_neN hC (by omega) (by omega) (gDec_at DX7_readPlace_0 28 rfl) 56 (by decide) (fun h49 => ?_) (fun h49 => ?_)
    · skip
      refine g_bipush hC (gDec_at DX7_readPlace_0 31 rfl) (v := nI 9) (by decide) ?_
      refine g_callVd (w := wM q) hC 0 (c_X7_figure_no q (M := (gupd M 0 3 (nI (p + 2)))) (mT_pl hT (by omega)) (p := p + 2) (lo := 0) (hi := 9) pl_at (by omega) (by omega) (by omega) (fun h z => hx h (by have e : tb (p + 2 - 1) = tb (p + 1) := rfl; unfold ffit; omega))) vf_X7_figure ml_X7_86 (by decide) (show 0 < 17 from by decide) rfl rfl rfl rfl rfl (Nat.le_of_ble_eq_true rfl) (gDec_at DX7_readPlace_0 32 rfl) ?_
      refine g_istore hC (gDec_at DX7_readPlace_0 33 rfl) (by decide) (L' := [(4, .int (-9)), (3, .int (nI (tb (p + 1) - 48))), (2, .int (nI (tb p - 48))), (0, .ref (q.2.2 0)), (1, .int (nI i))]) rfl ?_
      refine g_iload hC (gDec_at DX7_readPlace_0 34 rfl) rfl ?_
      refine g_bipush hC (gDec_at DX7_readPlace_0 35 rfl) (v := -9) (by decide) ?_
      refine g_icmp_ne hC (gDec_at DX7_readPlace_0 36 rfl) 75 (by decide) (fun h => absurd rfl h) (fun h => ?_)
      refine g_bipush hC (gDec_at DX7_readPlace_0 37 rfl) (v := -9) (by decide) ?_
      refine g_goto hC (gDec_at DX7_readPlace_0 38 rfl) 81 (by decide) ?_
      refine g_istore hC (gDec_at DX7_readPlace_0 43 rfl) (by decide) (L' := [(5, .int (-9)), (4, .int (-9)), (3, .int (nI (tb (p + 1) - 48))), (2, .int (nI (tb p - 48))), (0, .ref (q.2.2 0)), (1, .int (nI i))]) rfl ?_
      refine g_iload hC (gDec_at DX7_readPlace_0 44 rfl) rfl ?_
      refine g_bipush hC (gDec_at DX7_readPlace_0 45 rfl) (v := -9) (by decide) ?_
      refine g_icmp_ne hC (gDec_at DX7_readPlace_0 46 rfl) 92 (by decide) (fun h => absurd rfl h) (fun h => ?_)
      refine g_iconst hC (gDec_at DX7_readPlace_0 47 rfl) (v := nI 0) (by decide) ?_
      refine g_zret hC (Or.inl rfl) (gDec_at DX7_readPlace_0 48 rfl) ?_
      exact ⟨rfl, rfl⟩
    · skip
      refine g_iconst hC (gDec_at DX7_readPlace_0 29 rfl) (v := nI 0) (by decide) ?_
      refine g_goto hC (gDec_at DX7_readPlace_0 30 rfl) 58 (by decide) ?_
      refine g_callVd (w := wM q) hC 0 (c_X7_figure_no q (M := (gupd M 0 3 (nI (p + 2)))) (mT_pl hT (by omega)) (p := p + 2) (lo := 0) (hi := 0) pl_at (by omega) (by omega) (by omega) (fun h z => hx h (by have e : tb (p + 2 - 1) = tb (p + 1) := rfl; unfold ffit; omega))) vf_X7_figure ml_X7_86 (by decide) (show 0 < 17 from by decide) rfl rfl rfl rfl rfl (Nat.le_of_ble_eq_true rfl) (gDec_at DX7_readPlace_0 32 rfl) ?_
      refine g_istore hC (gDec_at DX7_readPlace_0 33 rfl) (by decide) (L' := [(4, .int (-9)), (3, .int (nI (tb (p + 1) - 48))), (2, .int (nI (tb p - 48))), (0, .ref (q.2.2 0)), (1, .int (nI i))]) rfl ?_
      refine g_iload hC (gDec_at DX7_readPlace_0 34 rfl) rfl ?_
      refine g_bipush hC (gDec_at DX7_readPlace_0 35 rfl) (v := -9) (by decide) ?_
      refine g_icmp_ne hC (gDec_at DX7_readPlace_0 36 rfl) 75 (by decide) (fun h => absurd rfl h) (fun h => ?_)
      refine g_bipush hC (gDec_at DX7_readPlace_0 37 rfl) (v := -9) (by decide) ?_
      refine g_goto hC (gDec_at DX7_readPlace_0 38 rfl) 81 (by decide) ?_
      refine g_istore hC (gDec_at DX7_readPlace_0 43 rfl) (by decide) (L' := [(5, .int (-9)), (4, .int (-9)), (3, .int (nI (tb (p + 1) - 48))), (2, .int (nI (tb p - 48))), (0, .ref (q.2.2 0)), (1, .int (nI i))]) rfl ?_
      refine g_iload hC (gDec_at DX7_readPlace_0 44 rfl) rfl ?_
      refine g_bipush hC (gDec_at DX7_readPlace_0 45 rfl) (v := -9) (by decide) ?_
      refine g_icmp_ne hC (gDec_at DX7_readPlace_0 46 rfl) 92 (by decide) (fun h => absurd rfl h) (fun h => ?_)
      refine g_iconst hC (gDec_at DX7_readPlace_0 47 rfl) (v := nI 0) (by decide) ?_
      refine g_zret hC (Or.inl rfl) (gDec_at DX7_readPlace_0 48 rfl) ?_
      exact ⟨rfl, rfl⟩
  · skip
    refine g_iconst hC (gDec_at DX7_readPlace_0 23 rfl) (v := nI 4) (by decide) ?_
    refine g_goto hC (gDec_at DX7_readPlace_0 24 rfl) 47 (by decide) ?_
    refine g_iload_n hC (gDec_at DX7_readPlace_0 26 rfl) rfl ?_
    refine g_iconst hC (gDec_at DX7_readPlace_0 27 rfl) (v := nI 4) (by decide) ?_
    refine g_icmp_neN hC (by omega) (by omega) (gDec_at DX7_readPlace_0 28 rfl) 56 (by decide) (fun h49_1 => ?_) (fun h49_1 => ?_)
    · skip
      refine g_bipush hC (gDec_at DX7_readPlace_0 31 rfl) (v := nI 9) (by decide) ?_
      refine g_callVd (w := wM q) hC 0 (c_X7_figure_no q (M := (gupd M 0 3 (nI (p + 2)))) (mT_pl hT (by omega)) (p := p + 2) (lo := 4) (hi := 9) pl_at (by omega) (by omega) (by omega) (fun h z => hx h (by have e : tb (p + 2 - 1) = tb (p + 1) := rfl; unfold ffit; omega))) vf_X7_figure ml_X7_86 (by decide) (show 0 < 17 from by decide) rfl rfl rfl rfl rfl (Nat.le_of_ble_eq_true rfl) (gDec_at DX7_readPlace_0 32 rfl) ?_
      refine g_istore hC (gDec_at DX7_readPlace_0 33 rfl) (by decide) (L' := [(4, .int (-9)), (3, .int (nI (tb (p + 1) - 48))), (2, .int (nI (tb p - 48))), (0, .ref (q.2.2 0)), (1, .int (nI i))]) rfl ?_
      refine g_iload hC (gDec_at DX7_readPlace_0 34 rfl) rfl ?_
      refine g_bipush hC (gDec_at DX7_readPlace_0 35 rfl) (v := -9) (by decide) ?_
      refine g_icmp_ne hC (gDec_at DX7_readPlace_0 36 rfl) 75 (by decide) (fun h => absurd rfl h) (fun h => ?_)
      refine g_bipush hC (gDec_at DX7_readPlace_0 37 rfl) (v := -9) (by decide) ?_
      refine g_goto hC (gDec_at DX7_readPlace_0 38 rfl) 81 (by decide) ?_
      refine g_istore hC (gDec_at DX7_readPlace_0 43 rfl) (by decide) (L' := [(5, .int (-9)), (4, .int (-9)), (3, .int (nI (tb (p + 1) - 48))), (2, .int (nI (tb p - 48))), (0, .ref (q.2.2 0)), (1, .int (nI i))]) rfl ?_
      refine g_iload hC (gDec_at DX7_readPlace_0 44 rfl) rfl ?_
      refine g_bipush hC (gDec_at DX7_readPlace_0 45 rfl) (v := -9) (by decide) ?_
      refine g_icmp_ne hC (gDec_at DX7_readPlace_0 46 rfl) 92 (by decide) (fun h => absurd rfl h) (fun h => ?_)
      refine g_iconst hC (gDec_at DX7_readPlace_0 47 rfl) (v := nI 0) (by decide) ?_
      refine g_zret hC (Or.inl rfl) (gDec_at DX7_readPlace_0 48 rfl) ?_
      exact ⟨rfl, rfl⟩
    · skip
      omega

set_option maxRecDepth 100000 in
set_option maxHeartbeats 4000000 in
theorem c_X7_readPlace_3 (q : gQ3) {M : gM} {tl : Nat} {tb : Nat → Nat} (hT : mT M tl tb) {p i : Nat} (hi : i < 12) (hp : M.1 0 3 = nI p) (hpt : p + 3 ≤ tl) (ht0 : p + 0 < tl) (f0 : ffit 0 (tb (p + 0 - 1)) (tb (p + 0))) (ht1 : p + 1 < tl) (f1 : ffit 1 (tb (p + 1 - 1)) (tb (p + 1))) (ht2 : p + 2 < tl) (f2 : ffit 2 (tb (p + 2 - 1)) (tb (p + 2))) (hx : p + 3 < tl → ¬ ffit 3 (tb (p + 3 - 1)) (tb (p + 3))) : gCt (wM q) yX7_readPlace cX7_readPlace 6 (some .boolean) 2 [.ref (q.2.2 0), .int (nI i)] M (gR (some (.int (nI 0))) (gupd M 0 3 (nI (p + 3)))) := by
  refine gMet RX7 (by decide +kernel) rfl (Nat.le_of_ble_eq_true rfl) (fun X hC => ?_)
  have hC : gC X (wM q) cX7_readPlace 6 RX7 (some .boolean) 2 := hC
  show gG X (wM q) _ 6 M 0 [(0, .ref (q.2.2 0)), (1, .int (nI i))] []
  have ht := hT.2.1
  have g0 : 49 ≤ tb p ∧ tb p ≤ 57 := by have z := f0; unfold ffit at z; have e : tb (p + 0) = tb p := rfl; omega
  have g1 : 48 ≤ tb (p + 1) ∧ tb (p + 1) ≤ 52 := by have z := f1; unfold ffit at z; omega
  have g2 : 48 ≤ tb (p + 2) ∧ tb (p + 2) ≤ 57 ∧ 532 ≤ 10 * tb (p + 1) + tb (p + 2) ∧ 10 * tb (p + 1) + tb (p + 2) ≤ 568 := by have z := f2; unfold ffit at z; have e : tb (p + 2 - 1) = tb (p + 1) := rfl; omega
  refine g_aload_n hC (gDec_at DX7_readPlace_0 0 rfl) rfl ?_
  refine g_iconst hC (gDec_at DX7_readPlace_0 1 rfl) (v := nI 1) (by decide) ?_
  refine g_bipush hC (gDec_at DX7_readPlace_0 2 rfl) (v := nI 9) (by decide) ?_
  refine g_callVd (w := wM q) hC 0 (c_X7_figure_ok q (M := M) hT (p := p) (lo := 1) (hi := 9) hp (by omega) (by omega) (by omega) (by omega) (by omega)) vf_X7_figure ml_X7_86 (by decide) (show 0 < 17 from by decide) rfl rfl rfl rfl rfl (Nat.le_of_ble_eq_true rfl) (gDec_at DX7_readPlace_0 3 rfl) ?_
  refine g_istore_n hC (gDec_at DX7_readPlace_0 4 rfl) (by decide) (L' := [(2, .int (nI (tb p - 48))), (0, .ref (q.2.2 0)), (1, .int (nI i))]) rfl ?_
  refine g_iload_n hC (gDec_at DX7_readPlace_0 5 rfl) rfl ?_
  refine g_bipush hC (gDec_at DX7_readPlace_0 6 rfl) (v := -9) (by decide) ?_
  refine g_icmp_ne hC (gDec_at DX7_readPlace_0 7 rfl) 19 (by decide) (fun h => ?_) (fun h => absurd h (nI_n9 (by omega)))
  refine g_aload_n hC (gDec_at DX7_readPlace_0 10 rfl) rfl ?_
  refine g_iconst hC (gDec_at DX7_readPlace_0 11 rfl) (v := nI 0) (by decide) ?_
  refine g_iconst hC (gDec_at DX7_readPlace_0 12 rfl) (v := nI 4) (by decide) ?_
  refine g_callVd (w := wM q) hC 0 (c_X7_figure_ok q (M := (gupd M 0 3 (nI (p + 1)))) (mT_pl hT (by omega)) (p := p + 1) (lo := 0) (hi := 4) pl_at (by omega) (by omega) (by omega) (by omega) (by omega)) vf_X7_figure ml_X7_86 (by decide) (show 0 < 17 from by decide) rfl rfl rfl rfl rfl (Nat.le_of_ble_eq_true rfl) (gDec_at DX7_readPlace_0 13 rfl) ?_
  refine g_M (M' := (gupd M 0 3 (nI (p + 2)))) gupd_2 ?_
  refine g_istore_n hC (gDec_at DX7_readPlace_0 14 rfl) (by decide) (L' := [(3, .int (nI (tb (p + 1) - 48))), (2, .int (nI (tb p - 48))), (0, .ref (q.2.2 0)), (1, .int (nI i))]) rfl ?_
  refine g_iload_n hC (gDec_at DX7_readPlace_0 15 rfl) rfl ?_
  refine g_bipush hC (gDec_at DX7_readPlace_0 16 rfl) (v := -9) (by decide) ?_
  refine g_icmp_ne hC (gDec_at DX7_readPlace_0 17 rfl) 37 (by decide) (fun h => ?_) (fun h => absurd h (nI_n9 (by omega)))
  refine g_aload_n hC (gDec_at DX7_readPlace_0 20 rfl) rfl ?_
  refine g_iload_n hC (gDec_at DX7_readPlace_0 21 rfl) rfl ?_
  refine g_if_neN hC (by omega) (gDec_at DX7_readPlace_0 22 rfl) 46 (by decide) (fun h39 => ?_) (fun h39 => ?_)
  · skip
    refine g_iconst hC (gDec_at DX7_readPlace_0 25 rfl) (v := nI 0) (by decide) ?_
    refine g_iload_n hC (gDec_at DX7_readPlace_0 26 rfl) rfl ?_
    refine g_iconst hC (gDec_at DX7_readPlace_0 27 rfl) (v := nI 4) (by decide) ?_
    refine g_icmp_neN hC (by omega) (by omega) (gDec_at DX7_readPlace_0 28 rfl) 56 (by decide) (fun h49 => ?_) (fun h49 => ?_)
    · skip
      refine g_bipush hC (gDec_at DX7_readPlace_0 31 rfl) (v := nI 9) (by decide) ?_
      refine g_callVd (w := wM q) hC 0 (c_X7_figure_ok q (M := (gupd M 0 3 (nI (p + 2)))) (mT_pl hT (by omega)) (p := p + 2) (lo := 0) (hi := 9) pl_at (by omega) (by omega) (by omega) (by omega) (by omega)) vf_X7_figure ml_X7_86 (by decide) (show 0 < 17 from by decide) rfl rfl rfl rfl rfl (Nat.le_of_ble_eq_true rfl) (gDec_at DX7_readPlace_0 32 rfl) ?_
      refine g_M (M' := (gupd M 0 3 (nI (p + 3)))) gupd_2 ?_
      refine g_istore hC (gDec_at DX7_readPlace_0 33 rfl) (by decide) (L' := [(4, .int (nI (tb (p + 2) - 48))), (3, .int (nI (tb (p + 1) - 48))), (2, .int (nI (tb p - 48))), (0, .ref (q.2.2 0)), (1, .int (nI i))]) rfl ?_
      refine g_iload hC (gDec_at DX7_readPlace_0 34 rfl) rfl ?_
      refine g_bipush hC (gDec_at DX7_readPlace_0 35 rfl) (v := -9) (by decide) ?_
      refine g_icmp_ne hC (gDec_at DX7_readPlace_0 36 rfl) 75 (by decide) (fun h => ?_) (fun h => absurd h (nI_n9 (by omega)))
      refine g_aload_n hC (gDec_at DX7_readPlace_0 39 rfl) rfl ?_
      refine g_iconst hC (gDec_at DX7_readPlace_0 40 rfl) (v := nI 0) (by decide) ?_
      refine g_iconst hC (gDec_at DX7_readPlace_0 41 rfl) (v := nI 2) (by decide) ?_
      refine g_callVd (w := wM q) hC 0 (c_X7_figure_no q (M := (gupd M 0 3 (nI (p + 3)))) (mT_pl hT (by omega)) (p := p + 3) (lo := 0) (hi := 2) pl_at (by omega) (by omega) (by omega) (fun h z => hx h (by unfold ffit; omega))) vf_X7_figure ml_X7_86 (by decide) (show 0 < 17 from by decide) rfl rfl rfl rfl rfl (Nat.le_of_ble_eq_true rfl) (gDec_at DX7_readPlace_0 42 rfl) ?_
      refine g_istore hC (gDec_at DX7_readPlace_0 43 rfl) (by decide) (L' := [(5, .int (-9)), (4, .int (nI (tb (p + 2) - 48))), (3, .int (nI (tb (p + 1) - 48))), (2, .int (nI (tb p - 48))), (0, .ref (q.2.2 0)), (1, .int (nI i))]) rfl ?_
      refine g_iload hC (gDec_at DX7_readPlace_0 44 rfl) rfl ?_
      refine g_bipush hC (gDec_at DX7_readPlace_0 45 rfl) (v := -9) (by decide) ?_
      refine g_icmp_ne hC (gDec_at DX7_readPlace_0 46 rfl) 92 (by decide) (fun h => absurd rfl h) (fun h => ?_)
      refine g_iconst hC (gDec_at DX7_readPlace_0 47 rfl) (v := nI 0) (by decide) ?_
      refine g_zret hC (Or.inl rfl) (gDec_at DX7_readPlace_0 48 rfl) ?_
      exact ⟨rfl, rfl⟩
    · skip
      refine g_iconst hC (gDec_at DX7_readPlace_0 29 rfl) (v := nI 0) (by decide) ?_
      refine g_goto hC (gDec_at DX7_readPlace_0 30 rfl) 58 (by decide) ?_
      refine g_callVd (w := wM q) hC 0 (c_X7_figure_ok q (M := (gupd M 0 3 (nI (p + 2)))) (mT_pl hT (by omega)) (p := p + 2) (lo := 0) (hi := 0) pl_at (by omega) (by omega) (by omega) (by omega) (by omega)) vf_X7_figure ml_X7_86 (by decide) (show 0 < 17 from by decide) rfl rfl rfl rfl rfl (Nat.le_of_ble_eq_true rfl) (gDec_at DX7_readPlace_0 32 rfl) ?_
      refine g_M (M' := (gupd M 0 3 (nI (p + 3)))) gupd_2 ?_
      refine g_istore hC (gDec_at DX7_readPlace_0 33 rfl) (by decide) (L' := [(4, .int (nI (tb (p + 2) - 48))), (3, .int (nI (tb (p + 1) - 48))), (2, .int (nI (tb p - 48))), (0, .ref (q.2.2 0)), (1, .int (nI i))]) rfl ?_
      refine g_iload hC (gDec_at DX7_readPlace_0 34 rfl) rfl ?_
      refine g_bipush hC (gDec_at DX7_readPlace_0 35 rfl) (v := -9) (by decide) ?_
      refine g_icmp_ne hC (gDec_at DX7_readPlace_0 36 rfl) 75 (by decide) (fun h => ?_) (fun h => absurd h (nI_n9 (by omega)))
      refine g_aload_n hC (gDec_at DX7_readPlace_0 39 rfl) rfl ?_
      refine g_iconst hC (gDec_at DX7_readPlace_0 40 rfl) (v := nI 0) (by decide) ?_
      refine g_iconst hC (gDec_at DX7_readPlace_0 41 rfl) (v := nI 2) (by decide) ?_
      refine g_callVd (w := wM q) hC 0 (c_X7_figure_no q (M := (gupd M 0 3 (nI (p + 3)))) (mT_pl hT (by omega)) (p := p + 3) (lo := 0) (hi := 2) pl_at (by omega) (by omega) (by omega) (fun h z => hx h (by unfold ffit; omega))) vf_X7_figure ml_X7_86 (by decide) (show 0 < 17 from by decide) rfl rfl rfl rfl rfl (Nat.le_of_ble_eq_true rfl) (gDec_at DX7_readPlace_0 42 rfl) ?_
      refine g_istore hC (gDec_at DX7_readPlace_0 43 rfl) (by decide) (L' := [(5, .int (-9)), (4, .int (nI (tb (p + 2) - 48))), (3, .int (nI (tb (p + 1) - 48))), (2, .int (nI (tb p - 48))), (0, .ref (q.2.2 0)), (1, .int (nI i))]) rfl ?_
      refine g_iload hC (gDec_at DX7_readPlace_0 44 rfl) rfl ?_
      refine g_bipush hC (gDec_at DX7_readPlace_0 45 rfl) (v := -9) (by decide) ?_
      refine g_icmp_ne hC (gDec_at DX7_readPlace_0 46 rfl) 92 (by decide) (fun h => absurd rfl h) (fun h => ?_)
      refine g_iconst hC (gDec_at DX7_readPlace_0 47 rfl) (v := nI 0) (by decide) ?_
      refine g_zret hC (Or.inl rfl) (gDec_at DX7_readPlace_0 48 rfl) ?_
      exact ⟨rfl, rfl⟩
  · skip
    refine g_iconst hC (gDec_at DX7_readPlace_0 23 rfl) (v := nI 4) (by decide) ?_
    refine g_goto hC (gDec_at DX7_readPlace_0 24 rfl) 47 (by decide) ?_
    refine g_iload_n hC (gDec_at DX7_readPlace_0 26 rfl) rfl ?_
    refine g_iconst hC (gDec_at DX7_readPlace_0 27 rfl) (v := nI 4) (by decide) ?_
    refine g_icmp_neN hC (by omega) (by omega) (gDec_at DX7_readPlace_0 28 rfl) 56 (by decide) (fun h49_1 => ?_) (fun h49_1 => ?_)
    · skip
      refine g_bipush hC (gDec_at DX7_readPlace_0 31 rfl) (v := nI 9) (by decide) ?_
      refine g_callVd (w := wM q) hC 0 (c_X7_figure_ok q (M := (gupd M 0 3 (nI (p + 2)))) (mT_pl hT (by omega)) (p := p + 2) (lo := 4) (hi := 9) pl_at (by omega) (by omega) (by omega) (by omega) (by omega)) vf_X7_figure ml_X7_86 (by decide) (show 0 < 17 from by decide) rfl rfl rfl rfl rfl (Nat.le_of_ble_eq_true rfl) (gDec_at DX7_readPlace_0 32 rfl) ?_
      refine g_M (M' := (gupd M 0 3 (nI (p + 3)))) gupd_2 ?_
      refine g_istore hC (gDec_at DX7_readPlace_0 33 rfl) (by decide) (L' := [(4, .int (nI (tb (p + 2) - 48))), (3, .int (nI (tb (p + 1) - 48))), (2, .int (nI (tb p - 48))), (0, .ref (q.2.2 0)), (1, .int (nI i))]) rfl ?_
      refine g_iload hC (gDec_at DX7_readPlace_0 34 rfl) rfl ?_
      refine g_bipush hC (gDec_at DX7_readPlace_0 35 rfl) (v := -9) (by decide) ?_
      refine g_icmp_ne hC (gDec_at DX7_readPlace_0 36 rfl) 75 (by decide) (fun h => ?_) (fun h => absurd h (nI_n9 (by omega)))
      refine g_aload_n hC (gDec_at DX7_readPlace_0 39 rfl) rfl ?_
      refine g_iconst hC (gDec_at DX7_readPlace_0 40 rfl) (v := nI 0) (by decide) ?_
      refine g_iconst hC (gDec_at DX7_readPlace_0 41 rfl) (v := nI 2) (by decide) ?_
      refine g_callVd (w := wM q) hC 0 (c_X7_figure_no q (M := (gupd M 0 3 (nI (p + 3)))) (mT_pl hT (by omega)) (p := p + 3) (lo := 0) (hi := 2) pl_at (by omega) (by omega) (by omega) (fun h z => hx h (by unfold ffit; omega))) vf_X7_figure ml_X7_86 (by decide) (show 0 < 17 from by decide) rfl rfl rfl rfl rfl (Nat.le_of_ble_eq_true rfl) (gDec_at DX7_readPlace_0 42 rfl) ?_
      refine g_istore hC (gDec_at DX7_readPlace_0 43 rfl) (by decide) (L' := [(5, .int (-9)), (4, .int (nI (tb (p + 2) - 48))), (3, .int (nI (tb (p + 1) - 48))), (2, .int (nI (tb p - 48))), (0, .ref (q.2.2 0)), (1, .int (nI i))]) rfl ?_
      refine g_iload hC (gDec_at DX7_readPlace_0 44 rfl) rfl ?_
      refine g_bipush hC (gDec_at DX7_readPlace_0 45 rfl) (v := -9) (by decide) ?_
      refine g_icmp_ne hC (gDec_at DX7_readPlace_0 46 rfl) 92 (by decide) (fun h => absurd rfl h) (fun h => ?_)
      refine g_iconst hC (gDec_at DX7_readPlace_0 47 rfl) (v := nI 0) (by decide) ?_
      refine g_zret hC (Or.inl rfl) (gDec_at DX7_readPlace_0 48 rfl) ?_
      exact ⟨rfl, rfl⟩
    · skip
      omega

set_option maxRecDepth 100000 in
set_option maxHeartbeats 4000000 in
theorem c_X7_readPlace_4 (q : gQ3) {M : gM} {tl : Nat} {tb : Nat → Nat} (hT : mT M tl tb) {p i : Nat} (hi : i < 12) (hp : M.1 0 3 = nI p) (ht0 : p + 0 < tl) (f0 : ffit 0 (tb (p + 0 - 1)) (tb (p + 0))) (ht1 : p + 1 < tl) (f1 : ffit 1 (tb (p + 1 - 1)) (tb (p + 1))) (ht2 : p + 2 < tl) (f2 : ffit 2 (tb (p + 2 - 1)) (tb (p + 2))) (ht3 : p + 3 < tl) (f3 : ffit 3 (tb (p + 3 - 1)) (tb (p + 3))) : gCt (wM q) yX7_readPlace cX7_readPlace 6 (some .boolean) 2 [.ref (q.2.2 0), .int (nI i)] M (gR (some (.int (nI 1))) (gupd (gupd (gupd (gupd M 0 3 (nI (p + 4))) 8 i (nI (tb p - 48))) 9 i (nI (10 * (tb (p + 1) - 48) + (tb (p + 2) - 48)))) 10 i (nI (tb (p + 3) - 48)))) := by
  refine gMet RX7 (by decide +kernel) rfl (Nat.le_of_ble_eq_true rfl) (fun X hC => ?_)
  have hC : gC X (wM q) cX7_readPlace 6 RX7 (some .boolean) 2 := hC
  show gG X (wM q) _ 6 M 0 [(0, .ref (q.2.2 0)), (1, .int (nI i))] []
  have ht := hT.2.1
  have g0 : 49 ≤ tb p ∧ tb p ≤ 57 := by have z := f0; unfold ffit at z; have e : tb (p + 0) = tb p := rfl; omega
  have g1 : 48 ≤ tb (p + 1) ∧ tb (p + 1) ≤ 52 := by have z := f1; unfold ffit at z; omega
  have g2 : 48 ≤ tb (p + 2) ∧ tb (p + 2) ≤ 57 ∧ 532 ≤ 10 * tb (p + 1) + tb (p + 2) ∧ 10 * tb (p + 1) + tb (p + 2) ≤ 568 := by have z := f2; unfold ffit at z; have e : tb (p + 2 - 1) = tb (p + 1) := rfl; omega
  have g3 : 48 ≤ tb (p + 3) ∧ tb (p + 3) ≤ 50 := by have z := f3; unfold ffit at z; omega
  refine g_aload_n hC (gDec_at DX7_readPlace_0 0 rfl) rfl ?_
  refine g_iconst hC (gDec_at DX7_readPlace_0 1 rfl) (v := nI 1) (by decide) ?_
  refine g_bipush hC (gDec_at DX7_readPlace_0 2 rfl) (v := nI 9) (by decide) ?_
  refine g_callVd (w := wM q) hC 0 (c_X7_figure_ok q (M := M) hT (p := p) (lo := 1) (hi := 9) hp (by omega) (by omega) (by omega) (by omega) (by omega)) vf_X7_figure ml_X7_86 (by decide) (show 0 < 17 from by decide) rfl rfl rfl rfl rfl (Nat.le_of_ble_eq_true rfl) (gDec_at DX7_readPlace_0 3 rfl) ?_
  refine g_istore_n hC (gDec_at DX7_readPlace_0 4 rfl) (by decide) (L' := [(2, .int (nI (tb p - 48))), (0, .ref (q.2.2 0)), (1, .int (nI i))]) rfl ?_
  refine g_iload_n hC (gDec_at DX7_readPlace_0 5 rfl) rfl ?_
  refine g_bipush hC (gDec_at DX7_readPlace_0 6 rfl) (v := -9) (by decide) ?_
  refine g_icmp_ne hC (gDec_at DX7_readPlace_0 7 rfl) 19 (by decide) (fun h => ?_) (fun h => absurd h (nI_n9 (by omega)))
  refine g_aload_n hC (gDec_at DX7_readPlace_0 10 rfl) rfl ?_
  refine g_iconst hC (gDec_at DX7_readPlace_0 11 rfl) (v := nI 0) (by decide) ?_
  refine g_iconst hC (gDec_at DX7_readPlace_0 12 rfl) (v := nI 4) (by decide) ?_
  refine g_callVd (w := wM q) hC 0 (c_X7_figure_ok q (M := (gupd M 0 3 (nI (p + 1)))) (mT_pl hT (by omega)) (p := p + 1) (lo := 0) (hi := 4) pl_at (by omega) (by omega) (by omega) (by omega) (by omega)) vf_X7_figure ml_X7_86 (by decide) (show 0 < 17 from by decide) rfl rfl rfl rfl rfl (Nat.le_of_ble_eq_true rfl) (gDec_at DX7_readPlace_0 13 rfl) ?_
  refine g_M (M' := (gupd M 0 3 (nI (p + 2)))) gupd_2 ?_
  refine g_istore_n hC (gDec_at DX7_readPlace_0 14 rfl) (by decide) (L' := [(3, .int (nI (tb (p + 1) - 48))), (2, .int (nI (tb p - 48))), (0, .ref (q.2.2 0)), (1, .int (nI i))]) rfl ?_
  refine g_iload_n hC (gDec_at DX7_readPlace_0 15 rfl) rfl ?_
  refine g_bipush hC (gDec_at DX7_readPlace_0 16 rfl) (v := -9) (by decide) ?_
  refine g_icmp_ne hC (gDec_at DX7_readPlace_0 17 rfl) 37 (by decide) (fun h => ?_) (fun h => absurd h (nI_n9 (by omega)))
  refine g_aload_n hC (gDec_at DX7_readPlace_0 20 rfl) rfl ?_
  refine g_iload_n hC (gDec_at DX7_readPlace_0 21 rfl) rfl ?_
  refine g_if_neN hC (by omega) (gDec_at DX7_readPlace_0 22 rfl) 46 (by decide) (fun h39 => ?_) (fun h39 => ?_)
  · skip
    refine g_iconst hC (gDec_at DX7_readPlace_0 25 rfl) (v := nI 0) (by decide) ?_
    refine g_iload_n hC (gDec_at DX7_readPlace_0 26 rfl) rfl ?_
    refine g_iconst hC (gDec_at DX7_readPlace_0 27 rfl) (v := nI 4) (by decide) ?_
    refine g_icmp_neN hC (by omega) (by omega) (gDec_at DX7_readPlace_0 28 rfl) 56 (by decide) (fun h49 => ?_) (fun h49 => ?_)
    · skip
      refine g_bipush hC (gDec_at DX7_readPlace_0 31 rfl) (v := nI 9) (by decide) ?_
      refine g_callVd (w := wM q) hC 0 (c_X7_figure_ok q (M := (gupd M 0 3 (nI (p + 2)))) (mT_pl hT (by omega)) (p := p + 2) (lo := 0) (hi := 9) pl_at (by omega) (by omega) (by omega) (by omega) (by omega)) vf_X7_figure ml_X7_86 (by decide) (show 0 < 17 from by decide) rfl rfl rfl rfl rfl (Nat.le_of_ble_eq_true rfl) (gDec_at DX7_readPlace_0 32 rfl) ?_
      refine g_M (M' := (gupd M 0 3 (nI (p + 3)))) gupd_2 ?_
      refine g_istore hC (gDec_at DX7_readPlace_0 33 rfl) (by decide) (L' := [(4, .int (nI (tb (p + 2) - 48))), (3, .int (nI (tb (p + 1) - 48))), (2, .int (nI (tb p - 48))), (0, .ref (q.2.2 0)), (1, .int (nI i))]) rfl ?_
      refine g_iload hC (gDec_at DX7_readPlace_0 34 rfl) rfl ?_
      refine g_bipush hC (gDec_at DX7_readPlace_0 35 rfl) (v := -9) (by decide) ?_
      refine g_icmp_ne hC (gDec_at DX7_readPlace_0 36 rfl) 75 (by decide) (fun h => ?_) (fun h => absurd h (nI_n9 (by omega)))
      refine g_aload_n hC (gDec_at DX7_readPlace_0 39 rfl) rfl ?_
      refine g_iconst hC (gDec_at DX7_readPlace_0 40 rfl) (v := nI 0) (by decide) ?_
      refine g_iconst hC (gDec_at DX7_readPlace_0 41 rfl) (v := nI 2) (by decide) ?_
      refine g_callVd (w := wM q) hC 0 (c_X7_figure_ok q (M := (gupd M 0 3 (nI (p + 3)))) (mT_pl hT (by omega)) (p := p + 3) (lo := 0) (hi := 2) pl_at (by omega) (by omega) (by omega) (by omega) (by omega)) vf_X7_figure ml_X7_86 (by decide) (show 0 < 17 from by decide) rfl rfl rfl rfl rfl (Nat.le_of_ble_eq_true rfl) (gDec_at DX7_readPlace_0 42 rfl) ?_
      refine g_M (M' := (gupd M 0 3 (nI (p + 4)))) gupd_2 ?_
      refine g_istore hC (gDec_at DX7_readPlace_0 43 rfl) (by decide) (L' := [(5, .int (nI (tb (p + 3) - 48))), (4, .int (nI (tb (p + 2) - 48))), (3, .int (nI (tb (p + 1) - 48))), (2, .int (nI (tb p - 48))), (0, .ref (q.2.2 0)), (1, .int (nI i))]) rfl ?_
      refine g_iload hC (gDec_at DX7_readPlace_0 44 rfl) rfl ?_
      refine g_bipush hC (gDec_at DX7_readPlace_0 45 rfl) (v := -9) (by decide) ?_
      refine g_icmp_ne hC (gDec_at DX7_readPlace_0 46 rfl) 92 (by decide) (fun h => ?_) (fun h => absurd h (nI_n9 (by omega)))
      refine g_aload_n hC (gDec_at DX7_readPlace_0 49 rfl) rfl ?_
      refine g_get (w := wM q) hC 0 (v := .ref (q.2.2 8)) fl_X7_38 (show 0 < 17 from by decide) rfl rfl (gDec_at DX7_readPlace_0 50 rfl) ?_
      refine g_iload_n hC (gDec_at DX7_readPlace_0 51 rfl) rfl ?_
      refine g_iload_n hC (gDec_at DX7_readPlace_0 52 rfl) rfl ?_
      refine g_iast (w := wM q) hC 8 0 i (show 8 < 17 from by decide) rfl rfl rfl (by omega) (by decide) (gDec_at DX7_readPlace_0 53 rfl) ?_
      refine g_aload_n hC (gDec_at DX7_readPlace_0 54 rfl) rfl ?_
      refine g_get (w := wM q) hC 0 (v := .ref (q.2.2 9)) fl_X7_41 (show 0 < 17 from by decide) rfl rfl (gDec_at DX7_readPlace_0 55 rfl) ?_
      refine g_iload_n hC (gDec_at DX7_readPlace_0 56 rfl) rfl ?_
      refine g_bipush hC (gDec_at DX7_readPlace_0 57 rfl) (v := nI 10) (by decide) ?_
      refine g_iload_n hC (gDec_at DX7_readPlace_0 58 rfl) rfl ?_
      refine g_imulN hC (gDec_at DX7_readPlace_0 59 rfl) ?_
      refine g_iload hC (gDec_at DX7_readPlace_0 60 rfl) rfl ?_
      refine g_iaddN hC (gDec_at DX7_readPlace_0 61 rfl) ?_
      refine g_iast (w := wM q) hC 9 0 i (show 9 < 17 from by decide) rfl rfl rfl (by omega) (by decide) (gDec_at DX7_readPlace_0 62 rfl) ?_
      refine g_aload_n hC (gDec_at DX7_readPlace_0 63 rfl) rfl ?_
      refine g_get (w := wM q) hC 0 (v := .ref (q.2.2 10)) fl_X7_44 (show 0 < 17 from by decide) rfl rfl (gDec_at DX7_readPlace_1 0 rfl) ?_
      refine g_iload_n hC (gDec_at DX7_readPlace_1 1 rfl) rfl ?_
      refine g_iload hC (gDec_at DX7_readPlace_1 2 rfl) rfl ?_
      refine g_iast (w := wM q) hC 10 0 i (show 10 < 17 from by decide) rfl rfl rfl (by omega) (by decide) (gDec_at DX7_readPlace_1 3 rfl) ?_
      refine g_iconst hC (gDec_at DX7_readPlace_1 4 rfl) (v := nI 1) (by decide) ?_
      refine g_zret hC (Or.inr rfl) (gDec_at DX7_readPlace_1 5 rfl) ?_
      exact ⟨rfl, rfl⟩
    · skip
      refine g_iconst hC (gDec_at DX7_readPlace_0 29 rfl) (v := nI 0) (by decide) ?_
      refine g_goto hC (gDec_at DX7_readPlace_0 30 rfl) 58 (by decide) ?_
      refine g_callVd (w := wM q) hC 0 (c_X7_figure_ok q (M := (gupd M 0 3 (nI (p + 2)))) (mT_pl hT (by omega)) (p := p + 2) (lo := 0) (hi := 0) pl_at (by omega) (by omega) (by omega) (by omega) (by omega)) vf_X7_figure ml_X7_86 (by decide) (show 0 < 17 from by decide) rfl rfl rfl rfl rfl (Nat.le_of_ble_eq_true rfl) (gDec_at DX7_readPlace_0 32 rfl) ?_
      refine g_M (M' := (gupd M 0 3 (nI (p + 3)))) gupd_2 ?_
      refine g_istore hC (gDec_at DX7_readPlace_0 33 rfl) (by decide) (L' := [(4, .int (nI (tb (p + 2) - 48))), (3, .int (nI (tb (p + 1) - 48))), (2, .int (nI (tb p - 48))), (0, .ref (q.2.2 0)), (1, .int (nI i))]) rfl ?_
      refine g_iload hC (gDec_at DX7_readPlace_0 34 rfl) rfl ?_
      refine g_bipush hC (gDec_at DX7_readPlace_0 35 rfl) (v := -9) (by decide) ?_
      refine g_icmp_ne hC (gDec_at DX7_readPlace_0 36 rfl) 75 (by decide) (fun h => ?_) (fun h => absurd h (nI_n9 (by omega)))
      refine g_aload_n hC (gDec_at DX7_readPlace_0 39 rfl) rfl ?_
      refine g_iconst hC (gDec_at DX7_readPlace_0 40 rfl) (v := nI 0) (by decide) ?_
      refine g_iconst hC (gDec_at DX7_readPlace_0 41 rfl) (v := nI 2) (by decide) ?_
      refine g_callVd (w := wM q) hC 0 (c_X7_figure_ok q (M := (gupd M 0 3 (nI (p + 3)))) (mT_pl hT (by omega)) (p := p + 3) (lo := 0) (hi := 2) pl_at (by omega) (by omega) (by omega) (by omega) (by omega)) vf_X7_figure ml_X7_86 (by decide) (show 0 < 17 from by decide) rfl rfl rfl rfl rfl (Nat.le_of_ble_eq_true rfl) (gDec_at DX7_readPlace_0 42 rfl) ?_
      refine g_M (M' := (gupd M 0 3 (nI (p + 4)))) gupd_2 ?_
      refine g_istore hC (gDec_at DX7_readPlace_0 43 rfl) (by decide) (L' := [(5, .int (nI (tb (p + 3) - 48))), (4, .int (nI (tb (p + 2) - 48))), (3, .int (nI (tb (p + 1) - 48))), (2, .int (nI (tb p - 48))), (0, .ref (q.2.2 0)), (1, .int (nI i))]) rfl ?_
      refine g_iload hC (gDec_at DX7_readPlace_0 44 rfl) rfl ?_
      refine g_bipush hC (gDec_at DX7_readPlace_0 45 rfl) (v := -9) (by decide) ?_
      refine g_icmp_ne hC (gDec_at DX7_readPlace_0 46 rfl) 92 (by decide) (fun h => ?_) (fun h => absurd h (nI_n9 (by omega)))
      refine g_aload_n hC (gDec_at DX7_readPlace_0 49 rfl) rfl ?_
      refine g_get (w := wM q) hC 0 (v := .ref (q.2.2 8)) fl_X7_38 (show 0 < 17 from by decide) rfl rfl (gDec_at DX7_readPlace_0 50 rfl) ?_
      refine g_iload_n hC (gDec_at DX7_readPlace_0 51 rfl) rfl ?_
      refine g_iload_n hC (gDec_at DX7_readPlace_0 52 rfl) rfl ?_
      refine g_iast (w := wM q) hC 8 0 i (show 8 < 17 from by decide) rfl rfl rfl (by omega) (by decide) (gDec_at DX7_readPlace_0 53 rfl) ?_
      refine g_aload_n hC (gDec_at DX7_readPlace_0 54 rfl) rfl ?_
      refine g_get (w := wM q) hC 0 (v := .ref (q.2.2 9)) fl_X7_41 (show 0 < 17 from by decide) rfl rfl (gDec_at DX7_readPlace_0 55 rfl) ?_
      refine g_iload_n hC (gDec_at DX7_readPlace_0 56 rfl) rfl ?_
      refine g_bipush hC (gDec_at DX7_readPlace_0 57 rfl) (v := nI 10) (by decide) ?_
      refine g_iload_n hC (gDec_at DX7_readPlace_0 58 rfl) rfl ?_
      refine g_imulN hC (gDec_at DX7_readPlace_0 59 rfl) ?_
      refine g_iload hC (gDec_at DX7_readPlace_0 60 rfl) rfl ?_
      refine g_iaddN hC (gDec_at DX7_readPlace_0 61 rfl) ?_
      refine g_iast (w := wM q) hC 9 0 i (show 9 < 17 from by decide) rfl rfl rfl (by omega) (by decide) (gDec_at DX7_readPlace_0 62 rfl) ?_
      refine g_aload_n hC (gDec_at DX7_readPlace_0 63 rfl) rfl ?_
      refine g_get (w := wM q) hC 0 (v := .ref (q.2.2 10)) fl_X7_44 (show 0 < 17 from by decide) rfl rfl (gDec_at DX7_readPlace_1 0 rfl) ?_
      refine g_iload_n hC (gDec_at DX7_readPlace_1 1 rfl) rfl ?_
      refine g_iload hC (gDec_at DX7_readPlace_1 2 rfl) rfl ?_
      refine g_iast (w := wM q) hC 10 0 i (show 10 < 17 from by decide) rfl rfl rfl (by omega) (by decide) (gDec_at DX7_readPlace_1 3 rfl) ?_
      refine g_iconst hC (gDec_at DX7_readPlace_1 4 rfl) (v := nI 1) (by decide) ?_
      refine g_zret hC (Or.inr rfl) (gDec_at DX7_readPlace_1 5 rfl) ?_
      exact ⟨rfl, rfl⟩
  · skip
    refine g_iconst hC (gDec_at DX7_readPlace_0 23 rfl) (v := nI 4) (by decide) ?_
    refine g_goto hC (gDec_at DX7_readPlace_0 24 rfl) 47 (by decide) ?_
    refine g_iload_n hC (gDec_at DX7_readPlace_0 26 rfl) rfl ?_
    refine g_iconst hC (gDec_at DX7_readPlace_0 27 rfl) (v := nI 4) (by decide) ?_
    refine g_icmp_neN hC (by omega) (by omega) (gDec_at DX7_readPlace_0 28 rfl) 56 (by decide) (fun h49_1 => ?_) (fun h49_1 => ?_)
    · skip
      refine g_bipush hC (gDec_at DX7_readPlace_0 31 rfl) (v := nI 9) (by decide) ?_
      refine g_callVd (w := wM q) hC 0 (c_X7_figure_ok q (M := (gupd M 0 3 (nI (p + 2)))) (mT_pl hT (by omega)) (p := p + 2) (lo := 4) (hi := 9) pl_at (by omega) (by omega) (by omega) (by omega) (by omega)) vf_X7_figure ml_X7_86 (by decide) (show 0 < 17 from by decide) rfl rfl rfl rfl rfl (Nat.le_of_ble_eq_true rfl) (gDec_at DX7_readPlace_0 32 rfl) ?_
      refine g_M (M' := (gupd M 0 3 (nI (p + 3)))) gupd_2 ?_
      refine g_istore hC (gDec_at DX7_readPlace_0 33 rfl) (by decide) (L' := [(4, .int (nI (tb (p + 2) - 48))), (3, .int (nI (tb (p + 1) - 48))), (2, .int (nI (tb p - 48))), (0, .ref (q.2.2 0)), (1, .int (nI i))]) rfl ?_
      refine g_iload hC (gDec_at DX7_readPlace_0 34 rfl) rfl ?_
      refine g_bipush hC (gDec_at DX7_readPlace_0 35 rfl) (v := -9) (by decide) ?_
      refine g_icmp_ne hC (gDec_at DX7_readPlace_0 36 rfl) 75 (by decide) (fun h => ?_) (fun h => absurd h (nI_n9 (by omega)))
      refine g_aload_n hC (gDec_at DX7_readPlace_0 39 rfl) rfl ?_
      refine g_iconst hC (gDec_at DX7_readPlace_0 40 rfl) (v := nI 0) (by decide) ?_
      refine g_iconst hC (gDec_at DX7_readPlace_0 41 rfl) (v := nI 2) (by decide) ?_
      refine g_callVd (w := wM q) hC 0 (c_X7_figure_ok q (M := (gupd M 0 3 (nI (p + 3)))) (mT_pl hT (by omega)) (p := p + 3) (lo := 0) (hi := 2) pl_at (by omega) (by omega) (by omega) (by omega) (by omega)) vf_X7_figure ml_X7_86 (by decide) (show 0 < 17 from by decide) rfl rfl rfl rfl rfl (Nat.le_of_ble_eq_true rfl) (gDec_at DX7_readPlace_0 42 rfl) ?_
      refine g_M (M' := (gupd M 0 3 (nI (p + 4)))) gupd_2 ?_
      refine g_istore hC (gDec_at DX7_readPlace_0 43 rfl) (by decide) (L' := [(5, .int (nI (tb (p + 3) - 48))), (4, .int (nI (tb (p + 2) - 48))), (3, .int (nI (tb (p + 1) - 48))), (2, .int (nI (tb p - 48))), (0, .ref (q.2.2 0)), (1, .int (nI i))]) rfl ?_
      refine g_iload hC (gDec_at DX7_readPlace_0 44 rfl) rfl ?_
      refine g_bipush hC (gDec_at DX7_readPlace_0 45 rfl) (v := -9) (by decide) ?_
      refine g_icmp_ne hC (gDec_at DX7_readPlace_0 46 rfl) 92 (by decide) (fun h => ?_) (fun h => absurd h (nI_n9 (by omega)))
      refine g_aload_n hC (gDec_at DX7_readPlace_0 49 rfl) rfl ?_
      refine g_get (w := wM q) hC 0 (v := .ref (q.2.2 8)) fl_X7_38 (show 0 < 17 from by decide) rfl rfl (gDec_at DX7_readPlace_0 50 rfl) ?_
      refine g_iload_n hC (gDec_at DX7_readPlace_0 51 rfl) rfl ?_
      refine g_iload_n hC (gDec_at DX7_readPlace_0 52 rfl) rfl ?_
      refine g_iast (w := wM q) hC 8 0 i (show 8 < 17 from by decide) rfl rfl rfl (by omega) (by decide) (gDec_at DX7_readPlace_0 53 rfl) ?_
      refine g_aload_n hC (gDec_at DX7_readPlace_0 54 rfl) rfl ?_
      refine g_get (w := wM q) hC 0 (v := .ref (q.2.2 9)) fl_X7_41 (show 0 < 17 from by decide) rfl rfl (gDec_at DX7_readPlace_0 55 rfl) ?_
      refine g_iload_n hC (gDec_at DX7_readPlace_0 56 rfl) rfl ?_
      refine g_bipush hC (gDec_at DX7_readPlace_0 57 rfl) (v := nI 10) (by decide) ?_
      refine g_iload_n hC (gDec_at DX7_readPlace_0 58 rfl) rfl ?_
      refine g_imulN hC (gDec_at DX7_readPlace_0 59 rfl) ?_
      refine g_iload hC (gDec_at DX7_readPlace_0 60 rfl) rfl ?_
      refine g_iaddN hC (gDec_at DX7_readPlace_0 61 rfl) ?_
      refine g_iast (w := wM q) hC 9 0 i (show 9 < 17 from by decide) rfl rfl rfl (by omega) (by decide) (gDec_at DX7_readPlace_0 62 rfl) ?_
      refine g_aload_n hC (gDec_at DX7_readPlace_0 63 rfl) rfl ?_
      refine g_get (w := wM q) hC 0 (v := .ref (q.2.2 10)) fl_X7_44 (show 0 < 17 from by decide) rfl rfl (gDec_at DX7_readPlace_1 0 rfl) ?_
      refine g_iload_n hC (gDec_at DX7_readPlace_1 1 rfl) rfl ?_
      refine g_iload hC (gDec_at DX7_readPlace_1 2 rfl) rfl ?_
      refine g_iast (w := wM q) hC 10 0 i (show 10 < 17 from by decide) rfl rfl rfl (by omega) (by decide) (gDec_at DX7_readPlace_1 3 rfl) ?_
      refine g_iconst hC (gDec_at DX7_readPlace_1 4 rfl) (v := nI 1) (by decide) ?_
      refine g_zret hC (Or.inr rfl) (gDec_at DX7_readPlace_1 5 rfl) ?_
      exact ⟨rfl, rfl⟩
    · skip
      omega
