/-! THE REFERENCE: a bow weighed, a scrape laid -/
/-- the reference's best so far T; tk scrapes laid at the places wy -/
def tS (M : gM) (tk : Nat) (wy : Nat → Nat) (T : gT) : Prop := M.1 0 19 = bk T.1 ∧ M.1 0 20 = nI T.2.1 ∧ T.1 ≤ 1001 ∧ T.2.1 ≤ 3 ∧ (∀ i, i < tk → M.1 15 i = nI (wy i) ∧ wy i < 12) ∧ ∀ i, i < T.2.1 → M.1 14 i = nI (T.2.2 i)
def mjd (P f : Nat) (B : gB) (tk : Nat) (wy : Nat → Nat) (T : gT) : gT := if f * sAll B ≤ P ∧ T.1 < sEvn B P (sAll B) + 1 then (sEvn B P (sAll B) + 1, tk, fun i => sTold (wy i)) else T
/-- only the search's own cells changed -/
def mQ (M M' : gM) : Prop := (∀ c, c ≠ 0 → c ≠ 14 → c ≠ 15 → M'.1 c = M.1 c) ∧ ∀ k, k ≠ 19 → k ≠ 20 → M'.1 0 k = M.1 0 k
theorem mQ_rf {M : gM} : mQ M M := ⟨fun _ _ _ _ => rfl, fun _ _ _ => rfl⟩
theorem mQ_tr {M M1 M2 : gM} (h : mQ M M1) (h2 : mQ M1 M2) : mQ M M2 := ⟨fun c a b d => (h2.1 c a b d).trans (h.1 c a b d), fun k a b => (h2.2 k a b).trans (h.2 k a b)⟩
theorem mQ_0 {M M' : gM} (h : mQ M M') {k : Nat} {x : Int32} (hk : k = 19 ∨ k = 20) : mQ M (gupd M' 0 k x) := ⟨fun c h0 h1 h2 => by funext z; rw [gupd_get, if_neg (by omega), h.1 c h0 h1 h2], fun z h3 h12 => by rw [gupd_get, if_neg (by omega), h.2 z h3 h12]⟩
theorem mQ_c {M M' : gM} (h : mQ M M') {c k : Nat} {x : Int32} (hc : c = 14 ∨ c = 15) : mQ M (gupd M' c k x) := ⟨fun d h0 h1 h2 => by funext z; rw [gupd_get, if_neg (by omega), h.1 d h0 h1 h2], fun z h3 h12 => by rw [gupd_get, if_neg (by omega), h.2 z h3 h12]⟩
theorem mI_Q {M M' : gM} {B : gB} (hI : mI M B) (h : mQ M M') : mI M' B := by
  obtain ⟨h0, ⟨h1, h2, h3, h4⟩, hV⟩ := hI
  refine ⟨by rw [h.2 0 (by omega) (by omega)]; exact h0, ⟨by rw [h.2 4 (by omega) (by omega)]; exact h1, by rw [h.2 11 (by omega) (by omega)]; exact h2, ?_, ?_⟩, hV⟩
  · rw [h.1 11 (by omega) (by omega) (by omega)]; exact h3
  · rw [h.1 2 (by omega) (by omega) (by omega), h.1 3 (by omega) (by omega) (by omega), h.1 4 (by omega) (by omega) (by omega), h.1 5 (by omega) (by omega) (by omega), h.1 6 (by omega) (by omega) (by omega), h.1 7 (by omega) (by omega) (by omega)]; exact h4
theorem bk_le {e t : Nat} (he : e ≤ 1000) (ht : t ≤ 1001) : nI e ≤ bk t ↔ e + 1 ≤ t := by
  unfold bk
  by_cases h : t = 0
  · rw [if_pos h, le_I, nI_toInt (by omega), show (-9 : Int32).toInt = -9 by decide]; omega
  · rw [if_neg h, le_I, nI_toInt (by omega), nI_toInt (by omega)]; omega
def wgI (M M1 : gM) (E n : Nat) (wy : Nat → Nat) (i : Nat) : Prop := mQ M M1 ∧ M1.1 0 19 = nI E ∧ M1.1 0 20 = nI n ∧ M1.1 15 = M.1 15 ∧ ∀ k, k < i → M1.1 14 k = nI (sTold (wy k))
theorem wgI_s {M M1 : gM} {E n i : Nat} {wy : Nat → Nat} (h : wgI M M1 E n wy i) : wgI M (gupd M1 14 i (nI (sTold (wy i)))) E n wy (i + 1) := by
  obtain ⟨h1, h2, h3, h4, h5⟩ := h
  refine ⟨mQ_c h1 (by omega), by rw [gupd_get, if_neg (by omega)]; exact h2, by rw [gupd_get, if_neg (by omega)]; exact h3, by funext z; rw [gupd_get, if_neg (by omega), h4], fun k hk => ?_⟩
  rw [gupd_get]
  by_cases e : k = i
  · subst e; rw [if_pos ⟨rfl, rfl⟩]
  · rw [if_neg (fun z => e z.2)]; exact h5 k (by omega)
theorem wgI_e {M M1 : gM} {E n : Nat} {wy : Nat → Nat} {T : gT} (hE : E ≤ 1000) (hn : n ≤ 3) (hT : tS M n wy T) (h : wgI M M1 E n wy n) : tS M1 n wy (E + 1, n, fun i => sTold (wy i)) := by
  obtain ⟨h1, h2, h3, h4, h5⟩ := h
  exact ⟨h2.trans (by unfold bk; rw [if_neg (by omega)]; rfl), h3, show E + 1 ≤ 1001 by omega, hn, by rw [h4]; exact hT.2.2.2.2.1, h5⟩
set_option maxRecDepth 100000 in
set_option maxHeartbeats 4000000 in
theorem c_X7_weigh (q : gQ3) {M : gM} {B : gB} (hI : mI M B) {x f n : Nat} (hx : x ≤ 40) (hf : f ≤ 999) (hn : n ≤ 3) {wy : Nat → Nat} {T : gT} (hT : tS M n wy T) : gCt (wM q) yX7_weigh cX7_weigh 6 none 7 [.ref (q.2.2 0), .int (nI x), .int (nI f), .int (nI n)] M (fun v M' => v = none ∧ tS M' n wy (mjd (sPull B x) f B n wy T) ∧ mQ M M') := by
  refine gMet RX7 (by decide +kernel) rfl (Nat.le_of_ble_eq_true rfl) (fun X hC => ?_)
  have hC : gC X (wM q) cX7_weigh 6 RX7 none 7 := hC
  show gG X (wM q) _ 6 M 0 [(0, .ref (q.2.2 0)), (1, .int (nI x)), (2, .int (nI f)), (3, .int (nI n))] []
  have hm := bv_many hI.2.2
  have hev := sEvn_le (B := B) hm.1 (sPull B x) (sAll B)
  have hT1 := hT.2.2.1
  refine g_aload_n hC (gDec_at DX7_weigh_0 0 rfl) rfl ?_
  refine g_iload_n hC (gDec_at DX7_weigh_0 1 rfl) rfl ?_
  refine g_callVd (w := wM q) hC 0 (c_X7_evenOf q hI (x := x) (by omega)) vf_X7_evenOf ml_X7_174 (by decide) (show 0 < 17 from by decide) rfl rfl rfl rfl rfl (Nat.le_of_ble_eq_true rfl) (gDec_at DX7_weigh_0 2 rfl) ?_
  refine g_istore hC (gDec_at DX7_weigh_0 3 rfl) (by decide) (L' := [(4, .int (nI (sEvn B (sPull B x) (sAll B)))), (0, .ref (q.2.2 0)), (1, .int (nI x)), (2, .int (nI f)), (3, .int (nI n))]) rfl ?_
  refine g_iload hC (gDec_at DX7_weigh_0 4 rfl) rfl ?_
  refine g_aload_n hC (gDec_at DX7_weigh_0 5 rfl) rfl ?_
  refine g_get (w := wM q) hC 0 (v := .int (bk T.1)) fl_X7_181 (show 0 < 17 from by decide) rfl (g_sv hT.1) (gDec_at DX7_weigh_0 6 rfl) ?_
  refine g_icmp_le hC (gDec_at DX7_weigh_0 7 rfl) 68 (by decide) (fun h13 => ?_) (fun h13 => ?_)
  · skip
    have h13n := (bk_le hev hT1).mp h13
    refine g_vret hC (gDec_at DX7_weigh_0 35 rfl) ?_
    exact ⟨rfl, by rw [show mjd (sPull B x) f B n wy T = T from if_neg (fun z => by have z2 := z.2; omega)]; exact hT, mQ_rf⟩
  · skip
    have h13n := mt (bk_le hev hT1).mpr h13
    refine g_aload_n hC (gDec_at DX7_weigh_0 8 rfl) rfl ?_
    refine g_iload_n hC (gDec_at DX7_weigh_0 9 rfl) rfl ?_
    refine g_iload_n hC (gDec_at DX7_weigh_0 10 rfl) rfl ?_
    refine g_callVd (w := wM q) hC 0 (c_X7_isHeavy q hI (x := x) (f := f) (by omega) (by omega)) vf_X7_isHeavy ml_X7_177 (by decide) (show 0 < 17 from by decide) rfl rfl rfl rfl rfl (Nat.le_of_ble_eq_true rfl) (gDec_at DX7_weigh_0 11 rfl) ?_
    refine g_if_eqB hC (gDec_at DX7_weigh_0 12 rfl) 68 (by decide) (fun h22 => ?_) (fun h22 => ?_)
    · skip
      refine g_vret hC (gDec_at DX7_weigh_0 35 rfl) ?_
      exact ⟨rfl, by rw [show mjd (sPull B x) f B n wy T = T from if_neg (fun z => h22 z.1)]; exact hT, mQ_rf⟩
    · skip
      refine g_aload_n hC (gDec_at DX7_weigh_0 13 rfl) rfl ?_
      refine g_iload hC (gDec_at DX7_weigh_0 14 rfl) rfl ?_
      refine g_putI (w := wM q) hC 0 fl_X7_181 fp_7_19 (show 0 < 17 from by decide) rfl (Nat.le_of_ble_eq_true rfl) rfl rfl (gDec_at DX7_weigh_0 15 rfl) ?_
      refine g_aload_n hC (gDec_at DX7_weigh_0 16 rfl) rfl ?_
      refine g_iload_n hC (gDec_at DX7_weigh_0 17 rfl) rfl ?_
      refine g_putI (w := wM q) hC 0 fl_X7_184 fp_7_20 (show 0 < 17 from by decide) rfl (Nat.le_of_ble_eq_true rfl) rfl rfl (gDec_at DX7_weigh_0 18 rfl) ?_
      refine g_iconst hC (gDec_at DX7_weigh_0 19 rfl) (v := nI 0) (by decide) ?_
      refine g_istore hC (gDec_at DX7_weigh_0 20 rfl) (by decide) (L' := [(5, .int (nI 0)), (4, .int (nI (sEvn B (sPull B x) (sAll B)))), (0, .ref (q.2.2 0)), (1, .int (nI x)), (2, .int (nI f)), (3, .int (nI n))]) rfl ?_
      have loop39 : ∀ (fu i : Nat) (M1 : gM), i ≤ n → n - i < fu → wgI M M1 (sEvn B (sPull B x) (sAll B)) n wy i → gG X (wM q) (fun v M' => v = none ∧ tS M' n wy (mjd (sPull B x) f B n wy T) ∧ mQ M M') 6 M1 39 [(0, .ref (q.2.2 0)), (1, .int (nI x)), (2, .int (nI f)), (3, .int (nI n)), (5, .int (nI i))] [] := by
        intro fu; induction fu with
        | zero => intro i M1 h1 h2; omega
        | succ fu ih =>
          intro i M1 hi hfu hw
          refine g_iload hC (gDec_at DX7_weigh_0 21 rfl) rfl ?_
          refine g_iload_n hC (gDec_at DX7_weigh_0 22 rfl) rfl ?_
          refine g_icmp_geN hC (by omega) (by omega) (gDec_at DX7_weigh_0 23 rfl) 68 (by decide) (fun h42 => ?_) (fun h42 => ?_)
          · skip
            have i_n : i = n := by omega
            refine g_vret hC (gDec_at DX7_weigh_0 35 rfl) ?_
            exact ⟨rfl, by rw [show mjd (sPull B x) f B n wy T = _ from if_pos ⟨h22, by omega⟩]; exact wgI_e hev hn hT (i_n ▸ hw), hw.1⟩
          · skip
            refine g_aload_n hC (gDec_at DX7_weigh_0 24 rfl) rfl ?_
            refine g_get (w := wM q) hC 0 (v := .ref (q.2.2 14)) fl_X7_57 (show 0 < 17 from by decide) rfl rfl (gDec_at DX7_weigh_0 25 rfl) ?_
            refine g_iload hC (gDec_at DX7_weigh_0 26 rfl) rfl ?_
            refine g_aload_n hC (gDec_at DX7_weigh_0 27 rfl) rfl ?_
            refine g_get (w := wM q) hC 0 (v := .ref (q.2.2 15)) fl_X7_60 (show 0 < 17 from by decide) rfl rfl (gDec_at DX7_weigh_0 28 rfl) ?_
            refine g_iload hC (gDec_at DX7_weigh_0 29 rfl) rfl ?_
            refine g_iald (w := wM q) hC 15 0 i (x := (nI (wy i))) (show 15 < 17 from by decide) rfl rfl (by omega) (by decide) ((congrFun hw.2.2.2.1 i).trans (hT.2.2.2.2.1 i (by omega)).1) (gDec_at DX7_weigh_0 30 rfl) ?_
            refine g_callSd (w := wM q) hC (c_X7_code q (i := wy i) (hT.2.2.2.2.1 i (by omega)).2) sf_X7_code ml_X7_165 (by decide) rfl rfl (Nat.le_of_ble_eq_true rfl) (gDec_at DX7_weigh_0 31 rfl) ?_
            refine g_iast (w := wM q) hC 14 0 i (show 14 < 17 from by decide) rfl rfl rfl (by omega) (by decide) (gDec_at DX7_weigh_0 32 rfl) ?_
            refine g_iincN hC (gDec_at DX7_weigh_0 33 rfl) rfl (by decide) (L' := [(5, .int (nI (i + 1))), (0, .ref (q.2.2 0)), (1, .int (nI x)), (2, .int (nI f)), (3, .int (nI n))]) rfl ?_
            refine g_goto hC (gDec_at DX7_weigh_0 34 rfl) 39 (by decide) ?_
            refine g_sub [1, 2, 3, 4, 0] (L' := [(0, .ref (q.2.2 0)), (1, .int (nI x)), (2, .int (nI f)), (3, .int (nI n)), (5, .int (nI (i + 1)))]) rfl ?_
            have h9 := ih (i + 1) _ (by omega) (by omega) (wgI_s hw)
            exact h9
      exact g_sub [2, 3, 4, 5, 0] rfl (loop39 (n + 1 - 0) 0 _ (by omega) (by omega) ⟨mQ_0 (mQ_0 mQ_rf (by omega)) (by omega), by rw [gupd_get, if_neg (by omega), gupd_get, if_pos ⟨rfl, rfl⟩], by rw [gupd_get, if_pos ⟨rfl, rfl⟩], by funext z; rw [gupd_get, if_neg (by omega), gupd_get, if_neg (by omega)], fun k hk => absurd hk (Nat.not_lt_zero k)⟩)

set_option maxRecDepth 100000 in
set_option maxHeartbeats 4000000 in
theorem c_X7_lay_no (q : gQ3) {M : gM} {B : gB} (hI : mI M B) {i n : Nat} (hi : i < 12) (hl : ¬ (i % 6 < B 9 0 ∧ 4 < B 1 i)) : gCt (wM q) yX7_lay cX7_lay 3 (some .boolean) 1 [.ref (q.2.2 0), .int (nI i), .int (nI n)] M (gR (some (.int (nI 0))) M) := by
  refine gMet RX7 (by decide +kernel) rfl (Nat.le_of_ble_eq_true rfl) (fun X hC => ?_)
  have hC : gC X (wM q) cX7_lay 3 RX7 (some .boolean) 1 := hC
  show gG X (wM q) _ 3 M 0 [(0, .ref (q.2.2 0)), (1, .int (nI i)), (2, .int (nI n))] []
  refine g_aload_n hC (gDec_at DX7_lay_0 0 rfl) rfl ?_
  refine g_iload_n hC (gDec_at DX7_lay_0 1 rfl) rfl ?_
  refine g_callVd (w := wM q) hC 0 (c_X7_isThere q hI (i := i) (by omega)) vf_X7_isThere ml_X7_128 (by decide) (show 0 < 17 from by decide) rfl rfl rfl rfl rfl (Nat.le_of_ble_eq_true rfl) (gDec_at DX7_lay_0 2 rfl) ?_
  refine g_if_eqB hC (gDec_at DX7_lay_0 3 rfl) 18 (by decide) (fun h5 => ?_) (fun h5 => ?_)
  · skip
    refine g_iconst hC (gDec_at DX7_lay_0 10 rfl) (v := nI 0) (by decide) ?_
    refine g_zret hC (Or.inl rfl) (gDec_at DX7_lay_0 11 rfl) ?_
    exact ⟨rfl, rfl⟩
  · skip
    have h1 := bv_f1 hI.2.2 hi h5
    refine g_aload_n hC (gDec_at DX7_lay_0 4 rfl) rfl ?_
    refine g_get (w := wM q) hC 0 (v := .ref (q.2.2 3)) fl_X7_20 (show 0 < 17 from by decide) rfl rfl (gDec_at DX7_lay_0 5 rfl) ?_
    refine g_iload_n hC (gDec_at DX7_lay_0 6 rfl) rfl ?_
    refine g_iald (w := wM q) hC 3 0 i (x := (nI (B 1 i))) (show 3 < 17 from by decide) rfl rfl (by omega) (by decide) (mi_f1 hI (by omega) (by omega)) (gDec_at DX7_lay_0 7 rfl) ?_
    refine g_iconst hC (gDec_at DX7_lay_0 8 rfl) (v := nI 5) (by decide) ?_
    refine g_icmp_geN hC (by omega) (by omega) (gDec_at DX7_lay_0 9 rfl) 20 (by decide) (fun h15 => ?_) (fun h15 => ?_)
    · skip
      exact absurd ⟨h5, by omega⟩ hl
    · skip
      refine g_iconst hC (gDec_at DX7_lay_0 10 rfl) (v := nI 0) (by decide) ?_
      refine g_zret hC (Or.inl rfl) (gDec_at DX7_lay_0 11 rfl) ?_
      exact ⟨rfl, rfl⟩

set_option maxRecDepth 100000 in
set_option maxHeartbeats 4000000 in
theorem c_X7_lay_ok (q : gQ3) {M : gM} {B : gB} (hI : mI M B) {i n : Nat} (hi : i < 12) (hn : n < 3) (hl : i % 6 < B 9 0 ∧ 4 < B 1 i) : gCt (wM q) yX7_lay cX7_lay 3 (some .boolean) 1 [.ref (q.2.2 0), .int (nI i), .int (nI n)] M (gR (some (.int (nI 1))) (gupd (gupd M 3 i (nI (B 1 i - 1))) 15 n (nI i))) := by
  refine gMet RX7 (by decide +kernel) rfl (Nat.le_of_ble_eq_true rfl) (fun X hC => ?_)
  have hC : gC X (wM q) cX7_lay 3 RX7 (some .boolean) 1 := hC
  show gG X (wM q) _ 3 M 0 [(0, .ref (q.2.2 0)), (1, .int (nI i)), (2, .int (nI n))] []
  have hl1 := hl.1
  have h1 := bv_f1 hI.2.2 hi hl1
  refine g_aload_n hC (gDec_at DX7_lay_0 0 rfl) rfl ?_
  refine g_iload_n hC (gDec_at DX7_lay_0 1 rfl) rfl ?_
  refine g_callVd (w := wM q) hC 0 (c_X7_isThere q hI (i := i) (by omega)) vf_X7_isThere ml_X7_128 (by decide) (show 0 < 17 from by decide) rfl rfl rfl rfl rfl (Nat.le_of_ble_eq_true rfl) (gDec_at DX7_lay_0 2 rfl) ?_
  refine g_if_eqB hC (gDec_at DX7_lay_0 3 rfl) 18 (by decide) (fun h5 => ?_) (fun h5 => ?_)
  · skip
    exact absurd hl.1 h5
  · skip
    refine g_aload_n hC (gDec_at DX7_lay_0 4 rfl) rfl ?_
    refine g_get (w := wM q) hC 0 (v := .ref (q.2.2 3)) fl_X7_20 (show 0 < 17 from by decide) rfl rfl (gDec_at DX7_lay_0 5 rfl) ?_
    refine g_iload_n hC (gDec_at DX7_lay_0 6 rfl) rfl ?_
    refine g_iald (w := wM q) hC 3 0 i (x := (nI (B 1 i))) (show 3 < 17 from by decide) rfl rfl (by omega) (by decide) (mi_f1 hI (by omega) (by omega)) (gDec_at DX7_lay_0 7 rfl) ?_
    refine g_iconst hC (gDec_at DX7_lay_0 8 rfl) (v := nI 5) (by decide) ?_
    refine g_icmp_geN hC (by omega) (by omega) (gDec_at DX7_lay_0 9 rfl) 20 (by decide) (fun h15 => ?_) (fun h15 => ?_)
    · skip
      refine g_aload_n hC (gDec_at DX7_lay_0 12 rfl) rfl ?_
      refine g_get (w := wM q) hC 0 (v := .ref (q.2.2 3)) fl_X7_20 (show 0 < 17 from by decide) rfl rfl (gDec_at DX7_lay_0 13 rfl) ?_
      refine g_iload_n hC (gDec_at DX7_lay_0 14 rfl) rfl ?_
      refine g_dup2 hC (gDec_at DX7_lay_0 15 rfl) rfl rfl ?_
      refine g_iald (w := wM q) hC 3 0 i (x := (nI (B 1 i))) (show 3 < 17 from by decide) rfl rfl (by omega) (by decide) (mi_f1 hI (by omega) (by omega)) (gDec_at DX7_lay_0 16 rfl) ?_
      refine g_iconst hC (gDec_at DX7_lay_0 17 rfl) (v := nI 1) (by decide) ?_
      refine g_isubN hC (by omega) (gDec_at DX7_lay_0 18 rfl) ?_
      refine g_iast (w := wM q) hC 3 0 i (show 3 < 17 from by decide) rfl rfl rfl (by omega) (by decide) (gDec_at DX7_lay_0 19 rfl) ?_
      refine g_aload_n hC (gDec_at DX7_lay_0 20 rfl) rfl ?_
      refine g_get (w := wM q) hC 0 (v := .ref (q.2.2 15)) fl_X7_60 (show 0 < 17 from by decide) rfl rfl (gDec_at DX7_lay_0 21 rfl) ?_
      refine g_iload_n hC (gDec_at DX7_lay_0 22 rfl) rfl ?_
      refine g_iload_n hC (gDec_at DX7_lay_0 23 rfl) rfl ?_
      refine g_iast (w := wM q) hC 15 0 n (show 15 < 17 from by decide) rfl rfl rfl (by omega) (by decide) (gDec_at DX7_lay_0 24 rfl) ?_
      refine g_iconst hC (gDec_at DX7_lay_0 25 rfl) (v := nI 1) (by decide) ?_
      refine g_zret hC (Or.inr rfl) (gDec_at DX7_lay_0 26 rfl) ?_
      exact ⟨rfl, rfl⟩
    · skip
      exact absurd h15 (by omega)
