/-! THE REFERENCE, the methods that change one thing; slips, good, count -/
/-- only the text changed -/
def mW (M M' : gM) : Prop := (∀ c, c ≠ 0 → c ≠ 1 → M'.1 c = M.1 c) ∧ ∀ k, k ≠ 2 → M'.1 0 k = M.1 0 k
theorem mW_rf {M : gM} : mW M M := ⟨fun _ _ _ => rfl, fun _ _ => rfl⟩
theorem mW_t {M M' : gM} (h : mW M M') {k : Nat} {x : Int32} : mW M (gupd M' 1 k x) := ⟨fun c h0 h1 => by funext z; rw [gupd_get, if_neg (by omega), h.1 c h0 h1], fun z hz => by rw [gupd_get, if_neg (by omega), h.2 z hz]⟩
theorem mW_s {M M' : gM} (h : mW M M') {x : Int32} : mW M (gupd M' 0 2 x) := ⟨fun c h0 h1 => by funext z; rw [gupd_get, if_neg (by omega), h.1 c h0 h1], fun z hz => by rw [gupd_get, if_neg (by omega), h.2 z hz]⟩
theorem mI_W {M M' : gM} {B : gB} (hI : mI M B) (h : mW M M') : mI M' B := by
  obtain ⟨h0, ⟨h1, h2, h3, h4⟩, hV⟩ := hI
  refine ⟨by rw [h.2 0 (by omega)]; exact h0, ⟨by rw [h.2 4 (by omega)]; exact h1, by rw [h.2 11 (by omega)]; exact h2, ?_, ?_⟩, hV⟩
  · rw [h.1 11 (by omega) (by omega)]; exact h3
  · rw [h.1 2 (by omega) (by omega), h.1 3 (by omega) (by omega), h.1 4 (by omega) (by omega), h.1 5 (by omega) (by omega), h.1 6 (by omega) (by omega), h.1 7 (by omega) (by omega)]; exact h4
theorem mT_app {M : gM} {tl : Nat} {tb : Nat → Nat} (hT : mT M tl tb) (h60 : tl < 60) {c : Nat} (hc : c < 256) {tb' : Nat → Nat} (h1 : ∀ i, i < tl → tb' i = tb i) (h2 : tb' tl = c) : mT (gupd (gupd M 1 tl (nI c)) 0 2 (nI (tl + 1))) (tl + 1) tb' := by
  obtain ⟨a, b, d⟩ := hT
  refine ⟨by rw [gupd_get, if_pos ⟨rfl, rfl⟩], by omega, fun i hi => ?_⟩
  rw [gupd_get, if_neg (by omega), gupd_get]
  by_cases e : i = tl
  · subst e; rw [if_pos ⟨rfl, rfl⟩, h2]; exact ⟨rfl, hc⟩
  · rw [if_neg (by omega), h1 i (by omega)]; exact d i (by omega)
theorem bv_ss (x : BitVec 64) {s : Nat} (hs : s ≤ 56) : (x.sshiftRight s).toNat % 256 = x.toNat / 2 ^ s % 256 := by
  have h : (x.sshiftRight s).setWidth 8 = (x >>> s).setWidth 8 := by
    ext i hi
    rw [BitVec.getElem_setWidth, BitVec.getElem_setWidth, BitVec.getLsbD_sshiftRight, BitVec.getLsbD_ushiftRight]
    simp (config := { decide := true }) [show ¬ 64 ≤ i by omega, show s + i < 64 by omega]
  have h2 := congrArg BitVec.toNat h
  rw [BitVec.toNat_setWidth, BitVec.toNat_setWidth, BitVec.toNat_ushiftRight, Nat.shiftRight_eq_div_pow] at h2
  exact h2
theorem low8s (v : Int64) {k : Nat} (hk : k < 8) : (v >>> ((nI (8 * k)).toInt64 &&& 63)).toInt32 &&& nI 255 = nI (byt v k) := by
  rw [low8]
  congr 1
  have e : (v >>> ((nI (8 * k)).toInt64 &&& 63)).toBitVec = v.toBitVec.sshiftRight (8 * k) := by
    rcases (show k = 0 ∨ k = 1 ∨ k = 2 ∨ k = 3 ∨ k = 4 ∨ k = 5 ∨ k = 6 ∨ k = 7 by omega) with rfl | rfl | rfl | rfl | rfl | rfl | rfl | rfl <;> rfl
  show (v >>> ((nI (8 * k)).toInt64 &&& 63)).toBitVec.toNat % 256 = v.toBitVec.toNat / 2 ^ (8 * k) % 256
  rw [e, bv_ss _ (by omega)]
theorem gsm_z {f : Nat → Nat} : ∀ {n : Nat}, (∀ k, k < n → f k = 0) → gsm f n = 0
  | 0, _ => rfl
  | n + 1, h => by rw [gsm_s0 (h n (by omega)), gsm_z (fun k hk => h k (by omega))]
theorem mI_set {M : gM} {B : gB} (h : mI M B) {f j v : Nat} (hf : f < 6) (hV : bV (upB B f j v)) : mI (gupd M (2 + f) j (nI v)) (upB B f j v) := by
  obtain ⟨h0, ⟨h1, h2, h3, h4⟩, -⟩ := h
  have hr : ∀ r j', r ≠ f → upB B f j v r j' = B r j' := fun r j' hr => by unfold upB; rw [if_neg (fun z => hr z.1)]
  refine ⟨by rw [gupd_get, if_neg (by omega)]; exact h0, ⟨?_, ?_, fun k hk => ?_, fun j' hj' ht => ?_⟩, hV⟩
  · rw [gupd_get, if_neg (by omega), hr 9 0 (by omega)]; exact h1
  · rw [gupd_get, if_neg (by omega), hr 9 1 (by omega)]; exact h2
  · rw [gupd_get, gupd_get, gupd_get, if_neg (by omega), if_neg (by omega), if_neg (by omega), hr 6 k (by omega), hr 7 k (by omega), hr 8 k (by omega)]; exact h3 k hk
  · rw [hr 9 0 (by omega)] at ht
    obtain ⟨a0, a1, a2, a3, a4, a5⟩ := h4 j' hj' ht
    have key : ∀ r, r < 6 → M.1 (2 + r) j' = nI (B r j') → (gupd M (2 + f) j (nI v)).1 (2 + r) j' = nI (upB B f j v r j') := fun r _ hx => by
      rw [gupd_get]
      unfold upB
      by_cases e : r = f ∧ j' = j
      · rw [if_pos (by omega), if_pos e]
      · rw [if_neg (by omega), if_neg e]; exact hx
    exact ⟨key 0 (by omega) a0, key 1 (by omega) a1, key 2 (by omega) a2, key 3 (by omega) a3, key 4 (by omega) a4, key 5 (by omega) a5⟩
set_option maxRecDepth 100000 in
set_option maxHeartbeats 4000000 in
theorem c_X7_write_badn (q : gQ3) {M : gM} {B : gB} (hI : mI M B) {tl : Nat} {tb : Nat → Nat} (hT : mT M tl tb) {n : Int32} (hn : ¬ gin n 1 8) {v : Int64} : gCt (wM q) yX7_write cX7_write 5 (some .int) 8 [.ref (q.2.2 0), .int n, .long v] M (gR (some (.int (-2))) M) := by
  refine gMet RX7 (by decide +kernel) rfl (Nat.le_of_ble_eq_true rfl) (fun X hC => ?_)
  have hC : gC X (wM q) cX7_write 5 RX7 (some .int) 8 := hC
  show gG X (wM q) _ 5 M 0 [(0, .ref (q.2.2 0)), (1, .int n), (2, .long v)] []
  refine g_aload_n hC (gDec_at DX7_write_0 0 rfl) rfl ?_
  refine g_iconst hC (gDec_at DX7_write_0 1 rfl) (v := nI 0) (by decide) ?_
  refine g_putI (w := wM q) hC 0 fl_X7_67 fp_7_0 (show 0 < 17 from by decide) rfl (Nat.le_of_ble_eq_true rfl) rfl rfl (gDec_at DX7_write_0 2 rfl) ?_
  refine g_M (mi_0 hI) ?_
  refine g_iload_n hC (gDec_at DX7_write_0 3 rfl) rfl ?_
  refine g_i2l hC (gDec_at DX7_write_0 4 rfl) rfl ?_
  refine g_lconst hC (gDec_at DX7_write_0 5 rfl) (v := lN 1) (by decide) ?_
  refine g_ldc2 hC cl_X7_78 (v' := lN 8) (by decide) (gDec_at DX7_write_0 6 rfl) ?_
  refine g_callSd (w := wM q) hC (c_X7_in_no q (by omega) (by omega) hn) sf_X7_in ml_X7_72 (by decide) rfl rfl (Nat.le_of_ble_eq_true rfl) (gDec_at DX7_write_0 7 rfl) ?_
  refine g_if_neN hC (by decide) (gDec_at DX7_write_0 8 rfl) 20 (by decide) (fun h => absurd h (by decide)) (fun h => ?_)
  refine g_bipush hC (gDec_at DX7_write_0 9 rfl) (v := -2) (by decide) ?_
  refine g_iret hC (gDec_at DX7_write_0 10 rfl) ?_
  exact ⟨rfl, rfl⟩

set_option maxRecDepth 100000 in
set_option maxHeartbeats 4000000 in
theorem c_X7_write_full (q : gQ3) {M : gM} {B : gB} (hI : mI M B) {tl : Nat} {tb : Nat → Nat} (hT : mT M tl tb) {n : Nat} (hna : 1 ≤ n) (hnb : n ≤ 8) {v : Int64} (hf : 60 < tl + n) : gCt (wM q) yX7_write cX7_write 5 (some .int) 8 [.ref (q.2.2 0), .int (nI n), .long v] M (gR (some (.int (-4))) M) := by
  refine gMet RX7 (by decide +kernel) rfl (Nat.le_of_ble_eq_true rfl) (fun X hC => ?_)
  have hC : gC X (wM q) cX7_write 5 RX7 (some .int) 8 := hC
  show gG X (wM q) _ 5 M 0 [(0, .ref (q.2.2 0)), (1, .int (nI n)), (2, .long v)] []
  have ht := hT.2.1
  refine g_aload_n hC (gDec_at DX7_write_0 0 rfl) rfl ?_
  refine g_iconst hC (gDec_at DX7_write_0 1 rfl) (v := nI 0) (by decide) ?_
  refine g_putI (w := wM q) hC 0 fl_X7_67 fp_7_0 (show 0 < 17 from by decide) rfl (Nat.le_of_ble_eq_true rfl) rfl rfl (gDec_at DX7_write_0 2 rfl) ?_
  refine g_M (mi_0 hI) ?_
  refine g_iload_n hC (gDec_at DX7_write_0 3 rfl) rfl ?_
  refine g_i2lN hC (by omega) (gDec_at DX7_write_0 4 rfl) ?_
  refine g_lconst hC (gDec_at DX7_write_0 5 rfl) (v := lN 1) (by decide) ?_
  refine g_ldc2 hC cl_X7_78 (v' := lN 8) (by decide) (gDec_at DX7_write_0 6 rfl) ?_
  refine g_callSd (w := wM q) hC (c_X7_in_yes q (v := n) (a := 1) (b := 8) (by omega) (by omega) (by omega)) sf_X7_in ml_X7_72 (by decide) rfl rfl (Nat.le_of_ble_eq_true rfl) (gDec_at DX7_write_0 7 rfl) ?_
  refine g_if_neN hC (by decide) (gDec_at DX7_write_0 8 rfl) 20 (by decide) (fun h => ?_) (fun h => absurd h (by decide))
  refine g_aload_n hC (gDec_at DX7_write_0 11 rfl) rfl ?_
  refine g_get (w := wM q) hC 0 (v := .int (nI tl)) fl_X7_80 (show 0 < 17 from by decide) rfl (g_sv hT.1) (gDec_at DX7_write_0 12 rfl) ?_
  refine g_iload_n hC (gDec_at DX7_write_0 13 rfl) rfl ?_
  refine g_iaddN hC (gDec_at DX7_write_0 14 rfl) ?_
  refine g_bipush hC (gDec_at DX7_write_0 15 rfl) (v := nI 60) (by decide) ?_
  refine g_icmp_leN hC (by omega) (by omega) (gDec_at DX7_write_0 16 rfl) 34 (by decide) (fun h28 => ?_) (fun h28 => ?_)
  · skip
    exact absurd hf (by omega)
  · skip
    refine g_bipush hC (gDec_at DX7_write_0 17 rfl) (v := -4) (by decide) ?_
    refine g_iret hC (gDec_at DX7_write_0 18 rfl) ?_
    exact ⟨rfl, rfl⟩

set_option maxRecDepth 100000 in
set_option maxHeartbeats 4000000 in
theorem c_X7_write_ok (q : gQ3) {M : gM} {B : gB} (hI : mI M B) {tl : Nat} {tb : Nat → Nat} (hT : mT M tl tb) {n : Nat} (hna : 1 ≤ n) (hnb : n ≤ 8) {v : Int64} (hf : tl + n ≤ 60) : gCt (wM q) yX7_write cX7_write 5 (some .int) 8 [.ref (q.2.2 0), .int (nI n), .long v] M (fun r M' => r = some (.int (nI (tl + n))) ∧ mT M' (tl + n) (apT tb tl n n v) ∧ mW M M') := by
  refine gMet RX7 (by decide +kernel) rfl (Nat.le_of_ble_eq_true rfl) (fun X hC => ?_)
  have hC : gC X (wM q) cX7_write 5 RX7 (some .int) 8 := hC
  show gG X (wM q) _ 5 M 0 [(0, .ref (q.2.2 0)), (1, .int (nI n)), (2, .long v)] []
  have ht := hT.2.1
  refine g_aload_n hC (gDec_at DX7_write_0 0 rfl) rfl ?_
  refine g_iconst hC (gDec_at DX7_write_0 1 rfl) (v := nI 0) (by decide) ?_
  refine g_putI (w := wM q) hC 0 fl_X7_67 fp_7_0 (show 0 < 17 from by decide) rfl (Nat.le_of_ble_eq_true rfl) rfl rfl (gDec_at DX7_write_0 2 rfl) ?_
  refine g_M (mi_0 hI) ?_
  refine g_iload_n hC (gDec_at DX7_write_0 3 rfl) rfl ?_
  refine g_i2lN hC (by omega) (gDec_at DX7_write_0 4 rfl) ?_
  refine g_lconst hC (gDec_at DX7_write_0 5 rfl) (v := lN 1) (by decide) ?_
  refine g_ldc2 hC cl_X7_78 (v' := lN 8) (by decide) (gDec_at DX7_write_0 6 rfl) ?_
  refine g_callSd (w := wM q) hC (c_X7_in_yes q (v := n) (a := 1) (b := 8) (by omega) (by omega) (by omega)) sf_X7_in ml_X7_72 (by decide) rfl rfl (Nat.le_of_ble_eq_true rfl) (gDec_at DX7_write_0 7 rfl) ?_
  refine g_if_neN hC (by decide) (gDec_at DX7_write_0 8 rfl) 20 (by decide) (fun h => ?_) (fun h => absurd h (by decide))
  refine g_aload_n hC (gDec_at DX7_write_0 11 rfl) rfl ?_
  refine g_get (w := wM q) hC 0 (v := .int (nI tl)) fl_X7_80 (show 0 < 17 from by decide) rfl (g_sv hT.1) (gDec_at DX7_write_0 12 rfl) ?_
  refine g_iload_n hC (gDec_at DX7_write_0 13 rfl) rfl ?_
  refine g_iaddN hC (gDec_at DX7_write_0 14 rfl) ?_
  refine g_bipush hC (gDec_at DX7_write_0 15 rfl) (v := nI 60) (by decide) ?_
  refine g_icmp_leN hC (by omega) (by omega) (gDec_at DX7_write_0 16 rfl) 34 (by decide) (fun h28 => ?_) (fun h28 => ?_)
  · skip
    refine g_iload_n hC (gDec_at DX7_write_0 19 rfl) rfl ?_
    refine g_iconst hC (gDec_at DX7_write_0 20 rfl) (v := nI 1) (by decide) ?_
    refine g_isub hC (gDec_at DX7_write_0 21 rfl) (v := (nI n - 1)) rfl ?_
    refine g_istore hC (gDec_at DX7_write_0 22 rfl) (by decide) (L' := [(4, .int (nI n - 1)), (0, .ref (q.2.2 0)), (1, .int (nI n)), (2, .long v)]) rfl ?_
    have loop39 : ∀ (fu i : Nat) (M1 : gM), i ≤ n → n - i < fu → mT M1 (tl + i) (apT tb tl n i v) → mW M M1 → gG X (wM q) (fun r M' => r = some (.int (nI (tl + n))) ∧ mT M' (tl + n) (apT tb tl n n v) ∧ mW M M') 5 M1 39 [(0, .ref (q.2.2 0)), (1, .int (nI n)), (2, .long v), (4, .int (nI (n - i) - 1))] [] := by
      intro fu; induction fu with
      | zero => intro i M1 h1 h2; omega
      | succ fu ih =>
        intro i M1 hi hfu hT1 hs1
        refine g_iload hC (gDec_at DX7_write_0 23 rfl) rfl ?_
        refine g_if_lt hC (gDec_at DX7_write_0 24 rfl) 81 (by decide) (fun h41 => ?_) (fun h41 => ?_)
        · skip
          obtain rfl : n = i := by have := (nI_m1_lt (by omega)).mp h41; omega
          refine g_aload_n hC (gDec_at DX7_write_0 46 rfl) rfl ?_
          refine g_get (w := wM q) hC 0 (v := .int (nI (tl + n))) fl_X7_80 (show 0 < 17 from by decide) rfl (g_sv hT1.1) (gDec_at DX7_write_0 47 rfl) ?_
          refine g_iret hC (gDec_at DX7_write_0 48 rfl) ?_
          exact ⟨rfl, hT1, hs1⟩
        · skip
          have hin : i < n := by rcases Nat.lt_or_ge i n with z | z; exact z; exact absurd ((nI_m1_lt (by omega)).mpr (by omega)) h41
          rw [nI_dec (show 1 ≤ n - i from by omega)]
          refine g_aload_n hC (gDec_at DX7_write_0 25 rfl) rfl ?_
          refine g_get (w := wM q) hC 0 (v := .ref (q.2.2 1)) fl_X7_7 (show 0 < 17 from by decide) rfl rfl (gDec_at DX7_write_0 26 rfl) ?_
          refine g_aload_n hC (gDec_at DX7_write_0 27 rfl) rfl ?_
          refine g_get (w := wM q) hC 0 (v := .int (nI (tl + i))) fl_X7_80 (show 0 < 17 from by decide) rfl (g_sv hT1.1) (gDec_at DX7_write_0 28 rfl) ?_
          refine g_lload_n hC (gDec_at DX7_write_0 29 rfl) rfl ?_
          refine g_bipush hC (gDec_at DX7_write_0 30 rfl) (v := nI 8) (by decide) ?_
          refine g_iload hC (gDec_at DX7_write_0 31 rfl) rfl ?_
          refine g_imulN hC (gDec_at DX7_write_0 32 rfl) ?_
          refine g_lshr hC (gDec_at DX7_write_0 33 rfl) (v := (v >>> ((nI (8 * (n - i - 1))).toInt64 &&& 63))) rfl ?_
          refine g_l2i hC (gDec_at DX7_write_0 34 rfl) rfl ?_
          refine g_sipush hC (gDec_at DX7_write_0 35 rfl) (v := nI 255) (by decide) ?_
          refine g_iand hC (gDec_at DX7_write_0 36 rfl) (v := (nI (byt v (n - i - 1)))) (low8s v (by omega)) ?_
          refine g_iast (w := wM q) hC 1 0 (tl + i) (show 1 < 17 from by decide) rfl rfl rfl (by omega) (by decide) (gDec_at DX7_write_0 37 rfl) ?_
          refine g_aload_n hC (gDec_at DX7_write_0 38 rfl) rfl ?_
          refine g_dup hC (gDec_at DX7_write_0 39 rfl) rfl ?_
          refine g_get (w := wM q) hC 0 (v := .int (nI (tl + i))) fl_X7_80 (show 0 < 17 from by decide) rfl (g_sv (by rw [gupd_get, if_neg (by omega)]; exact hT1.1)) (gDec_at DX7_write_0 40 rfl) ?_
          refine g_iconst hC (gDec_at DX7_write_0 41 rfl) (v := nI 1) (by decide) ?_
          refine g_iaddN hC (gDec_at DX7_write_0 42 rfl) ?_
          refine g_putI (w := wM q) hC 0 fl_X7_80 fp_7_2 (show 0 < 17 from by decide) rfl (Nat.le_of_ble_eq_true rfl) rfl rfl (gDec_at DX7_write_0 43 rfl) ?_
          refine g_iinc hC (gDec_at DX7_write_0 44 rfl) rfl (v := (nI (n - (i + 1)) - 1)) ((nI_d1 _).trans (congrArg (fun z => nI z - 1) (Nat.sub_sub n i 1))) (by decide) (L' := [(4, .int (nI (n - (i + 1)) - 1)), (0, .ref (q.2.2 0)), (1, .int (nI n)), (2, .long v)]) rfl ?_
          refine g_goto hC (gDec_at DX7_write_0 45 rfl) 39 (by decide) ?_
          refine g_sub [1, 2, 3, 0] (L' := [(0, .ref (q.2.2 0)), (1, .int (nI n)), (2, .long v), (4, .int (nI (n - (i + 1)) - 1))]) rfl ?_
          have h9 := ih (i + 1) _ (by omega) (by omega) (mT_app hT1 (by omega) (byt_lt v _) (fun j hj => by unfold apT; by_cases z : tl ≤ j; rw [if_pos ⟨z, by omega⟩, if_pos ⟨z, by omega⟩]; rw [if_neg (by omega), if_neg (by omega)]) (by unfold apT; rw [if_pos ⟨by omega, by omega⟩, show n - 1 - (tl + i - tl) = n - i - 1 by omega])) (mW_s (mW_t hs1))
          exact h9
    exact g_sub [1, 2, 3, 0] rfl (loop39 (n + 1 - 0) 0 M (by omega) (by omega) (by rw [apT_0]; exact hT) mW_rf)
  · skip
    exact absurd hf (by omega)

set_option maxRecDepth 100000 in
set_option maxHeartbeats 4000000 in
theorem c_X7_wipe_ok (q : gQ3) {M : gM} {B : gB} (hI : mI M B) {tl : Nat} {tb : Nat → Nat} (hT : mT M tl tb) : gCt (wM q) yX7_wipe cX7_wipe 2 (some .int) 8 [.ref (q.2.2 0)] M (gR (some (.int (nI tl))) (gupd M 0 2 (nI 0))) := by
  refine gMet RX7 (by decide +kernel) rfl (Nat.le_of_ble_eq_true rfl) (fun X hC => ?_)
  have hC : gC X (wM q) cX7_wipe 2 RX7 (some .int) 8 := hC
  show gG X (wM q) _ 2 M 0 [(0, .ref (q.2.2 0))] []
  refine g_aload_n hC (gDec_at DX7_wipe_0 0 rfl) rfl ?_
  refine g_iconst hC (gDec_at DX7_wipe_0 1 rfl) (v := nI 0) (by decide) ?_
  refine g_putI (w := wM q) hC 0 fl_X7_67 fp_7_0 (show 0 < 17 from by decide) rfl (Nat.le_of_ble_eq_true rfl) rfl rfl (gDec_at DX7_wipe_0 2 rfl) ?_
  refine g_M (mi_0 hI) ?_
  refine g_aload_n hC (gDec_at DX7_wipe_0 3 rfl) rfl ?_
  refine g_get (w := wM q) hC 0 (v := .int (nI tl)) fl_X7_80 (show 0 < 17 from by decide) rfl (g_sv hT.1) (gDec_at DX7_wipe_0 4 rfl) ?_
  refine g_istore_n hC (gDec_at DX7_wipe_0 5 rfl) (by decide) (L' := [(1, .int (nI tl)), (0, .ref (q.2.2 0))]) rfl ?_
  refine g_aload_n hC (gDec_at DX7_wipe_0 6 rfl) rfl ?_
  refine g_iconst hC (gDec_at DX7_wipe_0 7 rfl) (v := nI 0) (by decide) ?_
  refine g_putI (w := wM q) hC 0 fl_X7_80 fp_7_2 (show 0 < 17 from by decide) rfl (Nat.le_of_ble_eq_true rfl) rfl rfl (gDec_at DX7_wipe_0 8 rfl) ?_
  refine g_iload_n hC (gDec_at DX7_wipe_0 9 rfl) rfl ?_
  refine g_iret hC (gDec_at DX7_wipe_0 10 rfl) ?_
  exact ⟨rfl, rfl⟩

set_option maxRecDepth 100000 in
set_option maxHeartbeats 4000000 in
theorem c_X7_broken_ok (q : gQ3) {M : gM} {B : gB} (hI : mI M B) : gCt (wM q) yX7_broken cX7_broken 1 (some .int) 8 [.ref (q.2.2 0)] M (gR (some (.int (bk (B 9 1)))) M) := by
  refine gMet RX7 (by decide +kernel) rfl (Nat.le_of_ble_eq_true rfl) (fun X hC => ?_)
  have hC : gC X (wM q) cX7_broken 1 RX7 (some .int) 8 := hC
  show gG X (wM q) _ 1 M 0 [(0, .ref (q.2.2 0))] []
  refine g_aload_n hC (gDec_at DX7_broken_0 0 rfl) rfl ?_
  refine g_iconst hC (gDec_at DX7_broken_0 1 rfl) (v := nI 0) (by decide) ?_
  refine g_putI (w := wM q) hC 0 fl_X7_67 fp_7_0 (show 0 < 17 from by decide) rfl (Nat.le_of_ble_eq_true rfl) rfl rfl (gDec_at DX7_broken_0 2 rfl) ?_
  refine g_M (mi_0 hI) ?_
  refine g_aload_n hC (gDec_at DX7_broken_0 3 rfl) rfl ?_
  refine g_get (w := wM q) hC 0 (v := .int (bk (B 9 1))) fl_X7_35 (show 0 < 17 from by decide) rfl (g_sv (mi_brk hI)) (gDec_at DX7_broken_0 4 rfl) ?_
  refine g_iret hC (gDec_at DX7_broken_0 5 rfl) ?_
  exact ⟨rfl, rfl⟩

set_option maxRecDepth 100000 in
set_option maxHeartbeats 4000000 in
theorem c_X7_scrape_out (q : gQ3) {M : gM} {B : gB} (hI : mI M B) {x0 : Int32} (hx0 : ¬ isPl B x0) {s : Int32} : gCt (wM q) yX7_scrape cX7_scrape 3 (some .int) 8 [.ref (q.2.2 0), .int x0, .int s] M (gR (some (.int (-1))) M) := by
  refine gMet RX7 (by decide +kernel) rfl (Nat.le_of_ble_eq_true rfl) (fun X hC => ?_)
  have hC : gC X (wM q) cX7_scrape 3 RX7 (some .int) 8 := hC
  show gG X (wM q) _ 3 M 0 [(0, .ref (q.2.2 0)), (1, .int x0), (2, .int s)] []
  refine g_aload_n hC (gDec_at DX7_scrape_0 0 rfl) rfl ?_
  refine g_iconst hC (gDec_at DX7_scrape_0 1 rfl) (v := nI 0) (by decide) ?_
  refine g_putI (w := wM q) hC 0 fl_X7_67 fp_7_0 (show 0 < 17 from by decide) rfl (Nat.le_of_ble_eq_true rfl) rfl rfl (gDec_at DX7_scrape_0 2 rfl) ?_
  refine g_M (mi_0 hI) ?_
  refine g_aload_n hC (gDec_at DX7_scrape_0 3 rfl) rfl ?_
  refine g_iload_n hC (gDec_at DX7_scrape_0 4 rfl) rfl ?_
  refine g_callVd (w := wM q) hC 0 (c_X7_noPlace_out q hI hx0) vf_X7_noPlace ml_X7_108 (by decide) (show 0 < 17 from by decide) rfl rfl rfl rfl rfl (Nat.le_of_ble_eq_true rfl) (gDec_at DX7_scrape_0 5 rfl) ?_
  refine g_if_eqN hC (by decide) (gDec_at DX7_scrape_0 6 rfl) 15 (by decide) (fun h => absurd h (by decide)) (fun h => ?_)
  refine g_iconst hC (gDec_at DX7_scrape_0 7 rfl) (v := -1) (by decide) ?_
  refine g_iret hC (gDec_at DX7_scrape_0 8 rfl) ?_
  exact ⟨rfl, rfl⟩

set_option maxRecDepth 100000 in
set_option maxHeartbeats 4000000 in
theorem c_X7_scrape_bads (q : gQ3) {M : gM} {B : gB} (hI : mI M B) {j : Nat} (hj : j < 12) (ht : j % 6 < B 9 0) {s : Int32} (hs : ¬ gin s 1 9) : gCt (wM q) yX7_scrape cX7_scrape 3 (some .int) 8 [.ref (q.2.2 0), .int (nI (10 * (j / 6) + j % 6)), .int s] M (gR (some (.int (-2))) M) := by
  refine gMet RX7 (by decide +kernel) rfl (Nat.le_of_ble_eq_true rfl) (fun X hC => ?_)
  have hC : gC X (wM q) cX7_scrape 3 RX7 (some .int) 8 := hC
  show gG X (wM q) _ 3 M 0 [(0, .ref (q.2.2 0)), (1, .int (nI (10 * (j / 6) + j % 6))), (2, .int s)] []
  refine g_aload_n hC (gDec_at DX7_scrape_0 0 rfl) rfl ?_
  refine g_iconst hC (gDec_at DX7_scrape_0 1 rfl) (v := nI 0) (by decide) ?_
  refine g_putI (w := wM q) hC 0 fl_X7_67 fp_7_0 (show 0 < 17 from by decide) rfl (Nat.le_of_ble_eq_true rfl) rfl rfl (gDec_at DX7_scrape_0 2 rfl) ?_
  refine g_M (mi_0 hI) ?_
  refine g_aload_n hC (gDec_at DX7_scrape_0 3 rfl) rfl ?_
  refine g_iload_n hC (gDec_at DX7_scrape_0 4 rfl) rfl ?_
  refine g_callVd (w := wM q) hC 0 (c_X7_noPlace_in q hI hj (ht)) vf_X7_noPlace ml_X7_108 (by decide) (show 0 < 17 from by decide) rfl rfl rfl rfl rfl (Nat.le_of_ble_eq_true rfl) (gDec_at DX7_scrape_0 5 rfl) ?_
  refine g_if_eqN hC (by decide) (gDec_at DX7_scrape_0 6 rfl) 15 (by decide) (fun h => ?_) (fun h => absurd h (by decide))
  refine g_iload_n hC (gDec_at DX7_scrape_0 9 rfl) rfl ?_
  refine g_i2l hC (gDec_at DX7_scrape_0 10 rfl) rfl ?_
  refine g_lconst hC (gDec_at DX7_scrape_0 11 rfl) (v := lN 1) (by decide) ?_
  refine g_ldc2 hC cl_X7_104 (v' := lN 9) (by decide) (gDec_at DX7_scrape_0 12 rfl) ?_
  refine g_callSd (w := wM q) hC (c_X7_in_no q (by omega) (by omega) hs) sf_X7_in ml_X7_72 (by decide) rfl rfl (Nat.le_of_ble_eq_true rfl) (gDec_at DX7_scrape_0 13 rfl) ?_
  refine g_if_neN hC (by decide) (gDec_at DX7_scrape_0 14 rfl) 30 (by decide) (fun h => absurd h (by decide)) (fun h => ?_)
  refine g_bipush hC (gDec_at DX7_scrape_0 15 rfl) (v := -2) (by decide) ?_
  refine g_iret hC (gDec_at DX7_scrape_0 16 rfl) ?_
  exact ⟨rfl, rfl⟩

set_option maxRecDepth 100000 in
set_option maxHeartbeats 4000000 in
theorem c_X7_scrape_brk (q : gQ3) {M : gM} {B : gB} (hI : mI M B) {j : Nat} (hj : j < 12) (ht : j % 6 < B 9 0) {s : Nat} (hsa : 1 ≤ s) (hsb : s ≤ 9) (hb1 : 0 < B 9 1) : gCt (wM q) yX7_scrape cX7_scrape 3 (some .int) 8 [.ref (q.2.2 0), .int (nI (10 * (j / 6) + j % 6)), .int (nI s)] M (gR (some (.int (-3))) M) := by
  refine gMet RX7 (by decide +kernel) rfl (Nat.le_of_ble_eq_true rfl) (fun X hC => ?_)
  have hC : gC X (wM q) cX7_scrape 3 RX7 (some .int) 8 := hC
  show gG X (wM q) _ 3 M 0 [(0, .ref (q.2.2 0)), (1, .int (nI (10 * (j / 6) + j % 6))), (2, .int (nI s))] []
  have h16 := hI.2.2.2.2.1
  refine g_aload_n hC (gDec_at DX7_scrape_0 0 rfl) rfl ?_
  refine g_iconst hC (gDec_at DX7_scrape_0 1 rfl) (v := nI 0) (by decide) ?_
  refine g_putI (w := wM q) hC 0 fl_X7_67 fp_7_0 (show 0 < 17 from by decide) rfl (Nat.le_of_ble_eq_true rfl) rfl rfl (gDec_at DX7_scrape_0 2 rfl) ?_
  refine g_M (mi_0 hI) ?_
  refine g_aload_n hC (gDec_at DX7_scrape_0 3 rfl) rfl ?_
  refine g_iload_n hC (gDec_at DX7_scrape_0 4 rfl) rfl ?_
  refine g_callVd (w := wM q) hC 0 (c_X7_noPlace_in q hI hj (ht)) vf_X7_noPlace ml_X7_108 (by decide) (show 0 < 17 from by decide) rfl rfl rfl rfl rfl (Nat.le_of_ble_eq_true rfl) (gDec_at DX7_scrape_0 5 rfl) ?_
  refine g_if_eqN hC (by decide) (gDec_at DX7_scrape_0 6 rfl) 15 (by decide) (fun h => ?_) (fun h => absurd h (by decide))
  refine g_iload_n hC (gDec_at DX7_scrape_0 9 rfl) rfl ?_
  refine g_i2lN hC (by omega) (gDec_at DX7_scrape_0 10 rfl) ?_
  refine g_lconst hC (gDec_at DX7_scrape_0 11 rfl) (v := lN 1) (by decide) ?_
  refine g_ldc2 hC cl_X7_104 (v' := lN 9) (by decide) (gDec_at DX7_scrape_0 12 rfl) ?_
  refine g_callSd (w := wM q) hC (c_X7_in_yes q (v := s) (a := 1) (b := 9) (by omega) (by omega) (by omega)) sf_X7_in ml_X7_72 (by decide) rfl rfl (Nat.le_of_ble_eq_true rfl) (gDec_at DX7_scrape_0 13 rfl) ?_
  refine g_if_neN hC (by decide) (gDec_at DX7_scrape_0 14 rfl) 30 (by decide) (fun h => ?_) (fun h => absurd h (by decide))
  refine g_aload_n hC (gDec_at DX7_scrape_0 17 rfl) rfl ?_
  refine g_get (w := wM q) hC 0 (v := .int (nI (B 9 1 - 1))) fl_X7_35 (show 0 < 17 from by decide) rfl (g_sv ((mi_brk hI).trans (if_neg (by omega)))) (gDec_at DX7_scrape_0 18 rfl) ?_
  refine g_bipush hC (gDec_at DX7_scrape_0 19 rfl) (v := -9) (by decide) ?_
  refine g_icmp_ne hC (gDec_at DX7_scrape_0 20 rfl) 54 (by decide) (fun h => ?_) (fun h => absurd h (nI_n9 (by omega)))
  refine g_bipush hC (gDec_at DX7_scrape_0 30 rfl) (v := -3) (by decide) ?_
  refine g_iret hC (gDec_at DX7_scrape_0 31 rfl) ?_
  exact ⟨rfl, rfl⟩

set_option maxRecDepth 100000 in
set_option maxHeartbeats 4000000 in
theorem c_X7_scrape_less (q : gQ3) {M : gM} {B : gB} (hI : mI M B) {j : Nat} (hj : j < 12) (ht : j % 6 < B 9 0) {s : Nat} (hsa : 1 ≤ s) (hsb : s ≤ 9) (hb0 : B 9 1 = 0) (hl : B 1 j < s + 4) : gCt (wM q) yX7_scrape cX7_scrape 3 (some .int) 8 [.ref (q.2.2 0), .int (nI (10 * (j / 6) + j % 6)), .int (nI s)] M (gR (some (.int (-3))) M) := by
  refine gMet RX7 (by decide +kernel) rfl (Nat.le_of_ble_eq_true rfl) (fun X hC => ?_)
  have hC : gC X (wM q) cX7_scrape 3 RX7 (some .int) 8 := hC
  show gG X (wM q) _ 3 M 0 [(0, .ref (q.2.2 0)), (1, .int (nI (10 * (j / 6) + j % 6))), (2, .int (nI s))] []
  have h1 := bv_f1 hI.2.2 hj ht
  refine g_aload_n hC (gDec_at DX7_scrape_0 0 rfl) rfl ?_
  refine g_iconst hC (gDec_at DX7_scrape_0 1 rfl) (v := nI 0) (by decide) ?_
  refine g_putI (w := wM q) hC 0 fl_X7_67 fp_7_0 (show 0 < 17 from by decide) rfl (Nat.le_of_ble_eq_true rfl) rfl rfl (gDec_at DX7_scrape_0 2 rfl) ?_
  refine g_M (mi_0 hI) ?_
  refine g_aload_n hC (gDec_at DX7_scrape_0 3 rfl) rfl ?_
  refine g_iload_n hC (gDec_at DX7_scrape_0 4 rfl) rfl ?_
  refine g_callVd (w := wM q) hC 0 (c_X7_noPlace_in q hI hj (ht)) vf_X7_noPlace ml_X7_108 (by decide) (show 0 < 17 from by decide) rfl rfl rfl rfl rfl (Nat.le_of_ble_eq_true rfl) (gDec_at DX7_scrape_0 5 rfl) ?_
  refine g_if_eqN hC (by decide) (gDec_at DX7_scrape_0 6 rfl) 15 (by decide) (fun h => ?_) (fun h => absurd h (by decide))
  refine g_iload_n hC (gDec_at DX7_scrape_0 9 rfl) rfl ?_
  refine g_i2lN hC (by omega) (gDec_at DX7_scrape_0 10 rfl) ?_
  refine g_lconst hC (gDec_at DX7_scrape_0 11 rfl) (v := lN 1) (by decide) ?_
  refine g_ldc2 hC cl_X7_104 (v' := lN 9) (by decide) (gDec_at DX7_scrape_0 12 rfl) ?_
  refine g_callSd (w := wM q) hC (c_X7_in_yes q (v := s) (a := 1) (b := 9) (by omega) (by omega) (by omega)) sf_X7_in ml_X7_72 (by decide) rfl rfl (Nat.le_of_ble_eq_true rfl) (gDec_at DX7_scrape_0 13 rfl) ?_
  refine g_if_neN hC (by decide) (gDec_at DX7_scrape_0 14 rfl) 30 (by decide) (fun h => ?_) (fun h => absurd h (by decide))
  refine g_aload_n hC (gDec_at DX7_scrape_0 17 rfl) rfl ?_
  refine g_get (w := wM q) hC 0 (v := .int (-9)) fl_X7_35 (show 0 < 17 from by decide) rfl (g_sv ((mi_brk hI).trans (by rw [hb0]; rfl))) (gDec_at DX7_scrape_0 18 rfl) ?_
  refine g_bipush hC (gDec_at DX7_scrape_0 19 rfl) (v := -9) (by decide) ?_
  refine g_icmp_ne hC (gDec_at DX7_scrape_0 20 rfl) 54 (by decide) (fun h => absurd rfl h) (fun h => ?_)
  refine g_aload_n hC (gDec_at DX7_scrape_0 21 rfl) rfl ?_
  refine g_get (w := wM q) hC 0 (v := .ref (q.2.2 3)) fl_X7_20 (show 0 < 17 from by decide) rfl rfl (gDec_at DX7_scrape_0 22 rfl) ?_
  refine g_iload_n hC (gDec_at DX7_scrape_0 23 rfl) rfl ?_
  refine g_callSd (w := wM q) hC (c_X7_index q hj) sf_X7_index ml_X7_111 (by decide) rfl rfl (Nat.le_of_ble_eq_true rfl) (gDec_at DX7_scrape_0 24 rfl) ?_
  refine g_iald (w := wM q) hC 3 0 j (x := (nI (B 1 j))) (show 3 < 17 from by decide) rfl rfl (by omega) (by decide) (mi_f1 hI hj ht) (gDec_at DX7_scrape_0 25 rfl) ?_
  refine g_iload_n hC (gDec_at DX7_scrape_0 26 rfl) rfl ?_
  refine g_isub hC (gDec_at DX7_scrape_0 27 rfl) (v := (nI (B 1 j) - nI s)) rfl ?_
  refine g_iconst hC (gDec_at DX7_scrape_0 28 rfl) (v := nI 4) (by decide) ?_
  refine g_icmp_ge hC (gDec_at DX7_scrape_0 29 rfl) 57 (by decide) (fun h51 => ?_) (fun h51 => ?_)
  · skip
    exact absurd h51 (sub_lt4 (by omega) (by omega) hl)
  · skip
    refine g_bipush hC (gDec_at DX7_scrape_0 30 rfl) (v := -3) (by decide) ?_
    refine g_iret hC (gDec_at DX7_scrape_0 31 rfl) ?_
    exact ⟨rfl, rfl⟩

set_option maxRecDepth 100000 in
set_option maxHeartbeats 4000000 in
theorem c_X7_scrape_ok (q : gQ3) {M : gM} {B : gB} (hI : mI M B) {j : Nat} (hj : j < 12) (ht : j % 6 < B 9 0) {s : Nat} (hsa : 1 ≤ s) (hsb : s ≤ 9) (hb0 : B 9 1 = 0) (hl : s + 4 ≤ B 1 j) : gCt (wM q) yX7_scrape cX7_scrape 3 (some .int) 8 [.ref (q.2.2 0), .int (nI (10 * (j / 6) + j % 6)), .int (nI s)] M (gR (some (.int (nI (B 1 j - s)))) (gupd M 3 j (nI (B 1 j - s)))) := by
  refine gMet RX7 (by decide +kernel) rfl (Nat.le_of_ble_eq_true rfl) (fun X hC => ?_)
  have hC : gC X (wM q) cX7_scrape 3 RX7 (some .int) 8 := hC
  show gG X (wM q) _ 3 M 0 [(0, .ref (q.2.2 0)), (1, .int (nI (10 * (j / 6) + j % 6))), (2, .int (nI s))] []
  have h1 := bv_f1 hI.2.2 hj ht
  refine g_aload_n hC (gDec_at DX7_scrape_0 0 rfl) rfl ?_
  refine g_iconst hC (gDec_at DX7_scrape_0 1 rfl) (v := nI 0) (by decide) ?_
  refine g_putI (w := wM q) hC 0 fl_X7_67 fp_7_0 (show 0 < 17 from by decide) rfl (Nat.le_of_ble_eq_true rfl) rfl rfl (gDec_at DX7_scrape_0 2 rfl) ?_
  refine g_M (mi_0 hI) ?_
  refine g_aload_n hC (gDec_at DX7_scrape_0 3 rfl) rfl ?_
  refine g_iload_n hC (gDec_at DX7_scrape_0 4 rfl) rfl ?_
  refine g_callVd (w := wM q) hC 0 (c_X7_noPlace_in q hI hj (ht)) vf_X7_noPlace ml_X7_108 (by decide) (show 0 < 17 from by decide) rfl rfl rfl rfl rfl (Nat.le_of_ble_eq_true rfl) (gDec_at DX7_scrape_0 5 rfl) ?_
  refine g_if_eqN hC (by decide) (gDec_at DX7_scrape_0 6 rfl) 15 (by decide) (fun h => ?_) (fun h => absurd h (by decide))
  refine g_iload_n hC (gDec_at DX7_scrape_0 9 rfl) rfl ?_
  refine g_i2lN hC (by omega) (gDec_at DX7_scrape_0 10 rfl) ?_
  refine g_lconst hC (gDec_at DX7_scrape_0 11 rfl) (v := lN 1) (by decide) ?_
  refine g_ldc2 hC cl_X7_104 (v' := lN 9) (by decide) (gDec_at DX7_scrape_0 12 rfl) ?_
  refine g_callSd (w := wM q) hC (c_X7_in_yes q (v := s) (a := 1) (b := 9) (by omega) (by omega) (by omega)) sf_X7_in ml_X7_72 (by decide) rfl rfl (Nat.le_of_ble_eq_true rfl) (gDec_at DX7_scrape_0 13 rfl) ?_
  refine g_if_neN hC (by decide) (gDec_at DX7_scrape_0 14 rfl) 30 (by decide) (fun h => ?_) (fun h => absurd h (by decide))
  refine g_aload_n hC (gDec_at DX7_scrape_0 17 rfl) rfl ?_
  refine g_get (w := wM q) hC 0 (v := .int (-9)) fl_X7_35 (show 0 < 17 from by decide) rfl (g_sv ((mi_brk hI).trans (by rw [hb0]; rfl))) (gDec_at DX7_scrape_0 18 rfl) ?_
  refine g_bipush hC (gDec_at DX7_scrape_0 19 rfl) (v := -9) (by decide) ?_
  refine g_icmp_ne hC (gDec_at DX7_scrape_0 20 rfl) 54 (by decide) (fun h => absurd rfl h) (fun h => ?_)
  refine g_aload_n hC (gDec_at DX7_scrape_0 21 rfl) rfl ?_
  refine g_get (w := wM q) hC 0 (v := .ref (q.2.2 3)) fl_X7_20 (show 0 < 17 from by decide) rfl rfl (gDec_at DX7_scrape_0 22 rfl) ?_
  refine g_iload_n hC (gDec_at DX7_scrape_0 23 rfl) rfl ?_
  refine g_callSd (w := wM q) hC (c_X7_index q hj) sf_X7_index ml_X7_111 (by decide) rfl rfl (Nat.le_of_ble_eq_true rfl) (gDec_at DX7_scrape_0 24 rfl) ?_
  refine g_iald (w := wM q) hC 3 0 j (x := (nI (B 1 j))) (show 3 < 17 from by decide) rfl rfl (by omega) (by decide) (mi_f1 hI hj ht) (gDec_at DX7_scrape_0 25 rfl) ?_
  refine g_iload_n hC (gDec_at DX7_scrape_0 26 rfl) rfl ?_
  refine g_isubN hC (by omega) (gDec_at DX7_scrape_0 27 rfl) ?_
  refine g_iconst hC (gDec_at DX7_scrape_0 28 rfl) (v := nI 4) (by decide) ?_
  refine g_icmp_geN hC (by omega) (by omega) (gDec_at DX7_scrape_0 29 rfl) 57 (by decide) (fun h51 => ?_) (fun h51 => ?_)
  · skip
    refine g_aload_n hC (gDec_at DX7_scrape_0 32 rfl) rfl ?_
    refine g_get (w := wM q) hC 0 (v := .ref (q.2.2 3)) fl_X7_20 (show 0 < 17 from by decide) rfl rfl (gDec_at DX7_scrape_0 33 rfl) ?_
    refine g_iload_n hC (gDec_at DX7_scrape_0 34 rfl) rfl ?_
    refine g_callSd (w := wM q) hC (c_X7_index q hj) sf_X7_index ml_X7_111 (by decide) rfl rfl (Nat.le_of_ble_eq_true rfl) (gDec_at DX7_scrape_0 35 rfl) ?_
    refine g_dup2 hC (gDec_at DX7_scrape_0 36 rfl) rfl rfl ?_
    refine g_iald (w := wM q) hC 3 0 j (x := (nI (B 1 j))) (show 3 < 17 from by decide) rfl rfl (by omega) (by decide) (mi_f1 hI hj ht) (gDec_at DX7_scrape_0 37 rfl) ?_
    refine g_iload_n hC (gDec_at DX7_scrape_0 38 rfl) rfl ?_
    refine g_isubN hC (by omega) (gDec_at DX7_scrape_0 39 rfl) ?_
    refine g_iast (w := wM q) hC 3 0 j (show 3 < 17 from by decide) rfl rfl rfl (by omega) (by decide) (gDec_at DX7_scrape_0 40 rfl) ?_
    refine g_aload_n hC (gDec_at DX7_scrape_0 41 rfl) rfl ?_
    refine g_get (w := wM q) hC 0 (v := .ref (q.2.2 3)) fl_X7_20 (show 0 < 17 from by decide) rfl rfl (gDec_at DX7_scrape_0 42 rfl) ?_
    refine g_iload_n hC (gDec_at DX7_scrape_0 43 rfl) rfl ?_
    refine g_callSd (w := wM q) hC (c_X7_index q hj) sf_X7_index ml_X7_111 (by decide) rfl rfl (Nat.le_of_ble_eq_true rfl) (gDec_at DX7_scrape_0 44 rfl) ?_
    refine g_iald (w := wM q) hC 3 0 j (x := (nI (B 1 j - s))) (show 3 < 17 from by decide) rfl rfl (by omega) (by decide) (by rw [gupd_get, if_pos ⟨rfl, rfl⟩]) (gDec_at DX7_scrape_0 45 rfl) ?_
    refine g_iret hC (gDec_at DX7_scrape_0 46 rfl) ?_
    exact ⟨rfl, rfl⟩
  · skip
    exact absurd h51 (by omega)

set_option maxRecDepth 100000 in
set_option maxHeartbeats 4000000 in
theorem c_X7_steam_out (q : gQ3) {M : gM} {B : gB} (hI : mI M B) {x0 : Int32} (hx0 : ¬ isPl B x0) : gCt (wM q) yX7_steam cX7_steam 2 (some .int) 8 [.ref (q.2.2 0), .int x0] M (gR (some (.int (-1))) M) := by
  refine gMet RX7 (by decide +kernel) rfl (Nat.le_of_ble_eq_true rfl) (fun X hC => ?_)
  have hC : gC X (wM q) cX7_steam 2 RX7 (some .int) 8 := hC
  show gG X (wM q) _ 2 M 0 [(0, .ref (q.2.2 0)), (1, .int x0)] []
  refine g_aload_n hC (gDec_at DX7_steam_0 0 rfl) rfl ?_
  refine g_iconst hC (gDec_at DX7_steam_0 1 rfl) (v := nI 0) (by decide) ?_
  refine g_putI (w := wM q) hC 0 fl_X7_67 fp_7_0 (show 0 < 17 from by decide) rfl (Nat.le_of_ble_eq_true rfl) rfl rfl (gDec_at DX7_steam_0 2 rfl) ?_
  refine g_M (mi_0 hI) ?_
  refine g_aload_n hC (gDec_at DX7_steam_0 3 rfl) rfl ?_
  refine g_iload_n hC (gDec_at DX7_steam_0 4 rfl) rfl ?_
  refine g_callVd (w := wM q) hC 0 (c_X7_noPlace_out q hI hx0) vf_X7_noPlace ml_X7_108 (by decide) (show 0 < 17 from by decide) rfl rfl rfl rfl rfl (Nat.le_of_ble_eq_true rfl) (gDec_at DX7_steam_0 5 rfl) ?_
  refine g_if_eqN hC (by decide) (gDec_at DX7_steam_0 6 rfl) 15 (by decide) (fun h => absurd h (by decide)) (fun h => ?_)
  refine g_iconst hC (gDec_at DX7_steam_0 7 rfl) (v := -1) (by decide) ?_
  refine g_iret hC (gDec_at DX7_steam_0 8 rfl) ?_
  exact ⟨rfl, rfl⟩

set_option maxRecDepth 100000 in
set_option maxHeartbeats 4000000 in
theorem c_X7_steam_brk (q : gQ3) {M : gM} {B : gB} (hI : mI M B) {j : Nat} (hj : j < 12) (ht : j % 6 < B 9 0) (hb1 : 0 < B 9 1) : gCt (wM q) yX7_steam cX7_steam 2 (some .int) 8 [.ref (q.2.2 0), .int (nI (10 * (j / 6) + j % 6))] M (gR (some (.int (-3))) M) := by
  refine gMet RX7 (by decide +kernel) rfl (Nat.le_of_ble_eq_true rfl) (fun X hC => ?_)
  have hC : gC X (wM q) cX7_steam 2 RX7 (some .int) 8 := hC
  show gG X (wM q) _ 2 M 0 [(0, .ref (q.2.2 0)), (1, .int (nI (10 * (j / 6) + j % 6)))] []
  have h16 := hI.2.2.2.2.1
  refine g_aload_n hC (gDec_at DX7_steam_0 0 rfl) rfl ?_
  refine g_iconst hC (gDec_at DX7_steam_0 1 rfl) (v := nI 0) (by decide) ?_
  refine g_putI (w := wM q) hC 0 fl_X7_67 fp_7_0 (show 0 < 17 from by decide) rfl (Nat.le_of_ble_eq_true rfl) rfl rfl (gDec_at DX7_steam_0 2 rfl) ?_
  refine g_M (mi_0 hI) ?_
  refine g_aload_n hC (gDec_at DX7_steam_0 3 rfl) rfl ?_
  refine g_iload_n hC (gDec_at DX7_steam_0 4 rfl) rfl ?_
  refine g_callVd (w := wM q) hC 0 (c_X7_noPlace_in q hI hj (ht)) vf_X7_noPlace ml_X7_108 (by decide) (show 0 < 17 from by decide) rfl rfl rfl rfl rfl (Nat.le_of_ble_eq_true rfl) (gDec_at DX7_steam_0 5 rfl) ?_
  refine g_if_eqN hC (by decide) (gDec_at DX7_steam_0 6 rfl) 15 (by decide) (fun h => ?_) (fun h => absurd h (by decide))
  refine g_aload_n hC (gDec_at DX7_steam_0 9 rfl) rfl ?_
  refine g_get (w := wM q) hC 0 (v := .int (nI (B 9 1 - 1))) fl_X7_35 (show 0 < 17 from by decide) rfl (g_sv ((mi_brk hI).trans (if_neg (by omega)))) (gDec_at DX7_steam_0 10 rfl) ?_
  refine g_bipush hC (gDec_at DX7_steam_0 11 rfl) (v := -9) (by decide) ?_
  refine g_icmp_eq hC (gDec_at DX7_steam_0 12 rfl) 27 (by decide) (fun h => absurd h (nI_n9 (by omega))) (fun h => ?_)
  refine g_bipush hC (gDec_at DX7_steam_0 13 rfl) (v := -3) (by decide) ?_
  refine g_iret hC (gDec_at DX7_steam_0 14 rfl) ?_
  exact ⟨rfl, rfl⟩

set_option maxRecDepth 100000 in
set_option maxHeartbeats 4000000 in
theorem c_X7_steam_ok (q : gQ3) {M : gM} {B : gB} (hI : mI M B) {j : Nat} (hj : j < 12) (ht : j % 6 < B 9 0) (hb0 : B 9 1 = 0) : gCt (wM q) yX7_steam cX7_steam 2 (some .int) 8 [.ref (q.2.2 0), .int (nI (10 * (j / 6) + j % 6))] M (gR (some (.int (nI (B 3 j / 2)))) (gupd M 5 j (nI (B 3 j / 2)))) := by
  refine gMet RX7 (by decide +kernel) rfl (Nat.le_of_ble_eq_true rfl) (fun X hC => ?_)
  have hC : gC X (wM q) cX7_steam 2 RX7 (some .int) 8 := hC
  show gG X (wM q) _ 2 M 0 [(0, .ref (q.2.2 0)), (1, .int (nI (10 * (j / 6) + j % 6)))] []
  have h3 := bv_f3 hI.2.2 hj ht
  refine g_aload_n hC (gDec_at DX7_steam_0 0 rfl) rfl ?_
  refine g_iconst hC (gDec_at DX7_steam_0 1 rfl) (v := nI 0) (by decide) ?_
  refine g_putI (w := wM q) hC 0 fl_X7_67 fp_7_0 (show 0 < 17 from by decide) rfl (Nat.le_of_ble_eq_true rfl) rfl rfl (gDec_at DX7_steam_0 2 rfl) ?_
  refine g_M (mi_0 hI) ?_
  refine g_aload_n hC (gDec_at DX7_steam_0 3 rfl) rfl ?_
  refine g_iload_n hC (gDec_at DX7_steam_0 4 rfl) rfl ?_
  refine g_callVd (w := wM q) hC 0 (c_X7_noPlace_in q hI hj (ht)) vf_X7_noPlace ml_X7_108 (by decide) (show 0 < 17 from by decide) rfl rfl rfl rfl rfl (Nat.le_of_ble_eq_true rfl) (gDec_at DX7_steam_0 5 rfl) ?_
  refine g_if_eqN hC (by decide) (gDec_at DX7_steam_0 6 rfl) 15 (by decide) (fun h => ?_) (fun h => absurd h (by decide))
  refine g_aload_n hC (gDec_at DX7_steam_0 9 rfl) rfl ?_
  refine g_get (w := wM q) hC 0 (v := .int (-9)) fl_X7_35 (show 0 < 17 from by decide) rfl (g_sv ((mi_brk hI).trans (by rw [hb0]; rfl))) (gDec_at DX7_steam_0 10 rfl) ?_
  refine g_bipush hC (gDec_at DX7_steam_0 11 rfl) (v := -9) (by decide) ?_
  refine g_icmp_eq hC (gDec_at DX7_steam_0 12 rfl) 27 (by decide) (fun h => ?_) (fun h => absurd rfl h)
  refine g_aload_n hC (gDec_at DX7_steam_0 15 rfl) rfl ?_
  refine g_get (w := wM q) hC 0 (v := .ref (q.2.2 5)) fl_X7_26 (show 0 < 17 from by decide) rfl rfl (gDec_at DX7_steam_0 16 rfl) ?_
  refine g_iload_n hC (gDec_at DX7_steam_0 17 rfl) rfl ?_
  refine g_callSd (w := wM q) hC (c_X7_index q hj) sf_X7_index ml_X7_111 (by decide) rfl rfl (Nat.le_of_ble_eq_true rfl) (gDec_at DX7_steam_0 18 rfl) ?_
  refine g_dup2 hC (gDec_at DX7_steam_0 19 rfl) rfl rfl ?_
  refine g_iald (w := wM q) hC 5 0 j (x := (nI (B 3 j))) (show 5 < 17 from by decide) rfl rfl (by omega) (by decide) (mi_f3 hI hj ht) (gDec_at DX7_steam_0 20 rfl) ?_
  refine g_iconst hC (gDec_at DX7_steam_0 21 rfl) (v := nI 2) (by decide) ?_
  refine g_idivN hC (by omega) (by omega) (by omega) (gDec_at DX7_steam_0 22 rfl) ?_
  refine g_iast (w := wM q) hC 5 0 j (show 5 < 17 from by decide) rfl rfl rfl (by omega) (by decide) (gDec_at DX7_steam_0 23 rfl) ?_
  refine g_aload_n hC (gDec_at DX7_steam_0 24 rfl) rfl ?_
  refine g_get (w := wM q) hC 0 (v := .ref (q.2.2 5)) fl_X7_26 (show 0 < 17 from by decide) rfl rfl (gDec_at DX7_steam_0 25 rfl) ?_
  refine g_iload_n hC (gDec_at DX7_steam_0 26 rfl) rfl ?_
  refine g_callSd (w := wM q) hC (c_X7_index q hj) sf_X7_index ml_X7_111 (by decide) rfl rfl (Nat.le_of_ble_eq_true rfl) (gDec_at DX7_steam_0 27 rfl) ?_
  refine g_iald (w := wM q) hC 5 0 j (x := (nI (B 3 j / 2))) (show 5 < 17 from by decide) rfl rfl (by omega) (by decide) (by rw [gupd_get, if_pos ⟨rfl, rfl⟩]) (gDec_at DX7_steam_0 28 rfl) ?_
  refine g_iret hC (gDec_at DX7_steam_0 29 rfl) ?_
  exact ⟨rfl, rfl⟩

set_option maxRecDepth 100000 in
set_option maxHeartbeats 4000000 in
theorem c_X7_see_out (q : gQ3) {M : gM} {B : gB} (hI : mI M B) {x0 : Int32} (hx0 : ¬ isPl B x0) {y : Int32} : gCt (wM q) yX7_see cX7_see 4 (some .int) 8 [.ref (q.2.2 0), .int x0, .int y] M (gR (some (.int (-1))) M) := by
  refine gMet RX7 (by decide +kernel) rfl (Nat.le_of_ble_eq_true rfl) (fun X hC => ?_)
  have hC : gC X (wM q) cX7_see 4 RX7 (some .int) 8 := hC
  show gG X (wM q) _ 4 M 0 [(0, .ref (q.2.2 0)), (1, .int x0), (2, .int y)] []
  refine g_aload_n hC (gDec_at DX7_see_0 0 rfl) rfl ?_
  refine g_iconst hC (gDec_at DX7_see_0 1 rfl) (v := nI 0) (by decide) ?_
  refine g_putI (w := wM q) hC 0 fl_X7_67 fp_7_0 (show 0 < 17 from by decide) rfl (Nat.le_of_ble_eq_true rfl) rfl rfl (gDec_at DX7_see_0 2 rfl) ?_
  refine g_M (mi_0 hI) ?_
  refine g_aload_n hC (gDec_at DX7_see_0 3 rfl) rfl ?_
  refine g_iload_n hC (gDec_at DX7_see_0 4 rfl) rfl ?_
  refine g_callVd (w := wM q) hC 0 (c_X7_noPlace_out q hI hx0) vf_X7_noPlace ml_X7_108 (by decide) (show 0 < 17 from by decide) rfl rfl rfl rfl rfl (Nat.le_of_ble_eq_true rfl) (gDec_at DX7_see_0 5 rfl) ?_
  refine g_if_eqN hC (by decide) (gDec_at DX7_see_0 6 rfl) 15 (by decide) (fun h => absurd h (by decide)) (fun h => ?_)
  refine g_iconst hC (gDec_at DX7_see_0 7 rfl) (v := -1) (by decide) ?_
  refine g_iret hC (gDec_at DX7_see_0 8 rfl) ?_
  exact ⟨rfl, rfl⟩

set_option maxRecDepth 100000 in
set_option maxHeartbeats 4000000 in
theorem c_X7_see_bad (q : gQ3) {M : gM} {B : gB} (hI : mI M B) {j : Nat} (hj : j < 12) (ht : j % 6 < B 9 0) {y : Int32} (hy : ¬ gin y 0 99) : gCt (wM q) yX7_see cX7_see 4 (some .int) 8 [.ref (q.2.2 0), .int (nI (10 * (j / 6) + j % 6)), .int y] M (gR (some (.int (-2))) M) := by
  refine gMet RX7 (by decide +kernel) rfl (Nat.le_of_ble_eq_true rfl) (fun X hC => ?_)
  have hC : gC X (wM q) cX7_see 4 RX7 (some .int) 8 := hC
  show gG X (wM q) _ 4 M 0 [(0, .ref (q.2.2 0)), (1, .int (nI (10 * (j / 6) + j % 6))), (2, .int y)] []
  refine g_aload_n hC (gDec_at DX7_see_0 0 rfl) rfl ?_
  refine g_iconst hC (gDec_at DX7_see_0 1 rfl) (v := nI 0) (by decide) ?_
  refine g_putI (w := wM q) hC 0 fl_X7_67 fp_7_0 (show 0 < 17 from by decide) rfl (Nat.le_of_ble_eq_true rfl) rfl rfl (gDec_at DX7_see_0 2 rfl) ?_
  refine g_M (mi_0 hI) ?_
  refine g_aload_n hC (gDec_at DX7_see_0 3 rfl) rfl ?_
  refine g_iload_n hC (gDec_at DX7_see_0 4 rfl) rfl ?_
  refine g_callVd (w := wM q) hC 0 (c_X7_noPlace_in q hI hj (ht)) vf_X7_noPlace ml_X7_108 (by decide) (show 0 < 17 from by decide) rfl rfl rfl rfl rfl (Nat.le_of_ble_eq_true rfl) (gDec_at DX7_see_0 5 rfl) ?_
  refine g_if_eqN hC (by decide) (gDec_at DX7_see_0 6 rfl) 15 (by decide) (fun h => ?_) (fun h => absurd h (by decide))
  refine g_iload_n hC (gDec_at DX7_see_0 9 rfl) rfl ?_
  refine g_i2l hC (gDec_at DX7_see_0 10 rfl) rfl ?_
  refine g_lconst hC (gDec_at DX7_see_0 11 rfl) (v := lN 0) (by decide) ?_
  refine g_ldc2 hC cl_X7_106 (v' := lN 99) (by decide) (gDec_at DX7_see_0 12 rfl) ?_
  refine g_callSd (w := wM q) hC (c_X7_in_no q (by omega) (by omega) hy) sf_X7_in ml_X7_72 (by decide) rfl rfl (Nat.le_of_ble_eq_true rfl) (gDec_at DX7_see_0 13 rfl) ?_
  refine g_if_neN hC (by decide) (gDec_at DX7_see_0 14 rfl) 30 (by decide) (fun h => absurd h (by decide)) (fun h => ?_)
  refine g_bipush hC (gDec_at DX7_see_0 15 rfl) (v := -2) (by decide) ?_
  refine g_iret hC (gDec_at DX7_see_0 16 rfl) ?_
  exact ⟨rfl, rfl⟩

set_option maxRecDepth 100000 in
set_option maxHeartbeats 4000000 in
theorem c_X7_see_ok (q : gQ3) {M : gM} {B : gB} (hI : mI M B) {j : Nat} (hj : j < 12) (ht : j % 6 < B 9 0) {y : Nat} (hya : 0 ≤ y) (hyb : y ≤ 99) : gCt (wM q) yX7_see cX7_see 4 (some .int) 8 [.ref (q.2.2 0), .int (nI (10 * (j / 6) + j % 6)), .int (nI y)] M (gR (some (.int (nI (B 5 j)))) (gupd M 7 j (nI y))) := by
  refine gMet RX7 (by decide +kernel) rfl (Nat.le_of_ble_eq_true rfl) (fun X hC => ?_)
  have hC : gC X (wM q) cX7_see 4 RX7 (some .int) 8 := hC
  show gG X (wM q) _ 4 M 0 [(0, .ref (q.2.2 0)), (1, .int (nI (10 * (j / 6) + j % 6))), (2, .int (nI y))] []
  refine g_aload_n hC (gDec_at DX7_see_0 0 rfl) rfl ?_
  refine g_iconst hC (gDec_at DX7_see_0 1 rfl) (v := nI 0) (by decide) ?_
  refine g_putI (w := wM q) hC 0 fl_X7_67 fp_7_0 (show 0 < 17 from by decide) rfl (Nat.le_of_ble_eq_true rfl) rfl rfl (gDec_at DX7_see_0 2 rfl) ?_
  refine g_M (mi_0 hI) ?_
  refine g_aload_n hC (gDec_at DX7_see_0 3 rfl) rfl ?_
  refine g_iload_n hC (gDec_at DX7_see_0 4 rfl) rfl ?_
  refine g_callVd (w := wM q) hC 0 (c_X7_noPlace_in q hI hj (ht)) vf_X7_noPlace ml_X7_108 (by decide) (show 0 < 17 from by decide) rfl rfl rfl rfl rfl (Nat.le_of_ble_eq_true rfl) (gDec_at DX7_see_0 5 rfl) ?_
  refine g_if_eqN hC (by decide) (gDec_at DX7_see_0 6 rfl) 15 (by decide) (fun h => ?_) (fun h => absurd h (by decide))
  refine g_iload_n hC (gDec_at DX7_see_0 9 rfl) rfl ?_
  refine g_i2lN hC (by omega) (gDec_at DX7_see_0 10 rfl) ?_
  refine g_lconst hC (gDec_at DX7_see_0 11 rfl) (v := lN 0) (by decide) ?_
  refine g_ldc2 hC cl_X7_106 (v' := lN 99) (by decide) (gDec_at DX7_see_0 12 rfl) ?_
  refine g_callSd (w := wM q) hC (c_X7_in_yes q (v := y) (a := 0) (b := 99) (by omega) (by omega) (by omega)) sf_X7_in ml_X7_72 (by decide) rfl rfl (Nat.le_of_ble_eq_true rfl) (gDec_at DX7_see_0 13 rfl) ?_
  refine g_if_neN hC (by decide) (gDec_at DX7_see_0 14 rfl) 30 (by decide) (fun h => ?_) (fun h => absurd h (by decide))
  refine g_aload_n hC (gDec_at DX7_see_0 17 rfl) rfl ?_
  refine g_get (w := wM q) hC 0 (v := .ref (q.2.2 7)) fl_X7_32 (show 0 < 17 from by decide) rfl rfl (gDec_at DX7_see_0 18 rfl) ?_
  refine g_iload_n hC (gDec_at DX7_see_0 19 rfl) rfl ?_
  refine g_callSd (w := wM q) hC (c_X7_index q hj) sf_X7_index ml_X7_111 (by decide) rfl rfl (Nat.le_of_ble_eq_true rfl) (gDec_at DX7_see_0 20 rfl) ?_
  refine g_iald (w := wM q) hC 7 0 j (x := (nI (B 5 j))) (show 7 < 17 from by decide) rfl rfl (by omega) (by decide) (mi_f5 hI hj ht) (gDec_at DX7_see_0 21 rfl) ?_
  refine g_istore_n hC (gDec_at DX7_see_0 22 rfl) (by decide) (L' := [(3, .int (nI (B 5 j))), (0, .ref (q.2.2 0)), (1, .int (nI (10 * (j / 6) + j % 6))), (2, .int (nI y))]) rfl ?_
  refine g_aload_n hC (gDec_at DX7_see_0 23 rfl) rfl ?_
  refine g_get (w := wM q) hC 0 (v := .ref (q.2.2 7)) fl_X7_32 (show 0 < 17 from by decide) rfl rfl (gDec_at DX7_see_0 24 rfl) ?_
  refine g_iload_n hC (gDec_at DX7_see_0 25 rfl) rfl ?_
  refine g_callSd (w := wM q) hC (c_X7_index q hj) sf_X7_index ml_X7_111 (by decide) rfl rfl (Nat.le_of_ble_eq_true rfl) (gDec_at DX7_see_0 26 rfl) ?_
  refine g_iload_n hC (gDec_at DX7_see_0 27 rfl) rfl ?_
  refine g_iast (w := wM q) hC 7 0 j (show 7 < 17 from by decide) rfl rfl rfl (by omega) (by decide) (gDec_at DX7_see_0 28 rfl) ?_
  refine g_iload_n hC (gDec_at DX7_see_0 29 rfl) rfl ?_
  refine g_iret hC (gDec_at DX7_see_0 30 rfl) ?_
  exact ⟨rfl, rfl⟩

set_option maxRecDepth 100000 in
set_option maxHeartbeats 4000000 in
theorem c_X7_knot_out (q : gQ3) {M : gM} {B : gB} (hI : mI M B) {x0 : Int32} (hx0 : ¬ isPl B x0) {y : Nat} (hy : y ≤ 1) : gCt (wM q) yX7_knot cX7_knot 4 (some .int) 8 [.ref (q.2.2 0), .int x0, .int (nI y)] M (gR (some (.int (-1))) M) := by
  refine gMet RX7 (by decide +kernel) rfl (Nat.le_of_ble_eq_true rfl) (fun X hC => ?_)
  have hC : gC X (wM q) cX7_knot 4 RX7 (some .int) 8 := hC
  show gG X (wM q) _ 4 M 0 [(0, .ref (q.2.2 0)), (1, .int x0), (2, .int (nI y))] []
  refine g_aload_n hC (gDec_at DX7_knot_0 0 rfl) rfl ?_
  refine g_iconst hC (gDec_at DX7_knot_0 1 rfl) (v := nI 0) (by decide) ?_
  refine g_putI (w := wM q) hC 0 fl_X7_67 fp_7_0 (show 0 < 17 from by decide) rfl (Nat.le_of_ble_eq_true rfl) rfl rfl (gDec_at DX7_knot_0 2 rfl) ?_
  refine g_M (mi_0 hI) ?_
  refine g_aload_n hC (gDec_at DX7_knot_0 3 rfl) rfl ?_
  refine g_iload_n hC (gDec_at DX7_knot_0 4 rfl) rfl ?_
  refine g_callVd (w := wM q) hC 0 (c_X7_noPlace_out q hI hx0) vf_X7_noPlace ml_X7_108 (by decide) (show 0 < 17 from by decide) rfl rfl rfl rfl rfl (Nat.le_of_ble_eq_true rfl) (gDec_at DX7_knot_0 5 rfl) ?_
  refine g_if_eqN hC (by decide) (gDec_at DX7_knot_0 6 rfl) 15 (by decide) (fun h => absurd h (by decide)) (fun h => ?_)
  refine g_iconst hC (gDec_at DX7_knot_0 7 rfl) (v := -1) (by decide) ?_
  refine g_iret hC (gDec_at DX7_knot_0 8 rfl) ?_
  exact ⟨rfl, rfl⟩

set_option maxRecDepth 100000 in
set_option maxHeartbeats 4000000 in
theorem c_X7_knot_ok (q : gQ3) {M : gM} {B : gB} (hI : mI M B) {j : Nat} (hj : j < 12) (ht : j % 6 < B 9 0) {y : Nat} (hy : y ≤ 1) : gCt (wM q) yX7_knot cX7_knot 4 (some .int) 8 [.ref (q.2.2 0), .int (nI (10 * (j / 6) + j % 6)), .int (nI y)] M (gR (some (.int (nI (if B 4 j = y then 0 else 1)))) (gupd M 6 j (nI y))) := by
  refine gMet RX7 (by decide +kernel) rfl (Nat.le_of_ble_eq_true rfl) (fun X hC => ?_)
  have hC : gC X (wM q) cX7_knot 4 RX7 (some .int) 8 := hC
  show gG X (wM q) _ 4 M 0 [(0, .ref (q.2.2 0)), (1, .int (nI (10 * (j / 6) + j % 6))), (2, .int (nI y))] []
  have h4 := bv_f4 hI.2.2 hj ht
  refine g_aload_n hC (gDec_at DX7_knot_0 0 rfl) rfl ?_
  refine g_iconst hC (gDec_at DX7_knot_0 1 rfl) (v := nI 0) (by decide) ?_
  refine g_putI (w := wM q) hC 0 fl_X7_67 fp_7_0 (show 0 < 17 from by decide) rfl (Nat.le_of_ble_eq_true rfl) rfl rfl (gDec_at DX7_knot_0 2 rfl) ?_
  refine g_M (mi_0 hI) ?_
  refine g_aload_n hC (gDec_at DX7_knot_0 3 rfl) rfl ?_
  refine g_iload_n hC (gDec_at DX7_knot_0 4 rfl) rfl ?_
  refine g_callVd (w := wM q) hC 0 (c_X7_noPlace_in q hI hj (ht)) vf_X7_noPlace ml_X7_108 (by decide) (show 0 < 17 from by decide) rfl rfl rfl rfl rfl (Nat.le_of_ble_eq_true rfl) (gDec_at DX7_knot_0 5 rfl) ?_
  refine g_if_eqN hC (by decide) (gDec_at DX7_knot_0 6 rfl) 15 (by decide) (fun h => ?_) (fun h => absurd h (by decide))
  refine g_aload_n hC (gDec_at DX7_knot_0 9 rfl) rfl ?_
  refine g_get (w := wM q) hC 0 (v := .ref (q.2.2 6)) fl_X7_29 (show 0 < 17 from by decide) rfl rfl (gDec_at DX7_knot_0 10 rfl) ?_
  refine g_iload_n hC (gDec_at DX7_knot_0 11 rfl) rfl ?_
  refine g_callSd (w := wM q) hC (c_X7_index q hj) sf_X7_index ml_X7_111 (by decide) rfl rfl (Nat.le_of_ble_eq_true rfl) (gDec_at DX7_knot_0 12 rfl) ?_
  refine g_iald (w := wM q) hC 6 0 j (x := (nI (B 4 j))) (show 6 < 17 from by decide) rfl rfl (by omega) (by decide) (mi_f4 hI hj ht) (gDec_at DX7_knot_0 13 rfl) ?_
  refine g_istore_n hC (gDec_at DX7_knot_0 14 rfl) (by decide) (L' := [(3, .int (nI (B 4 j))), (0, .ref (q.2.2 0)), (1, .int (nI (10 * (j / 6) + j % 6))), (2, .int (nI y))]) rfl ?_
  refine g_aload_n hC (gDec_at DX7_knot_0 15 rfl) rfl ?_
  refine g_get (w := wM q) hC 0 (v := .ref (q.2.2 6)) fl_X7_29 (show 0 < 17 from by decide) rfl rfl (gDec_at DX7_knot_0 16 rfl) ?_
  refine g_iload_n hC (gDec_at DX7_knot_0 17 rfl) rfl ?_
  refine g_callSd (w := wM q) hC (c_X7_index q hj) sf_X7_index ml_X7_111 (by decide) rfl rfl (Nat.le_of_ble_eq_true rfl) (gDec_at DX7_knot_0 18 rfl) ?_
  refine g_iload_n hC (gDec_at DX7_knot_0 19 rfl) rfl ?_
  refine g_if_eqN hC (by omega) (gDec_at DX7_knot_0 20 rfl) 41 (by decide) (fun h34 => ?_) (fun h34 => ?_)
  · skip
    obtain rfl : y = 0 := by omega
    refine g_iconst hC (gDec_at DX7_knot_0 23 rfl) (v := nI 0) (by decide) ?_
    refine g_iast (w := wM q) hC 6 0 j (show 6 < 17 from by decide) rfl rfl rfl (by omega) (by decide) (gDec_at DX7_knot_0 24 rfl) ?_
    refine g_iload_n hC (gDec_at DX7_knot_0 25 rfl) rfl ?_
    refine g_aload_n hC (gDec_at DX7_knot_0 26 rfl) rfl ?_
    refine g_get (w := wM q) hC 0 (v := .ref (q.2.2 6)) fl_X7_29 (show 0 < 17 from by decide) rfl rfl (gDec_at DX7_knot_0 27 rfl) ?_
    refine g_iload_n hC (gDec_at DX7_knot_0 28 rfl) rfl ?_
    refine g_callSd (w := wM q) hC (c_X7_index q hj) sf_X7_index ml_X7_111 (by decide) rfl rfl (Nat.le_of_ble_eq_true rfl) (gDec_at DX7_knot_0 29 rfl) ?_
    refine g_iald (w := wM q) hC 6 0 j (x := (nI 0)) (show 6 < 17 from by decide) rfl rfl (by omega) (by decide) (by rw [gupd_get, if_pos ⟨rfl, rfl⟩]) (gDec_at DX7_knot_0 30 rfl) ?_
    refine g_icmp_neN hC (by omega) (by omega) (gDec_at DX7_knot_0 31 rfl) 60 (by decide) (fun h53 => ?_) (fun h53 => ?_)
    · skip
      refine g_iconst hC (gDec_at DX7_knot_0 34 rfl) (v := nI 1) (by decide) ?_
      refine g_iret hC (gDec_at DX7_knot_0 35 rfl) ?_
      exact ⟨by rw [if_neg (by assumption)], rfl⟩
    · skip
      refine g_iconst hC (gDec_at DX7_knot_0 32 rfl) (v := nI 0) (by decide) ?_
      refine g_goto hC (gDec_at DX7_knot_0 33 rfl) 61 (by decide) ?_
      refine g_iret hC (gDec_at DX7_knot_0 35 rfl) ?_
      exact ⟨by rw [if_pos (by assumption)], rfl⟩
  · skip
    obtain rfl : y = 1 := by omega
    refine g_iconst hC (gDec_at DX7_knot_0 21 rfl) (v := nI 1) (by decide) ?_
    refine g_goto hC (gDec_at DX7_knot_0 22 rfl) 42 (by decide) ?_
    refine g_iast (w := wM q) hC 6 0 j (show 6 < 17 from by decide) rfl rfl rfl (by omega) (by decide) (gDec_at DX7_knot_0 24 rfl) ?_
    refine g_iload_n hC (gDec_at DX7_knot_0 25 rfl) rfl ?_
    refine g_aload_n hC (gDec_at DX7_knot_0 26 rfl) rfl ?_
    refine g_get (w := wM q) hC 0 (v := .ref (q.2.2 6)) fl_X7_29 (show 0 < 17 from by decide) rfl rfl (gDec_at DX7_knot_0 27 rfl) ?_
    refine g_iload_n hC (gDec_at DX7_knot_0 28 rfl) rfl ?_
    refine g_callSd (w := wM q) hC (c_X7_index q hj) sf_X7_index ml_X7_111 (by decide) rfl rfl (Nat.le_of_ble_eq_true rfl) (gDec_at DX7_knot_0 29 rfl) ?_
    refine g_iald (w := wM q) hC 6 0 j (x := (nI 1)) (show 6 < 17 from by decide) rfl rfl (by omega) (by decide) (by rw [gupd_get, if_pos ⟨rfl, rfl⟩]) (gDec_at DX7_knot_0 30 rfl) ?_
    refine g_icmp_neN hC (by omega) (by omega) (gDec_at DX7_knot_0 31 rfl) 60 (by decide) (fun h53_1 => ?_) (fun h53_1 => ?_)
    · skip
      refine g_iconst hC (gDec_at DX7_knot_0 34 rfl) (v := nI 1) (by decide) ?_
      refine g_iret hC (gDec_at DX7_knot_0 35 rfl) ?_
      exact ⟨by rw [if_neg (by assumption)], rfl⟩
    · skip
      refine g_iconst hC (gDec_at DX7_knot_0 32 rfl) (v := nI 0) (by decide) ?_
      refine g_goto hC (gDec_at DX7_knot_0 33 rfl) 61 (by decide) ?_
      refine g_iret hC (gDec_at DX7_knot_0 35 rfl) ?_
      exact ⟨by rw [if_pos (by assumption)], rfl⟩

set_option maxRecDepth 100000 in
set_option maxHeartbeats 4000000 in
theorem c_X7_wood_out (q : gQ3) {M : gM} {B : gB} (hI : mI M B) {x0 : Int32} (hx0 : ¬ gin x0 0 2) {e p r : Int32} : gCt (wM q) yX7_wood cX7_wood 6 (some .int) 8 [.ref (q.2.2 0), .int x0, .int e, .int p, .int r] M (gR (some (.int (-1))) M) := by
  refine gMet RX7 (by decide +kernel) rfl (Nat.le_of_ble_eq_true rfl) (fun X hC => ?_)
  have hC : gC X (wM q) cX7_wood 6 RX7 (some .int) 8 := hC
  show gG X (wM q) _ 6 M 0 [(0, .ref (q.2.2 0)), (1, .int x0), (2, .int e), (3, .int p), (4, .int r)] []
  refine g_aload_n hC (gDec_at DX7_wood_0 0 rfl) rfl ?_
  refine g_iconst hC (gDec_at DX7_wood_0 1 rfl) (v := nI 0) (by decide) ?_
  refine g_putI (w := wM q) hC 0 fl_X7_67 fp_7_0 (show 0 < 17 from by decide) rfl (Nat.le_of_ble_eq_true rfl) rfl rfl (gDec_at DX7_wood_0 2 rfl) ?_
  refine g_M (mi_0 hI) ?_
  refine g_iload_n hC (gDec_at DX7_wood_0 3 rfl) rfl ?_
  refine g_callSd (w := wM q) hC (c_X7_noWood_out q hx0) sf_X7_noWood ml_X7_101 (by decide) rfl rfl (Nat.le_of_ble_eq_true rfl) (gDec_at DX7_wood_0 4 rfl) ?_
  refine g_if_eqN hC (by decide) (gDec_at DX7_wood_0 5 rfl) 14 (by decide) (fun h => absurd h (by decide)) (fun h => ?_)
  refine g_iconst hC (gDec_at DX7_wood_0 6 rfl) (v := -1) (by decide) ?_
  refine g_iret hC (gDec_at DX7_wood_0 7 rfl) ?_
  exact ⟨rfl, rfl⟩

set_option maxRecDepth 100000 in
set_option maxHeartbeats 4000000 in
theorem c_X7_wood_bade (q : gQ3) {M : gM} {B : gB} (hI : mI M B) {k : Nat} (hk : k < 3) {e : Int32} (he : ¬ gin e 1 9) {p r : Int32} : gCt (wM q) yX7_wood cX7_wood 6 (some .int) 8 [.ref (q.2.2 0), .int (nI k), .int e, .int p, .int r] M (gR (some (.int (-2))) M) := by
  refine gMet RX7 (by decide +kernel) rfl (Nat.le_of_ble_eq_true rfl) (fun X hC => ?_)
  have hC : gC X (wM q) cX7_wood 6 RX7 (some .int) 8 := hC
  show gG X (wM q) _ 6 M 0 [(0, .ref (q.2.2 0)), (1, .int (nI k)), (2, .int e), (3, .int p), (4, .int r)] []
  refine g_aload_n hC (gDec_at DX7_wood_0 0 rfl) rfl ?_
  refine g_iconst hC (gDec_at DX7_wood_0 1 rfl) (v := nI 0) (by decide) ?_
  refine g_putI (w := wM q) hC 0 fl_X7_67 fp_7_0 (show 0 < 17 from by decide) rfl (Nat.le_of_ble_eq_true rfl) rfl rfl (gDec_at DX7_wood_0 2 rfl) ?_
  refine g_M (mi_0 hI) ?_
  refine g_iload_n hC (gDec_at DX7_wood_0 3 rfl) rfl ?_
  refine g_callSd (w := wM q) hC (c_X7_noWood_in q (k := k) (by omega)) sf_X7_noWood ml_X7_101 (by decide) rfl rfl (Nat.le_of_ble_eq_true rfl) (gDec_at DX7_wood_0 4 rfl) ?_
  refine g_if_eqN hC (by decide) (gDec_at DX7_wood_0 5 rfl) 14 (by decide) (fun h => ?_) (fun h => absurd h (by decide))
  refine g_iload_n hC (gDec_at DX7_wood_0 8 rfl) rfl ?_
  refine g_i2l hC (gDec_at DX7_wood_0 9 rfl) rfl ?_
  refine g_lconst hC (gDec_at DX7_wood_0 10 rfl) (v := lN 1) (by decide) ?_
  refine g_ldc2 hC cl_X7_104 (v' := lN 9) (by decide) (gDec_at DX7_wood_0 11 rfl) ?_
  refine g_callSd (w := wM q) hC (c_X7_in_no q (by omega) (by omega) he) sf_X7_in ml_X7_72 (by decide) rfl rfl (Nat.le_of_ble_eq_true rfl) (gDec_at DX7_wood_0 12 rfl) ?_
  refine g_if_eqN hC (by decide) (gDec_at DX7_wood_0 13 rfl) 51 (by decide) (fun h => ?_) (fun h => absurd h (by decide))
  refine g_bipush hC (gDec_at DX7_wood_0 26 rfl) (v := -2) (by decide) ?_
  refine g_iret hC (gDec_at DX7_wood_0 27 rfl) ?_
  exact ⟨rfl, rfl⟩

set_option maxRecDepth 100000 in
set_option maxHeartbeats 4000000 in
theorem c_X7_wood_badp (q : gQ3) {M : gM} {B : gB} (hI : mI M B) {k : Nat} (hk : k < 3) {e : Nat} (hea : 1 ≤ e) (heb : e ≤ 9) {p : Int32} (hp : ¬ gin p 1 99) {r : Int32} : gCt (wM q) yX7_wood cX7_wood 6 (some .int) 8 [.ref (q.2.2 0), .int (nI k), .int (nI e), .int p, .int r] M (gR (some (.int (-2))) M) := by
  refine gMet RX7 (by decide +kernel) rfl (Nat.le_of_ble_eq_true rfl) (fun X hC => ?_)
  have hC : gC X (wM q) cX7_wood 6 RX7 (some .int) 8 := hC
  show gG X (wM q) _ 6 M 0 [(0, .ref (q.2.2 0)), (1, .int (nI k)), (2, .int (nI e)), (3, .int p), (4, .int r)] []
  refine g_aload_n hC (gDec_at DX7_wood_0 0 rfl) rfl ?_
  refine g_iconst hC (gDec_at DX7_wood_0 1 rfl) (v := nI 0) (by decide) ?_
  refine g_putI (w := wM q) hC 0 fl_X7_67 fp_7_0 (show 0 < 17 from by decide) rfl (Nat.le_of_ble_eq_true rfl) rfl rfl (gDec_at DX7_wood_0 2 rfl) ?_
  refine g_M (mi_0 hI) ?_
  refine g_iload_n hC (gDec_at DX7_wood_0 3 rfl) rfl ?_
  refine g_callSd (w := wM q) hC (c_X7_noWood_in q (k := k) (by omega)) sf_X7_noWood ml_X7_101 (by decide) rfl rfl (Nat.le_of_ble_eq_true rfl) (gDec_at DX7_wood_0 4 rfl) ?_
  refine g_if_eqN hC (by decide) (gDec_at DX7_wood_0 5 rfl) 14 (by decide) (fun h => ?_) (fun h => absurd h (by decide))
  refine g_iload_n hC (gDec_at DX7_wood_0 8 rfl) rfl ?_
  refine g_i2lN hC (by omega) (gDec_at DX7_wood_0 9 rfl) ?_
  refine g_lconst hC (gDec_at DX7_wood_0 10 rfl) (v := lN 1) (by decide) ?_
  refine g_ldc2 hC cl_X7_104 (v' := lN 9) (by decide) (gDec_at DX7_wood_0 11 rfl) ?_
  refine g_callSd (w := wM q) hC (c_X7_in_yes q (v := e) (a := 1) (b := 9) (by omega) (by omega) (by omega)) sf_X7_in ml_X7_72 (by decide) rfl rfl (Nat.le_of_ble_eq_true rfl) (gDec_at DX7_wood_0 12 rfl) ?_
  refine g_if_eqN hC (by decide) (gDec_at DX7_wood_0 13 rfl) 51 (by decide) (fun h => absurd h (by decide)) (fun h => ?_)
  refine g_iload_n hC (gDec_at DX7_wood_0 14 rfl) rfl ?_
  refine g_i2l hC (gDec_at DX7_wood_0 15 rfl) rfl ?_
  refine g_lconst hC (gDec_at DX7_wood_0 16 rfl) (v := lN 1) (by decide) ?_
  refine g_ldc2 hC cl_X7_106 (v' := lN 99) (by decide) (gDec_at DX7_wood_0 17 rfl) ?_
  refine g_callSd (w := wM q) hC (c_X7_in_no q (by omega) (by omega) hp) sf_X7_in ml_X7_72 (by decide) rfl rfl (Nat.le_of_ble_eq_true rfl) (gDec_at DX7_wood_0 18 rfl) ?_
  refine g_if_eqN hC (by decide) (gDec_at DX7_wood_0 19 rfl) 51 (by decide) (fun h => ?_) (fun h => absurd h (by decide))
  refine g_bipush hC (gDec_at DX7_wood_0 26 rfl) (v := -2) (by decide) ?_
  refine g_iret hC (gDec_at DX7_wood_0 27 rfl) ?_
  exact ⟨rfl, rfl⟩

set_option maxRecDepth 100000 in
set_option maxHeartbeats 4000000 in
theorem c_X7_wood_badr (q : gQ3) {M : gM} {B : gB} (hI : mI M B) {k : Nat} (hk : k < 3) {e : Nat} (hea : 1 ≤ e) (heb : e ≤ 9) {p : Nat} (hpa : 1 ≤ p) (hpb : p ≤ 99) {r : Int32} (hr : ¬ gin r 1 99) : gCt (wM q) yX7_wood cX7_wood 6 (some .int) 8 [.ref (q.2.2 0), .int (nI k), .int (nI e), .int (nI p), .int r] M (gR (some (.int (-2))) M) := by
  refine gMet RX7 (by decide +kernel) rfl (Nat.le_of_ble_eq_true rfl) (fun X hC => ?_)
  have hC : gC X (wM q) cX7_wood 6 RX7 (some .int) 8 := hC
  show gG X (wM q) _ 6 M 0 [(0, .ref (q.2.2 0)), (1, .int (nI k)), (2, .int (nI e)), (3, .int (nI p)), (4, .int r)] []
  refine g_aload_n hC (gDec_at DX7_wood_0 0 rfl) rfl ?_
  refine g_iconst hC (gDec_at DX7_wood_0 1 rfl) (v := nI 0) (by decide) ?_
  refine g_putI (w := wM q) hC 0 fl_X7_67 fp_7_0 (show 0 < 17 from by decide) rfl (Nat.le_of_ble_eq_true rfl) rfl rfl (gDec_at DX7_wood_0 2 rfl) ?_
  refine g_M (mi_0 hI) ?_
  refine g_iload_n hC (gDec_at DX7_wood_0 3 rfl) rfl ?_
  refine g_callSd (w := wM q) hC (c_X7_noWood_in q (k := k) (by omega)) sf_X7_noWood ml_X7_101 (by decide) rfl rfl (Nat.le_of_ble_eq_true rfl) (gDec_at DX7_wood_0 4 rfl) ?_
  refine g_if_eqN hC (by decide) (gDec_at DX7_wood_0 5 rfl) 14 (by decide) (fun h => ?_) (fun h => absurd h (by decide))
  refine g_iload_n hC (gDec_at DX7_wood_0 8 rfl) rfl ?_
  refine g_i2lN hC (by omega) (gDec_at DX7_wood_0 9 rfl) ?_
  refine g_lconst hC (gDec_at DX7_wood_0 10 rfl) (v := lN 1) (by decide) ?_
  refine g_ldc2 hC cl_X7_104 (v' := lN 9) (by decide) (gDec_at DX7_wood_0 11 rfl) ?_
  refine g_callSd (w := wM q) hC (c_X7_in_yes q (v := e) (a := 1) (b := 9) (by omega) (by omega) (by omega)) sf_X7_in ml_X7_72 (by decide) rfl rfl (Nat.le_of_ble_eq_true rfl) (gDec_at DX7_wood_0 12 rfl) ?_
  refine g_if_eqN hC (by decide) (gDec_at DX7_wood_0 13 rfl) 51 (by decide) (fun h => absurd h (by decide)) (fun h => ?_)
  refine g_iload_n hC (gDec_at DX7_wood_0 14 rfl) rfl ?_
  refine g_i2lN hC (by omega) (gDec_at DX7_wood_0 15 rfl) ?_
  refine g_lconst hC (gDec_at DX7_wood_0 16 rfl) (v := lN 1) (by decide) ?_
  refine g_ldc2 hC cl_X7_106 (v' := lN 99) (by decide) (gDec_at DX7_wood_0 17 rfl) ?_
  refine g_callSd (w := wM q) hC (c_X7_in_yes q (v := p) (a := 1) (b := 99) (by omega) (by omega) (by omega)) sf_X7_in ml_X7_72 (by decide) rfl rfl (Nat.le_of_ble_eq_true rfl) (gDec_at DX7_wood_0 18 rfl) ?_
  refine g_if_eqN hC (by decide) (gDec_at DX7_wood_0 19 rfl) 51 (by decide) (fun h => absurd h (by decide)) (fun h => ?_)
  refine g_iload hC (gDec_at DX7_wood_0 20 rfl) rfl ?_
  refine g_i2l hC (gDec_at DX7_wood_0 21 rfl) rfl ?_
  refine g_lconst hC (gDec_at DX7_wood_0 22 rfl) (v := lN 1) (by decide) ?_
  refine g_ldc2 hC cl_X7_106 (v' := lN 99) (by decide) (gDec_at DX7_wood_0 23 rfl) ?_
  refine g_callSd (w := wM q) hC (c_X7_in_no q (by omega) (by omega) hr) sf_X7_in ml_X7_72 (by decide) rfl rfl (Nat.le_of_ble_eq_true rfl) (gDec_at DX7_wood_0 24 rfl) ?_
  refine g_if_neN hC (by decide) (gDec_at DX7_wood_0 25 rfl) 54 (by decide) (fun h => absurd h (by decide)) (fun h => ?_)
  refine g_bipush hC (gDec_at DX7_wood_0 26 rfl) (v := -2) (by decide) ?_
  refine g_iret hC (gDec_at DX7_wood_0 27 rfl) ?_
  exact ⟨rfl, rfl⟩

set_option maxRecDepth 100000 in
set_option maxHeartbeats 4000000 in
theorem c_X7_wood_ok (q : gQ3) {M : gM} {B : gB} (hI : mI M B) {k : Nat} (hk : k < 3) {e : Nat} (hea : 1 ≤ e) (heb : e ≤ 9) {p : Nat} (hpa : 1 ≤ p) (hpb : p ≤ 99) {r : Nat} (hra : 1 ≤ r) (hrb : r ≤ 99) : gCt (wM q) yX7_wood cX7_wood 6 (some .int) 8 [.ref (q.2.2 0), .int (nI k), .int (nI e), .int (nI p), .int (nI r)] M (gR (some (.int (nI (B 6 k)))) (gupd (gupd (gupd M 11 (3 * k) (nI e)) 11 (3 * k + 1) (nI p)) 11 (3 * k + 2) (nI r))) := by
  refine gMet RX7 (by decide +kernel) rfl (Nat.le_of_ble_eq_true rfl) (fun X hC => ?_)
  have hC : gC X (wM q) cX7_wood 6 RX7 (some .int) 8 := hC
  show gG X (wM q) _ 6 M 0 [(0, .ref (q.2.2 0)), (1, .int (nI k)), (2, .int (nI e)), (3, .int (nI p)), (4, .int (nI r))] []
  refine g_aload_n hC (gDec_at DX7_wood_0 0 rfl) rfl ?_
  refine g_iconst hC (gDec_at DX7_wood_0 1 rfl) (v := nI 0) (by decide) ?_
  refine g_putI (w := wM q) hC 0 fl_X7_67 fp_7_0 (show 0 < 17 from by decide) rfl (Nat.le_of_ble_eq_true rfl) rfl rfl (gDec_at DX7_wood_0 2 rfl) ?_
  refine g_M (mi_0 hI) ?_
  refine g_iload_n hC (gDec_at DX7_wood_0 3 rfl) rfl ?_
  refine g_callSd (w := wM q) hC (c_X7_noWood_in q (k := k) (by omega)) sf_X7_noWood ml_X7_101 (by decide) rfl rfl (Nat.le_of_ble_eq_true rfl) (gDec_at DX7_wood_0 4 rfl) ?_
  refine g_if_eqN hC (by decide) (gDec_at DX7_wood_0 5 rfl) 14 (by decide) (fun h => ?_) (fun h => absurd h (by decide))
  refine g_iload_n hC (gDec_at DX7_wood_0 8 rfl) rfl ?_
  refine g_i2lN hC (by omega) (gDec_at DX7_wood_0 9 rfl) ?_
  refine g_lconst hC (gDec_at DX7_wood_0 10 rfl) (v := lN 1) (by decide) ?_
  refine g_ldc2 hC cl_X7_104 (v' := lN 9) (by decide) (gDec_at DX7_wood_0 11 rfl) ?_
  refine g_callSd (w := wM q) hC (c_X7_in_yes q (v := e) (a := 1) (b := 9) (by omega) (by omega) (by omega)) sf_X7_in ml_X7_72 (by decide) rfl rfl (Nat.le_of_ble_eq_true rfl) (gDec_at DX7_wood_0 12 rfl) ?_
  refine g_if_eqN hC (by decide) (gDec_at DX7_wood_0 13 rfl) 51 (by decide) (fun h => absurd h (by decide)) (fun h => ?_)
  refine g_iload_n hC (gDec_at DX7_wood_0 14 rfl) rfl ?_
  refine g_i2lN hC (by omega) (gDec_at DX7_wood_0 15 rfl) ?_
  refine g_lconst hC (gDec_at DX7_wood_0 16 rfl) (v := lN 1) (by decide) ?_
  refine g_ldc2 hC cl_X7_106 (v' := lN 99) (by decide) (gDec_at DX7_wood_0 17 rfl) ?_
  refine g_callSd (w := wM q) hC (c_X7_in_yes q (v := p) (a := 1) (b := 99) (by omega) (by omega) (by omega)) sf_X7_in ml_X7_72 (by decide) rfl rfl (Nat.le_of_ble_eq_true rfl) (gDec_at DX7_wood_0 18 rfl) ?_
  refine g_if_eqN hC (by decide) (gDec_at DX7_wood_0 19 rfl) 51 (by decide) (fun h => absurd h (by decide)) (fun h => ?_)
  refine g_iload hC (gDec_at DX7_wood_0 20 rfl) rfl ?_
  refine g_i2lN hC (by omega) (gDec_at DX7_wood_0 21 rfl) ?_
  refine g_lconst hC (gDec_at DX7_wood_0 22 rfl) (v := lN 1) (by decide) ?_
  refine g_ldc2 hC cl_X7_106 (v' := lN 99) (by decide) (gDec_at DX7_wood_0 23 rfl) ?_
  refine g_callSd (w := wM q) hC (c_X7_in_yes q (v := r) (a := 1) (b := 99) (by omega) (by omega) (by omega)) sf_X7_in ml_X7_72 (by decide) rfl rfl (Nat.le_of_ble_eq_true rfl) (gDec_at DX7_wood_0 24 rfl) ?_
  refine g_if_neN hC (by decide) (gDec_at DX7_wood_0 25 rfl) 54 (by decide) (fun h => ?_) (fun h => absurd h (by decide))
  refine g_aload_n hC (gDec_at DX7_wood_0 28 rfl) rfl ?_
  refine g_get (w := wM q) hC 0 (v := .ref (q.2.2 11)) fl_X7_47 (show 0 < 17 from by decide) rfl rfl (gDec_at DX7_wood_0 29 rfl) ?_
  refine g_iconst hC (gDec_at DX7_wood_0 30 rfl) (v := nI 3) (by decide) ?_
  refine g_iload_n hC (gDec_at DX7_wood_0 31 rfl) rfl ?_
  refine g_imulN hC (gDec_at DX7_wood_0 32 rfl) ?_
  refine g_iald (w := wM q) hC 11 0 (3 * k) (x := (nI (B 6 k))) (show 11 < 17 from by decide) rfl rfl (by omega) (by decide) (mi_e hI (k := k) hk) (gDec_at DX7_wood_0 33 rfl) ?_
  refine g_istore hC (gDec_at DX7_wood_0 34 rfl) (by decide) (L' := [(5, .int (nI (B 6 k))), (0, .ref (q.2.2 0)), (1, .int (nI k)), (2, .int (nI e)), (3, .int (nI p)), (4, .int (nI r))]) rfl ?_
  refine g_aload_n hC (gDec_at DX7_wood_0 35 rfl) rfl ?_
  refine g_get (w := wM q) hC 0 (v := .ref (q.2.2 11)) fl_X7_47 (show 0 < 17 from by decide) rfl rfl (gDec_at DX7_wood_0 36 rfl) ?_
  refine g_iconst hC (gDec_at DX7_wood_0 37 rfl) (v := nI 3) (by decide) ?_
  refine g_iload_n hC (gDec_at DX7_wood_0 38 rfl) rfl ?_
  refine g_imulN hC (gDec_at DX7_wood_0 39 rfl) ?_
  refine g_iload_n hC (gDec_at DX7_wood_0 40 rfl) rfl ?_
  refine g_iast (w := wM q) hC 11 0 (3 * k) (show 11 < 17 from by decide) rfl rfl rfl (by omega) (by decide) (gDec_at DX7_wood_0 41 rfl) ?_
  refine g_aload_n hC (gDec_at DX7_wood_0 42 rfl) rfl ?_
  refine g_get (w := wM q) hC 0 (v := .ref (q.2.2 11)) fl_X7_47 (show 0 < 17 from by decide) rfl rfl (gDec_at DX7_wood_0 43 rfl) ?_
  refine g_iconst hC (gDec_at DX7_wood_0 44 rfl) (v := nI 3) (by decide) ?_
  refine g_iload_n hC (gDec_at DX7_wood_0 45 rfl) rfl ?_
  refine g_imulN hC (gDec_at DX7_wood_0 46 rfl) ?_
  refine g_iconst hC (gDec_at DX7_wood_0 47 rfl) (v := nI 1) (by decide) ?_
  refine g_iaddN hC (gDec_at DX7_wood_0 48 rfl) ?_
  refine g_iload_n hC (gDec_at DX7_wood_0 49 rfl) rfl ?_
  refine g_iast (w := wM q) hC 11 0 ((3 * k) + 1) (show 11 < 17 from by decide) rfl rfl rfl (by omega) (by decide) (gDec_at DX7_wood_0 50 rfl) ?_
  refine g_aload_n hC (gDec_at DX7_wood_0 51 rfl) rfl ?_
  refine g_get (w := wM q) hC 0 (v := .ref (q.2.2 11)) fl_X7_47 (show 0 < 17 from by decide) rfl rfl (gDec_at DX7_wood_0 52 rfl) ?_
  refine g_iconst hC (gDec_at DX7_wood_0 53 rfl) (v := nI 3) (by decide) ?_
  refine g_iload_n hC (gDec_at DX7_wood_0 54 rfl) rfl ?_
  refine g_imulN hC (gDec_at DX7_wood_0 55 rfl) ?_
  refine g_iconst hC (gDec_at DX7_wood_0 56 rfl) (v := nI 2) (by decide) ?_
  refine g_iaddN hC (gDec_at DX7_wood_0 57 rfl) ?_
  refine g_iload hC (gDec_at DX7_wood_0 58 rfl) rfl ?_
  refine g_iast (w := wM q) hC 11 0 ((3 * k) + 2) (show 11 < 17 from by decide) rfl rfl rfl (by omega) (by decide) (gDec_at DX7_wood_0 59 rfl) ?_
  refine g_iload hC (gDec_at DX7_wood_0 60 rfl) rfl ?_
  refine g_iret hC (gDec_at DX7_wood_0 61 rfl) ?_
  exact ⟨rfl, rfl⟩

set_option maxRecDepth 100000 in
set_option maxHeartbeats 4000000 in
theorem c_X7_power (q : gQ3) {M : gM} {b n : Nat} (hn : n ≤ 1000) : gCt (wM q) yX7_power cX7_power 6 (some .long) 0 [.long (lN b), .int (nI n)] M (gR (some (.long (lN (b ^ n)))) M) := by
  refine gMet RX7 (by decide +kernel) rfl (Nat.le_of_ble_eq_true rfl) (fun X hC => ?_)
  have hC : gC X (wM q) cX7_power 6 RX7 (some .long) 0 := hC
  show gG X (wM q) _ 6 M 0 [(0, .long (lN b)), (2, .int (nI n))] []
  refine g_lconst hC (gDec_at DX7_power_0 0 rfl) (v := lN 1) (by decide) ?_
  refine g_lstore_n hC (gDec_at DX7_power_0 1 rfl) (by decide) (L' := [(3, .long (lN 1)), (0, .long (lN b)), (2, .int (nI n))]) rfl ?_
  refine g_iconst hC (gDec_at DX7_power_0 2 rfl) (v := nI 0) (by decide) ?_
  refine g_istore hC (gDec_at DX7_power_0 3 rfl) (by decide) (L' := [(5, .int (nI 0)), (3, .long (lN 1)), (0, .long (lN b)), (2, .int (nI n))]) rfl ?_
  have loop5 : ∀ (fu i : Nat), i ≤ n → n - i < fu → gG X (wM q) (gR (some (.long (lN (b ^ n)))) M) 6 M 5 [(0, .long (lN b)), (2, .int (nI n)), (3, .long (lN (b ^ i))), (5, .int (nI i))] [] := by
    intro fu; induction fu with
    | zero => intro i h1 h2; omega
    | succ fu ih =>
      intro i hi2 hfu 
      refine g_iload hC (gDec_at DX7_power_0 4 rfl) rfl ?_
      refine g_iload_n hC (gDec_at DX7_power_0 5 rfl) rfl ?_
      refine g_icmp_geN hC (by omega) (by omega) (gDec_at DX7_power_0 6 rfl) 21 (by decide) (fun h8 => ?_) (fun h8 => ?_)
      · skip
        obtain rfl : i = n := by omega
        refine g_lload_n hC (gDec_at DX7_power_0 13 rfl) rfl ?_
        refine g_lret hC (gDec_at DX7_power_0 14 rfl) ?_
        exact ⟨rfl, rfl⟩
      · skip
        refine g_lload_n hC (gDec_at DX7_power_0 7 rfl) rfl ?_
        refine g_lload_n hC (gDec_at DX7_power_0 8 rfl) rfl ?_
        refine g_lmulN hC (gDec_at DX7_power_0 9 rfl) ?_
        refine g_lstore_n hC (gDec_at DX7_power_0 10 rfl) (by decide) (L' := [(3, .long (lN ((b ^ i) * b))), (0, .long (lN b)), (2, .int (nI n)), (5, .int (nI i))]) rfl ?_
        refine g_iincN hC (gDec_at DX7_power_0 11 rfl) rfl (by decide) (L' := [(5, .int (nI (i + 1))), (3, .long (lN ((b ^ i) * b))), (0, .long (lN b)), (2, .int (nI n))]) rfl ?_
        refine g_goto hC (gDec_at DX7_power_0 12 rfl) 5 (by decide) ?_
        refine g_sub [2, 3, 1, 0] (L' := [(0, .long (lN b)), (2, .int (nI n)), (3, .long (lN ((b ^ i) * b))), (5, .int (nI (i + 1)))]) rfl ?_
        have h9 := ih (i + 1) (by omega) (by omega)
        rw [Nat.pow_succ] at h9
        exact h9
  exact g_sub [2, 3, 1, 0] rfl (loop5 (n + 1 - 0) 0 (by omega) (by omega))

set_option maxRecDepth 100000 in
set_option maxHeartbeats 4000000 in
theorem c_X7_just (q : gQ3) {M : gM} {n k t : Nat} (hn : n ≤ 12) (hk : k ≤ n) (ht : t ≤ 10) : gCt (wM q) yX7_just cX7_just 6 (some .long) 1 [.int (nI n), .int (nI k), .int (nI t)] M (gR (some (.long (lN (sTerm n t k)))) M) := by
  refine gMet RX7 (by decide +kernel) rfl (Nat.le_of_ble_eq_true rfl) (fun X hC => ?_)
  have hC : gC X (wM q) cX7_just 6 RX7 (some .long) 1 := hC
  show gG X (wM q) _ 6 M 0 [(0, .int (nI n)), (1, .int (nI k)), (2, .int (nI t))] []
  refine g_lconst hC (gDec_at DX7_just_0 0 rfl) (v := lN 1) (by decide) ?_
  refine g_lstore_n hC (gDec_at DX7_just_0 1 rfl) (by decide) (L' := [(3, .long (lN 1)), (0, .int (nI n)), (1, .int (nI k)), (2, .int (nI t))]) rfl ?_
  refine g_iconst hC (gDec_at DX7_just_0 2 rfl) (v := nI 0) (by decide) ?_
  refine g_istore hC (gDec_at DX7_just_0 3 rfl) (by decide) (L' := [(5, .int (nI 0)), (3, .long (lN 1)), (0, .int (nI n)), (1, .int (nI k)), (2, .int (nI t))]) rfl ?_
  have loop5 : ∀ (fu i : Nat), i ≤ k → k - i < fu → gG X (wM q) (gR (some (.long (lN (sTerm n t k)))) M) 6 M 5 [(0, .int (nI n)), (1, .int (nI k)), (2, .int (nI t)), (3, .long (lN (sCh n i))), (5, .int (nI i))] [] := by
    intro fu; induction fu with
    | zero => intro i h1 h2; omega
    | succ fu ih =>
      intro i hi2 hfu 
      have hcl := sCh_le n (by omega) i (by omega)
      have z1 := mul_bd hcl (by omega : n - i ≤ 12)
      refine g_iload hC (gDec_at DX7_just_0 4 rfl) rfl ?_
      refine g_iload_n hC (gDec_at DX7_just_0 5 rfl) rfl ?_
      refine g_icmp_geN hC (by omega) (by omega) (gDec_at DX7_just_0 6 rfl) 31 (by decide) (fun h8 => ?_) (fun h8 => ?_)
      · skip
        obtain rfl : k = i := by omega
        refine g_lload_n hC (gDec_at DX7_just_0 21 rfl) rfl ?_
        refine g_iload_n hC (gDec_at DX7_just_0 22 rfl) rfl ?_
        refine g_i2lN hC (by omega) (gDec_at DX7_just_0 23 rfl) ?_
        refine g_iload_n hC (gDec_at DX7_just_0 24 rfl) rfl ?_
        refine g_callSd (w := wM q) hC (c_X7_power q (b := t) (n := k) (by omega)) sf_X7_power ml_X7_225 (by decide) rfl rfl (Nat.le_of_ble_eq_true rfl) (gDec_at DX7_just_0 25 rfl) ?_
        refine g_lmulN hC (gDec_at DX7_just_0 26 rfl) ?_
        refine g_bipush hC (gDec_at DX7_just_0 27 rfl) (v := nI 10) (by decide) ?_
        refine g_iload_n hC (gDec_at DX7_just_0 28 rfl) rfl ?_
        refine g_isubN hC (by omega) (gDec_at DX7_just_0 29 rfl) ?_
        refine g_i2lN hC (by omega) (gDec_at DX7_just_0 30 rfl) ?_
        refine g_iload_n hC (gDec_at DX7_just_0 31 rfl) rfl ?_
        refine g_iload_n hC (gDec_at DX7_just_0 32 rfl) rfl ?_
        refine g_isubN hC (by omega) (gDec_at DX7_just_0 33 rfl) ?_
        refine g_callSd (w := wM q) hC (c_X7_power q (b := (10 - t)) (n := (n - k)) (by omega)) sf_X7_power ml_X7_225 (by decide) rfl rfl (Nat.le_of_ble_eq_true rfl) (gDec_at DX7_just_0 34 rfl) ?_
        refine g_lmulN hC (gDec_at DX7_just_0 35 rfl) ?_
        refine g_lret hC (gDec_at DX7_just_0 36 rfl) ?_
        exact ⟨rfl, rfl⟩
      · skip
        refine g_lload_n hC (gDec_at DX7_just_0 7 rfl) rfl ?_
        refine g_iload_n hC (gDec_at DX7_just_0 8 rfl) rfl ?_
        refine g_iload hC (gDec_at DX7_just_0 9 rfl) rfl ?_
        refine g_isubN hC (by omega) (gDec_at DX7_just_0 10 rfl) ?_
        refine g_i2lN hC (by omega) (gDec_at DX7_just_0 11 rfl) ?_
        refine g_lmulN hC (gDec_at DX7_just_0 12 rfl) ?_
        refine g_iload hC (gDec_at DX7_just_0 13 rfl) rfl ?_
        refine g_iconst hC (gDec_at DX7_just_0 14 rfl) (v := nI 1) (by decide) ?_
        refine g_iaddN hC (gDec_at DX7_just_0 15 rfl) ?_
        refine g_i2lN hC (by omega) (gDec_at DX7_just_0 16 rfl) ?_
        refine g_ldivN hC (by omega) (by omega) (by omega) (gDec_at DX7_just_0 17 rfl) ?_
        refine g_lstore_n hC (gDec_at DX7_just_0 18 rfl) (by decide) (L' := [(3, .long (lN (((sCh n i) * (n - i)) / (i + 1)))), (0, .int (nI n)), (1, .int (nI k)), (2, .int (nI t)), (5, .int (nI i))]) rfl ?_
        refine g_iincN hC (gDec_at DX7_just_0 19 rfl) rfl (by decide) (L' := [(5, .int (nI (i + 1))), (3, .long (lN (((sCh n i) * (n - i)) / (i + 1)))), (0, .int (nI n)), (1, .int (nI k)), (2, .int (nI t))]) rfl ?_
        refine g_goto hC (gDec_at DX7_just_0 20 rfl) 5 (by decide) ?_
        refine g_sub [2, 3, 4, 1, 0] (L' := [(0, .int (nI n)), (1, .int (nI k)), (2, .int (nI t)), (3, .long (lN (((sCh n i) * (n - i)) / (i + 1)))), (5, .int (nI (i + 1)))]) rfl ?_
        have h9 := ih (i + 1) (by omega) (by omega)
        exact h9
  exact g_sub [2, 3, 4, 1, 0] rfl (loop5 (k + 1 - 0) 0 (by omega) (by omega))

set_option maxRecDepth 100000 in
set_option maxHeartbeats 4000000 in
theorem c_X7_slips_out (q : gQ3) {M : gM} {B : gB} (hI : mI M B) {x0 : Int32} (hx0 : ¬ isPl B x0) {n t y : Int32} {u : Nat} (hu : u ≤ 1) : gCt (wM q) yX7_slips cX7_slips 9 (some .long) 8 [.ref (q.2.2 0), .int x0, .int n, .int t, .int y, .int (nI u)] M (gR (some (.long (-1))) M) := by
  refine gMet RX7 (by decide +kernel) rfl (Nat.le_of_ble_eq_true rfl) (fun X hC => ?_)
  have hC : gC X (wM q) cX7_slips 9 RX7 (some .long) 8 := hC
  show gG X (wM q) _ 9 M 0 [(0, .ref (q.2.2 0)), (1, .int x0), (2, .int n), (3, .int t), (4, .int y), (5, .int (nI u))] []
  refine g_aload_n hC (gDec_at DX7_slips_0 0 rfl) rfl ?_
  refine g_iconst hC (gDec_at DX7_slips_0 1 rfl) (v := nI 0) (by decide) ?_
  refine g_putI (w := wM q) hC 0 fl_X7_67 fp_7_0 (show 0 < 17 from by decide) rfl (Nat.le_of_ble_eq_true rfl) rfl rfl (gDec_at DX7_slips_0 2 rfl) ?_
  refine g_M (mi_0 hI) ?_
  refine g_aload_n hC (gDec_at DX7_slips_0 3 rfl) rfl ?_
  refine g_iload_n hC (gDec_at DX7_slips_0 4 rfl) rfl ?_
  refine g_callVd (w := wM q) hC 0 (c_X7_noPlace_out q hI hx0) vf_X7_noPlace ml_X7_108 (by decide) (show 0 < 17 from by decide) rfl rfl rfl rfl rfl (Nat.le_of_ble_eq_true rfl) (gDec_at DX7_slips_0 5 rfl) ?_
  refine g_if_eqN hC (by decide) (gDec_at DX7_slips_0 6 rfl) 17 (by decide) (fun h => absurd h (by decide)) (fun h => ?_)
  refine g_ldc2 hC cl_X7_145 (v' := -1) rfl (gDec_at DX7_slips_0 7 rfl) ?_
  refine g_lret hC (gDec_at DX7_slips_0 8 rfl) ?_
  exact ⟨rfl, rfl⟩

set_option maxRecDepth 100000 in
set_option maxHeartbeats 4000000 in
theorem c_X7_slips_badn (q : gQ3) {M : gM} {B : gB} (hI : mI M B) {j : Nat} (hj : j < 12) (ht : j % 6 < B 9 0) {n : Int32} (hn : ¬ gin n 1 12) {t y : Int32} {u : Nat} (hu : u ≤ 1) : gCt (wM q) yX7_slips cX7_slips 9 (some .long) 8 [.ref (q.2.2 0), .int (nI (10 * (j / 6) + j % 6)), .int n, .int t, .int y, .int (nI u)] M (gR (some (.long (-2))) M) := by
  refine gMet RX7 (by decide +kernel) rfl (Nat.le_of_ble_eq_true rfl) (fun X hC => ?_)
  have hC : gC X (wM q) cX7_slips 9 RX7 (some .long) 8 := hC
  show gG X (wM q) _ 9 M 0 [(0, .ref (q.2.2 0)), (1, .int (nI (10 * (j / 6) + j % 6))), (2, .int n), (3, .int t), (4, .int y), (5, .int (nI u))] []
  refine g_aload_n hC (gDec_at DX7_slips_0 0 rfl) rfl ?_
  refine g_iconst hC (gDec_at DX7_slips_0 1 rfl) (v := nI 0) (by decide) ?_
  refine g_putI (w := wM q) hC 0 fl_X7_67 fp_7_0 (show 0 < 17 from by decide) rfl (Nat.le_of_ble_eq_true rfl) rfl rfl (gDec_at DX7_slips_0 2 rfl) ?_
  refine g_M (mi_0 hI) ?_
  refine g_aload_n hC (gDec_at DX7_slips_0 3 rfl) rfl ?_
  refine g_iload_n hC (gDec_at DX7_slips_0 4 rfl) rfl ?_
  refine g_callVd (w := wM q) hC 0 (c_X7_noPlace_in q hI hj (ht)) vf_X7_noPlace ml_X7_108 (by decide) (show 0 < 17 from by decide) rfl rfl rfl rfl rfl (Nat.le_of_ble_eq_true rfl) (gDec_at DX7_slips_0 5 rfl) ?_
  refine g_if_eqN hC (by decide) (gDec_at DX7_slips_0 6 rfl) 17 (by decide) (fun h => ?_) (fun h => absurd h (by decide))
  refine g_iload_n hC (gDec_at DX7_slips_0 9 rfl) rfl ?_
  refine g_i2l hC (gDec_at DX7_slips_0 10 rfl) rfl ?_
  refine g_lconst hC (gDec_at DX7_slips_0 11 rfl) (v := lN 1) (by decide) ?_
  refine g_ldc2 hC cl_X7_229 (v' := lN 12) (by decide) (gDec_at DX7_slips_0 12 rfl) ?_
  refine g_callSd (w := wM q) hC (c_X7_in_no q (by omega) (by omega) hn) sf_X7_in ml_X7_72 (by decide) rfl rfl (Nat.le_of_ble_eq_true rfl) (gDec_at DX7_slips_0 13 rfl) ?_
  refine g_if_eqN hC (by decide) (gDec_at DX7_slips_0 14 rfl) 54 (by decide) (fun h => ?_) (fun h => absurd h (by decide))
  refine g_ldc2 hC cl_X7_150 (v' := -2) rfl (gDec_at DX7_slips_0 27 rfl) ?_
  refine g_lret hC (gDec_at DX7_slips_0 28 rfl) ?_
  exact ⟨rfl, rfl⟩

set_option maxRecDepth 100000 in
set_option maxHeartbeats 4000000 in
theorem c_X7_slips_badt (q : gQ3) {M : gM} {B : gB} (hI : mI M B) {j : Nat} (hj : j < 12) (ht0 : j % 6 < B 9 0) {n : Nat} (hna : 1 ≤ n) (hnb : n ≤ 12) {t : Int32} (ht : ¬ gin t 0 10) {y : Int32} {u : Nat} (hu : u ≤ 1) : gCt (wM q) yX7_slips cX7_slips 9 (some .long) 8 [.ref (q.2.2 0), .int (nI (10 * (j / 6) + j % 6)), .int (nI n), .int t, .int y, .int (nI u)] M (gR (some (.long (-2))) M) := by
  refine gMet RX7 (by decide +kernel) rfl (Nat.le_of_ble_eq_true rfl) (fun X hC => ?_)
  have hC : gC X (wM q) cX7_slips 9 RX7 (some .long) 8 := hC
  show gG X (wM q) _ 9 M 0 [(0, .ref (q.2.2 0)), (1, .int (nI (10 * (j / 6) + j % 6))), (2, .int (nI n)), (3, .int t), (4, .int y), (5, .int (nI u))] []
  refine g_aload_n hC (gDec_at DX7_slips_0 0 rfl) rfl ?_
  refine g_iconst hC (gDec_at DX7_slips_0 1 rfl) (v := nI 0) (by decide) ?_
  refine g_putI (w := wM q) hC 0 fl_X7_67 fp_7_0 (show 0 < 17 from by decide) rfl (Nat.le_of_ble_eq_true rfl) rfl rfl (gDec_at DX7_slips_0 2 rfl) ?_
  refine g_M (mi_0 hI) ?_
  refine g_aload_n hC (gDec_at DX7_slips_0 3 rfl) rfl ?_
  refine g_iload_n hC (gDec_at DX7_slips_0 4 rfl) rfl ?_
  refine g_callVd (w := wM q) hC 0 (c_X7_noPlace_in q hI hj ht0) vf_X7_noPlace ml_X7_108 (by decide) (show 0 < 17 from by decide) rfl rfl rfl rfl rfl (Nat.le_of_ble_eq_true rfl) (gDec_at DX7_slips_0 5 rfl) ?_
  refine g_if_eqN hC (by decide) (gDec_at DX7_slips_0 6 rfl) 17 (by decide) (fun h => ?_) (fun h => absurd h (by decide))
  refine g_iload_n hC (gDec_at DX7_slips_0 9 rfl) rfl ?_
  refine g_i2lN hC (by omega) (gDec_at DX7_slips_0 10 rfl) ?_
  refine g_lconst hC (gDec_at DX7_slips_0 11 rfl) (v := lN 1) (by decide) ?_
  refine g_ldc2 hC cl_X7_229 (v' := lN 12) (by decide) (gDec_at DX7_slips_0 12 rfl) ?_
  refine g_callSd (w := wM q) hC (c_X7_in_yes q (v := n) (a := 1) (b := 12) (by omega) (by omega) (by omega)) sf_X7_in ml_X7_72 (by decide) rfl rfl (Nat.le_of_ble_eq_true rfl) (gDec_at DX7_slips_0 13 rfl) ?_
  refine g_if_eqN hC (by decide) (gDec_at DX7_slips_0 14 rfl) 54 (by decide) (fun h => absurd h (by decide)) (fun h => ?_)
  refine g_iload_n hC (gDec_at DX7_slips_0 15 rfl) rfl ?_
  refine g_i2l hC (gDec_at DX7_slips_0 16 rfl) rfl ?_
  refine g_lconst hC (gDec_at DX7_slips_0 17 rfl) (v := lN 0) (by decide) ?_
  refine g_ldc2 hC cl_X7_231 (v' := lN 10) (by decide) (gDec_at DX7_slips_0 18 rfl) ?_
  refine g_callSd (w := wM q) hC (c_X7_in_no q (by omega) (by omega) ht) sf_X7_in ml_X7_72 (by decide) rfl rfl (Nat.le_of_ble_eq_true rfl) (gDec_at DX7_slips_0 19 rfl) ?_
  refine g_if_eqN hC (by decide) (gDec_at DX7_slips_0 20 rfl) 54 (by decide) (fun h => ?_) (fun h => absurd h (by decide))
  refine g_ldc2 hC cl_X7_150 (v' := -2) rfl (gDec_at DX7_slips_0 27 rfl) ?_
  refine g_lret hC (gDec_at DX7_slips_0 28 rfl) ?_
  exact ⟨rfl, rfl⟩

set_option maxRecDepth 100000 in
set_option maxHeartbeats 4000000 in
theorem c_X7_slips_bady (q : gQ3) {M : gM} {B : gB} (hI : mI M B) {j : Nat} (hj : j < 12) (ht : j % 6 < B 9 0) {n : Nat} (hna : 1 ≤ n) (hnb : n ≤ 12) {t : Nat} (hta : 0 ≤ t) (htb : t ≤ 10) {y : Int32} (hy : ¬ gin y 0 40) {u : Nat} (hu : u ≤ 1) : gCt (wM q) yX7_slips cX7_slips 9 (some .long) 8 [.ref (q.2.2 0), .int (nI (10 * (j / 6) + j % 6)), .int (nI n), .int (nI t), .int y, .int (nI u)] M (gR (some (.long (-2))) M) := by
  refine gMet RX7 (by decide +kernel) rfl (Nat.le_of_ble_eq_true rfl) (fun X hC => ?_)
  have hC : gC X (wM q) cX7_slips 9 RX7 (some .long) 8 := hC
  show gG X (wM q) _ 9 M 0 [(0, .ref (q.2.2 0)), (1, .int (nI (10 * (j / 6) + j % 6))), (2, .int (nI n)), (3, .int (nI t)), (4, .int y), (5, .int (nI u))] []
  refine g_aload_n hC (gDec_at DX7_slips_0 0 rfl) rfl ?_
  refine g_iconst hC (gDec_at DX7_slips_0 1 rfl) (v := nI 0) (by decide) ?_
  refine g_putI (w := wM q) hC 0 fl_X7_67 fp_7_0 (show 0 < 17 from by decide) rfl (Nat.le_of_ble_eq_true rfl) rfl rfl (gDec_at DX7_slips_0 2 rfl) ?_
  refine g_M (mi_0 hI) ?_
  refine g_aload_n hC (gDec_at DX7_slips_0 3 rfl) rfl ?_
  refine g_iload_n hC (gDec_at DX7_slips_0 4 rfl) rfl ?_
  refine g_callVd (w := wM q) hC 0 (c_X7_noPlace_in q hI hj (ht)) vf_X7_noPlace ml_X7_108 (by decide) (show 0 < 17 from by decide) rfl rfl rfl rfl rfl (Nat.le_of_ble_eq_true rfl) (gDec_at DX7_slips_0 5 rfl) ?_
  refine g_if_eqN hC (by decide) (gDec_at DX7_slips_0 6 rfl) 17 (by decide) (fun h => ?_) (fun h => absurd h (by decide))
  refine g_iload_n hC (gDec_at DX7_slips_0 9 rfl) rfl ?_
  refine g_i2lN hC (by omega) (gDec_at DX7_slips_0 10 rfl) ?_
  refine g_lconst hC (gDec_at DX7_slips_0 11 rfl) (v := lN 1) (by decide) ?_
  refine g_ldc2 hC cl_X7_229 (v' := lN 12) (by decide) (gDec_at DX7_slips_0 12 rfl) ?_
  refine g_callSd (w := wM q) hC (c_X7_in_yes q (v := n) (a := 1) (b := 12) (by omega) (by omega) (by omega)) sf_X7_in ml_X7_72 (by decide) rfl rfl (Nat.le_of_ble_eq_true rfl) (gDec_at DX7_slips_0 13 rfl) ?_
  refine g_if_eqN hC (by decide) (gDec_at DX7_slips_0 14 rfl) 54 (by decide) (fun h => absurd h (by decide)) (fun h => ?_)
  refine g_iload_n hC (gDec_at DX7_slips_0 15 rfl) rfl ?_
  refine g_i2lN hC (by omega) (gDec_at DX7_slips_0 16 rfl) ?_
  refine g_lconst hC (gDec_at DX7_slips_0 17 rfl) (v := lN 0) (by decide) ?_
  refine g_ldc2 hC cl_X7_231 (v' := lN 10) (by decide) (gDec_at DX7_slips_0 18 rfl) ?_
  refine g_callSd (w := wM q) hC (c_X7_in_yes q (v := t) (a := 0) (b := 10) (by omega) (by omega) (by omega)) sf_X7_in ml_X7_72 (by decide) rfl rfl (Nat.le_of_ble_eq_true rfl) (gDec_at DX7_slips_0 19 rfl) ?_
  refine g_if_eqN hC (by decide) (gDec_at DX7_slips_0 20 rfl) 54 (by decide) (fun h => absurd h (by decide)) (fun h => ?_)
  refine g_iload hC (gDec_at DX7_slips_0 21 rfl) rfl ?_
  refine g_i2l hC (gDec_at DX7_slips_0 22 rfl) rfl ?_
  refine g_lconst hC (gDec_at DX7_slips_0 23 rfl) (v := lN 0) (by decide) ?_
  refine g_ldc2 hC cl_X7_70 (v' := lN 40) (by decide) (gDec_at DX7_slips_0 24 rfl) ?_
  refine g_callSd (w := wM q) hC (c_X7_in_no q (by omega) (by omega) hy) sf_X7_in ml_X7_72 (by decide) rfl rfl (Nat.le_of_ble_eq_true rfl) (gDec_at DX7_slips_0 25 rfl) ?_
  refine g_if_neN hC (by decide) (gDec_at DX7_slips_0 26 rfl) 58 (by decide) (fun h => absurd h (by decide)) (fun h => ?_)
  refine g_ldc2 hC cl_X7_150 (v' := -2) rfl (gDec_at DX7_slips_0 27 rfl) ?_
  refine g_lret hC (gDec_at DX7_slips_0 28 rfl) ?_
  exact ⟨rfl, rfl⟩

set_option maxRecDepth 100000 in
set_option maxHeartbeats 4000000 in
theorem c_X7_slips_ok (q : gQ3) {M : gM} {B : gB} (hI : mI M B) {j : Nat} (hj : j < 12) (ht : j % 6 < B 9 0) {n : Nat} (hna : 1 ≤ n) (hnb : n ≤ 12) {t : Nat} (hta : 0 ≤ t) (htb : t ≤ 10) {y : Nat} (hya : 0 ≤ y) (hyb : y ≤ 40) {u : Nat} (hu : u ≤ 1) : gCt (wM q) yX7_slips cX7_slips 9 (some .long) 8 [.ref (q.2.2 0), .int (nI (10 * (j / 6) + j % 6)), .int (nI n), .int (nI t), .int (nI y), .int (nI u)] M (gR (some (.long (lN (sTo (sWay n t (fun h => n + h + y ≤ B 1 j)) (10 ^ n) u)))) M) := by
  refine gMet RX7 (by decide +kernel) rfl (Nat.le_of_ble_eq_true rfl) (fun X hC => ?_)
  have hC : gC X (wM q) cX7_slips 9 RX7 (some .long) 8 := hC
  show gG X (wM q) _ 9 M 0 [(0, .ref (q.2.2 0)), (1, .int (nI (10 * (j / 6) + j % 6))), (2, .int (nI n)), (3, .int (nI t)), (4, .int (nI y)), (5, .int (nI u))] []
  have h1 := bv_f1 hI.2.2 hj ht
  have hpw := pow10_le hnb
  have hpp : 0 < 10 ^ n := Nat.pow_pos (by omega)
  have hsw := sWay_le (P := fun h => n + h + y ≤ B 1 j) hnb htb
  refine g_aload_n hC (gDec_at DX7_slips_0 0 rfl) rfl ?_
  refine g_iconst hC (gDec_at DX7_slips_0 1 rfl) (v := nI 0) (by decide) ?_
  refine g_putI (w := wM q) hC 0 fl_X7_67 fp_7_0 (show 0 < 17 from by decide) rfl (Nat.le_of_ble_eq_true rfl) rfl rfl (gDec_at DX7_slips_0 2 rfl) ?_
  refine g_M (mi_0 hI) ?_
  refine g_aload_n hC (gDec_at DX7_slips_0 3 rfl) rfl ?_
  refine g_iload_n hC (gDec_at DX7_slips_0 4 rfl) rfl ?_
  refine g_callVd (w := wM q) hC 0 (c_X7_noPlace_in q hI hj (ht)) vf_X7_noPlace ml_X7_108 (by decide) (show 0 < 17 from by decide) rfl rfl rfl rfl rfl (Nat.le_of_ble_eq_true rfl) (gDec_at DX7_slips_0 5 rfl) ?_
  refine g_if_eqN hC (by decide) (gDec_at DX7_slips_0 6 rfl) 17 (by decide) (fun h => ?_) (fun h => absurd h (by decide))
  refine g_iload_n hC (gDec_at DX7_slips_0 9 rfl) rfl ?_
  refine g_i2lN hC (by omega) (gDec_at DX7_slips_0 10 rfl) ?_
  refine g_lconst hC (gDec_at DX7_slips_0 11 rfl) (v := lN 1) (by decide) ?_
  refine g_ldc2 hC cl_X7_229 (v' := lN 12) (by decide) (gDec_at DX7_slips_0 12 rfl) ?_
  refine g_callSd (w := wM q) hC (c_X7_in_yes q (v := n) (a := 1) (b := 12) (by omega) (by omega) (by omega)) sf_X7_in ml_X7_72 (by decide) rfl rfl (Nat.le_of_ble_eq_true rfl) (gDec_at DX7_slips_0 13 rfl) ?_
  refine g_if_eqN hC (by decide) (gDec_at DX7_slips_0 14 rfl) 54 (by decide) (fun h => absurd h (by decide)) (fun h => ?_)
  refine g_iload_n hC (gDec_at DX7_slips_0 15 rfl) rfl ?_
  refine g_i2lN hC (by omega) (gDec_at DX7_slips_0 16 rfl) ?_
  refine g_lconst hC (gDec_at DX7_slips_0 17 rfl) (v := lN 0) (by decide) ?_
  refine g_ldc2 hC cl_X7_231 (v' := lN 10) (by decide) (gDec_at DX7_slips_0 18 rfl) ?_
  refine g_callSd (w := wM q) hC (c_X7_in_yes q (v := t) (a := 0) (b := 10) (by omega) (by omega) (by omega)) sf_X7_in ml_X7_72 (by decide) rfl rfl (Nat.le_of_ble_eq_true rfl) (gDec_at DX7_slips_0 19 rfl) ?_
  refine g_if_eqN hC (by decide) (gDec_at DX7_slips_0 20 rfl) 54 (by decide) (fun h => absurd h (by decide)) (fun h => ?_)
  refine g_iload hC (gDec_at DX7_slips_0 21 rfl) rfl ?_
  refine g_i2lN hC (by omega) (gDec_at DX7_slips_0 22 rfl) ?_
  refine g_lconst hC (gDec_at DX7_slips_0 23 rfl) (v := lN 0) (by decide) ?_
  refine g_ldc2 hC cl_X7_70 (v' := lN 40) (by decide) (gDec_at DX7_slips_0 24 rfl) ?_
  refine g_callSd (w := wM q) hC (c_X7_in_yes q (v := y) (a := 0) (b := 40) (by omega) (by omega) (by omega)) sf_X7_in ml_X7_72 (by decide) rfl rfl (Nat.le_of_ble_eq_true rfl) (gDec_at DX7_slips_0 25 rfl) ?_
  refine g_if_neN hC (by decide) (gDec_at DX7_slips_0 26 rfl) 58 (by decide) (fun h => ?_) (fun h => absurd h (by decide))
  refine g_lconst hC (gDec_at DX7_slips_0 29 rfl) (v := lN 0) (by decide) ?_
  refine g_lstore hC (gDec_at DX7_slips_0 30 rfl) (by decide) (L' := [(6, .long (lN 0)), (0, .ref (q.2.2 0)), (1, .int (nI (10 * (j / 6) + j % 6))), (2, .int (nI n)), (3, .int (nI t)), (4, .int (nI y)), (5, .int (nI u))]) rfl ?_
  refine g_iconst hC (gDec_at DX7_slips_0 31 rfl) (v := nI 0) (by decide) ?_
  refine g_istore hC (gDec_at DX7_slips_0 32 rfl) (by decide) (L' := [(8, .int (nI 0)), (6, .long (lN 0)), (0, .ref (q.2.2 0)), (1, .int (nI (10 * (j / 6) + j % 6))), (2, .int (nI n)), (3, .int (nI t)), (4, .int (nI y)), (5, .int (nI u))]) rfl ?_
  have loop64 : ∀ (fu i : Nat), i ≤ (n + 1) → (n + 1) - i < fu → gG X (wM q) (gR (some (.long (lN (sTo (sWay n t (fun h => n + h + y ≤ B 1 j)) (10 ^ n) u)))) M) 9 M 64 [(0, .ref (q.2.2 0)), (1, .int (nI (10 * (j / 6) + j % 6))), (2, .int (nI n)), (3, .int (nI t)), (4, .int (nI y)), (5, .int (nI u)), (6, .long (lN (gsm (fun h => if n + h + y ≤ B 1 j then sTerm n t h else 0) i))), (8, .int (nI i))] [] := by
    intro fu; induction fu with
    | zero => intro i h1 h2; omega
    | succ fu ih =>
      intro i hi hfu 
      refine g_iload hC (gDec_at DX7_slips_0 33 rfl) rfl ?_
      refine g_iload_n hC (gDec_at DX7_slips_0 34 rfl) rfl ?_
      refine g_icmp_gtN hC (by omega) (by omega) (gDec_at DX7_slips_0 35 rfl) 111 (by decide) (fun h67 => ?_) (fun h67 => ?_)
      · skip
        obtain rfl : i = n + 1 := by omega
        refine g_lload hC (gDec_at DX7_slips_0 58 rfl) rfl ?_
        refine g_ldc2 hC cl_X7_231 (v' := lN 10) (by decide) (gDec_at DX7_slips_0 59 rfl) ?_
        refine g_iload_n hC (gDec_at DX7_slips_0 60 rfl) rfl ?_
        refine g_callSd (w := wM q) hC (c_X7_power q (b := 10) (n := n) (by omega)) sf_X7_power ml_X7_225 (by decide) rfl rfl (Nat.le_of_ble_eq_true rfl) (gDec_at DX7_slips_0 61 rfl) ?_
        refine g_iload hC (gDec_at DX7_slips_0 62 rfl) rfl ?_
        refine g_callSd (w := wM q) hC (c_X7_told q (a := (sWay n t (fun h => n + h + y ≤ B 1 j))) (b := 10 ^ n) (u := u) (by omega) (by omega) (by omega) (by omega)) sf_X7_told ml_X7_152 (by decide) rfl rfl (Nat.le_of_ble_eq_true rfl) (gDec_at DX7_slips_0 63 rfl) ?_
        refine g_lret hC (gDec_at DX7_slips_1 0 rfl) ?_
        exact ⟨rfl, rfl⟩
      · skip
        refine g_lload hC (gDec_at DX7_slips_0 36 rfl) rfl ?_
        refine g_aload_n hC (gDec_at DX7_slips_0 37 rfl) rfl ?_
        refine g_get (w := wM q) hC 0 (v := .ref (q.2.2 3)) fl_X7_20 (show 0 < 17 from by decide) rfl rfl (gDec_at DX7_slips_0 38 rfl) ?_
        refine g_iload_n hC (gDec_at DX7_slips_0 39 rfl) rfl ?_
        refine g_callSd (w := wM q) hC (c_X7_index q hj) sf_X7_index ml_X7_111 (by decide) rfl rfl (Nat.le_of_ble_eq_true rfl) (gDec_at DX7_slips_0 40 rfl) ?_
        refine g_iald (w := wM q) hC 3 0 j (x := (nI (B 1 j))) (show 3 < 17 from by decide) rfl rfl (by omega) (by decide) (mi_f1 hI hj ht) (gDec_at DX7_slips_0 41 rfl) ?_
        refine g_iload_n hC (gDec_at DX7_slips_0 42 rfl) rfl ?_
        refine g_isub hC (gDec_at DX7_slips_0 43 rfl) (v := (nI (B 1 j) - nI n)) rfl ?_
        refine g_iload hC (gDec_at DX7_slips_0 44 rfl) rfl ?_
        refine g_isub hC (gDec_at DX7_slips_0 45 rfl) (v := (nI (B 1 j) - nI n - nI i)) rfl ?_
        refine g_iload hC (gDec_at DX7_slips_0 46 rfl) rfl ?_
        refine g_icmp_lt hC (gDec_at DX7_slips_0 47 rfl) 101 (by decide) (fun h88 => ?_) (fun h88 => ?_)
        · skip
          have h88n : ¬ n + i + y ≤ B 1 j := fun z => (to_iff (d := B 1 j) (n := n) (y := i) (h := y) (by omega) (by omega) (by omega) (by omega)).mpr (by omega) h88
          refine g_lconst hC (gDec_at DX7_slips_0 53 rfl) (v := lN 0) (by decide) ?_
          refine g_laddN hC (gDec_at DX7_slips_0 54 rfl) ?_
          refine g_lstore hC (gDec_at DX7_slips_0 55 rfl) (by decide) (L' := [(6, .long (lN ((gsm (fun h => if n + h + y ≤ B 1 j then sTerm n t h else 0) i) + 0))), (0, .ref (q.2.2 0)), (1, .int (nI (10 * (j / 6) + j % 6))), (2, .int (nI n)), (3, .int (nI t)), (4, .int (nI y)), (5, .int (nI u)), (8, .int (nI i))]) rfl ?_
          refine g_iincN hC (gDec_at DX7_slips_0 56 rfl) rfl (by decide) (L' := [(8, .int (nI (i + 1))), (6, .long (lN ((gsm (fun h => if n + h + y ≤ B 1 j then sTerm n t h else 0) i) + 0))), (0, .ref (q.2.2 0)), (1, .int (nI (10 * (j / 6) + j % 6))), (2, .int (nI n)), (3, .int (nI t)), (4, .int (nI y)), (5, .int (nI u))]) rfl ?_
          refine g_goto hC (gDec_at DX7_slips_0 57 rfl) 64 (by decide) ?_
          refine g_sub [2, 3, 4, 5, 6, 7, 1, 0] (L' := [(0, .ref (q.2.2 0)), (1, .int (nI (10 * (j / 6) + j % 6))), (2, .int (nI n)), (3, .int (nI t)), (4, .int (nI y)), (5, .int (nI u)), (6, .long (lN ((gsm (fun h => if n + h + y ≤ B 1 j then sTerm n t h else 0) i) + 0))), (8, .int (nI (i + 1)))]) rfl ?_
          have h9 := ih (i + 1) (by omega) (by omega)
          rw [gsm_s0 (f := (fun h => if n + h + y ≤ B 1 j then sTerm n t h else 0)) (if_neg h88n)] at h9
          exact h9
        · skip
          have h88n : n + i + y ≤ B 1 j := by have := (to_iff (d := B 1 j) (n := n) (y := i) (h := y) (by omega) (by omega) (by omega) (by omega)).mp h88; omega
          refine g_iload_n hC (gDec_at DX7_slips_0 48 rfl) rfl ?_
          refine g_iload hC (gDec_at DX7_slips_0 49 rfl) rfl ?_
          refine g_iload_n hC (gDec_at DX7_slips_0 50 rfl) rfl ?_
          refine g_callSd (w := wM q) hC (c_X7_just q (n := n) (k := i) (t := t) (by omega) (by omega) (by omega)) sf_X7_just ml_X7_233 (by decide) rfl rfl (Nat.le_of_ble_eq_true rfl) (gDec_at DX7_slips_0 51 rfl) ?_
          refine g_goto hC (gDec_at DX7_slips_0 52 rfl) 102 (by decide) ?_
          refine g_laddN hC (gDec_at DX7_slips_0 54 rfl) ?_
          refine g_lstore hC (gDec_at DX7_slips_0 55 rfl) (by decide) (L' := [(6, .long (lN ((gsm (fun h => if n + h + y ≤ B 1 j then sTerm n t h else 0) i) + (sTerm n t i)))), (0, .ref (q.2.2 0)), (1, .int (nI (10 * (j / 6) + j % 6))), (2, .int (nI n)), (3, .int (nI t)), (4, .int (nI y)), (5, .int (nI u)), (8, .int (nI i))]) rfl ?_
          refine g_iincN hC (gDec_at DX7_slips_0 56 rfl) rfl (by decide) (L' := [(8, .int (nI (i + 1))), (6, .long (lN ((gsm (fun h => if n + h + y ≤ B 1 j then sTerm n t h else 0) i) + (sTerm n t i)))), (0, .ref (q.2.2 0)), (1, .int (nI (10 * (j / 6) + j % 6))), (2, .int (nI n)), (3, .int (nI t)), (4, .int (nI y)), (5, .int (nI u))]) rfl ?_
          refine g_goto hC (gDec_at DX7_slips_0 57 rfl) 64 (by decide) ?_
          refine g_sub [2, 3, 4, 5, 6, 7, 1, 0] (L' := [(0, .ref (q.2.2 0)), (1, .int (nI (10 * (j / 6) + j % 6))), (2, .int (nI n)), (3, .int (nI t)), (4, .int (nI y)), (5, .int (nI u)), (6, .long (lN ((gsm (fun h => if n + h + y ≤ B 1 j then sTerm n t h else 0) i) + (sTerm n t i)))), (8, .int (nI (i + 1)))]) rfl ?_
          have h9 := ih (i + 1) (by omega) (by omega)
          rw [gsm_s (f := (fun h => if n + h + y ≤ B 1 j then sTerm n t h else 0)) (if_pos h88n)] at h9
          exact h9
  exact g_sub [2, 3, 4, 5, 6, 7, 1, 0] rfl (loop64 ((n + 1) + 1 - 0) 0 (by omega) (by omega))

set_option maxRecDepth 100000 in
set_option maxHeartbeats 4000000 in
theorem c_X7_good_badm (q : gQ3) {M : gM} {B : gB} (hI : mI M B) {m : Int32} (hm : ¬ gin m 1 12) {t k : Int32} {u : Nat} (hu : u ≤ 1) : gCt (wM q) yX7_good cX7_good 8 (some .long) 8 [.ref (q.2.2 0), .int m, .int t, .int k, .int (nI u)] M (gR (some (.long (-2))) M) := by
  refine gMet RX7 (by decide +kernel) rfl (Nat.le_of_ble_eq_true rfl) (fun X hC => ?_)
  have hC : gC X (wM q) cX7_good 8 RX7 (some .long) 8 := hC
  show gG X (wM q) _ 8 M 0 [(0, .ref (q.2.2 0)), (1, .int m), (2, .int t), (3, .int k), (4, .int (nI u))] []
  refine g_aload_n hC (gDec_at DX7_good_0 0 rfl) rfl ?_
  refine g_iconst hC (gDec_at DX7_good_0 1 rfl) (v := nI 0) (by decide) ?_
  refine g_putI (w := wM q) hC 0 fl_X7_67 fp_7_0 (show 0 < 17 from by decide) rfl (Nat.le_of_ble_eq_true rfl) rfl rfl (gDec_at DX7_good_0 2 rfl) ?_
  refine g_M (mi_0 hI) ?_
  refine g_iload_n hC (gDec_at DX7_good_0 3 rfl) rfl ?_
  refine g_i2l hC (gDec_at DX7_good_0 4 rfl) rfl ?_
  refine g_lconst hC (gDec_at DX7_good_0 5 rfl) (v := lN 1) (by decide) ?_
  refine g_ldc2 hC cl_X7_229 (v' := lN 12) (by decide) (gDec_at DX7_good_0 6 rfl) ?_
  refine g_callSd (w := wM q) hC (c_X7_in_no q (by omega) (by omega) hm) sf_X7_in ml_X7_72 (by decide) rfl rfl (Nat.le_of_ble_eq_true rfl) (gDec_at DX7_good_0 7 rfl) ?_
  refine g_if_eqN hC (by decide) (gDec_at DX7_good_0 8 rfl) 40 (by decide) (fun h => ?_) (fun h => absurd h (by decide))
  refine g_ldc2 hC cl_X7_150 (v' := -2) rfl (gDec_at DX7_good_0 22 rfl) ?_
  refine g_lret hC (gDec_at DX7_good_0 23 rfl) ?_
  exact ⟨rfl, rfl⟩

set_option maxRecDepth 100000 in
set_option maxHeartbeats 4000000 in
theorem c_X7_good_badt (q : gQ3) {M : gM} {B : gB} (hI : mI M B) {m : Nat} (hma : 1 ≤ m) (hmb : m ≤ 12) {t : Int32} (ht : ¬ gin t 0 10) {k : Int32} {u : Nat} (hu : u ≤ 1) : gCt (wM q) yX7_good cX7_good 8 (some .long) 8 [.ref (q.2.2 0), .int (nI m), .int t, .int k, .int (nI u)] M (gR (some (.long (-2))) M) := by
  refine gMet RX7 (by decide +kernel) rfl (Nat.le_of_ble_eq_true rfl) (fun X hC => ?_)
  have hC : gC X (wM q) cX7_good 8 RX7 (some .long) 8 := hC
  show gG X (wM q) _ 8 M 0 [(0, .ref (q.2.2 0)), (1, .int (nI m)), (2, .int t), (3, .int k), (4, .int (nI u))] []
  refine g_aload_n hC (gDec_at DX7_good_0 0 rfl) rfl ?_
  refine g_iconst hC (gDec_at DX7_good_0 1 rfl) (v := nI 0) (by decide) ?_
  refine g_putI (w := wM q) hC 0 fl_X7_67 fp_7_0 (show 0 < 17 from by decide) rfl (Nat.le_of_ble_eq_true rfl) rfl rfl (gDec_at DX7_good_0 2 rfl) ?_
  refine g_M (mi_0 hI) ?_
  refine g_iload_n hC (gDec_at DX7_good_0 3 rfl) rfl ?_
  refine g_i2lN hC (by omega) (gDec_at DX7_good_0 4 rfl) ?_
  refine g_lconst hC (gDec_at DX7_good_0 5 rfl) (v := lN 1) (by decide) ?_
  refine g_ldc2 hC cl_X7_229 (v' := lN 12) (by decide) (gDec_at DX7_good_0 6 rfl) ?_
  refine g_callSd (w := wM q) hC (c_X7_in_yes q (v := m) (a := 1) (b := 12) (by omega) (by omega) (by omega)) sf_X7_in ml_X7_72 (by decide) rfl rfl (Nat.le_of_ble_eq_true rfl) (gDec_at DX7_good_0 7 rfl) ?_
  refine g_if_eqN hC (by decide) (gDec_at DX7_good_0 8 rfl) 40 (by decide) (fun h => absurd h (by decide)) (fun h => ?_)
  refine g_iload_n hC (gDec_at DX7_good_0 9 rfl) rfl ?_
  refine g_i2l hC (gDec_at DX7_good_0 10 rfl) rfl ?_
  refine g_lconst hC (gDec_at DX7_good_0 11 rfl) (v := lN 0) (by decide) ?_
  refine g_ldc2 hC cl_X7_231 (v' := lN 10) (by decide) (gDec_at DX7_good_0 12 rfl) ?_
  refine g_callSd (w := wM q) hC (c_X7_in_no q (by omega) (by omega) ht) sf_X7_in ml_X7_72 (by decide) rfl rfl (Nat.le_of_ble_eq_true rfl) (gDec_at DX7_good_0 13 rfl) ?_
  refine g_if_eqN hC (by decide) (gDec_at DX7_good_0 14 rfl) 40 (by decide) (fun h => ?_) (fun h => absurd h (by decide))
  refine g_ldc2 hC cl_X7_150 (v' := -2) rfl (gDec_at DX7_good_0 22 rfl) ?_
  refine g_lret hC (gDec_at DX7_good_0 23 rfl) ?_
  exact ⟨rfl, rfl⟩

set_option maxRecDepth 100000 in
set_option maxHeartbeats 4000000 in
theorem c_X7_good_badk (q : gQ3) {M : gM} {B : gB} (hI : mI M B) {m : Nat} (hma : 1 ≤ m) (hmb : m ≤ 12) {t : Nat} (hta : 0 ≤ t) (htb : t ≤ 10) {k : Int32} (hk : ¬ gin k 0 m) {u : Nat} (hu : u ≤ 1) : gCt (wM q) yX7_good cX7_good 8 (some .long) 8 [.ref (q.2.2 0), .int (nI m), .int (nI t), .int k, .int (nI u)] M (gR (some (.long (-2))) M) := by
  refine gMet RX7 (by decide +kernel) rfl (Nat.le_of_ble_eq_true rfl) (fun X hC => ?_)
  have hC : gC X (wM q) cX7_good 8 RX7 (some .long) 8 := hC
  show gG X (wM q) _ 8 M 0 [(0, .ref (q.2.2 0)), (1, .int (nI m)), (2, .int (nI t)), (3, .int k), (4, .int (nI u))] []
  refine g_aload_n hC (gDec_at DX7_good_0 0 rfl) rfl ?_
  refine g_iconst hC (gDec_at DX7_good_0 1 rfl) (v := nI 0) (by decide) ?_
  refine g_putI (w := wM q) hC 0 fl_X7_67 fp_7_0 (show 0 < 17 from by decide) rfl (Nat.le_of_ble_eq_true rfl) rfl rfl (gDec_at DX7_good_0 2 rfl) ?_
  refine g_M (mi_0 hI) ?_
  refine g_iload_n hC (gDec_at DX7_good_0 3 rfl) rfl ?_
  refine g_i2lN hC (by omega) (gDec_at DX7_good_0 4 rfl) ?_
  refine g_lconst hC (gDec_at DX7_good_0 5 rfl) (v := lN 1) (by decide) ?_
  refine g_ldc2 hC cl_X7_229 (v' := lN 12) (by decide) (gDec_at DX7_good_0 6 rfl) ?_
  refine g_callSd (w := wM q) hC (c_X7_in_yes q (v := m) (a := 1) (b := 12) (by omega) (by omega) (by omega)) sf_X7_in ml_X7_72 (by decide) rfl rfl (Nat.le_of_ble_eq_true rfl) (gDec_at DX7_good_0 7 rfl) ?_
  refine g_if_eqN hC (by decide) (gDec_at DX7_good_0 8 rfl) 40 (by decide) (fun h => absurd h (by decide)) (fun h => ?_)
  refine g_iload_n hC (gDec_at DX7_good_0 9 rfl) rfl ?_
  refine g_i2lN hC (by omega) (gDec_at DX7_good_0 10 rfl) ?_
  refine g_lconst hC (gDec_at DX7_good_0 11 rfl) (v := lN 0) (by decide) ?_
  refine g_ldc2 hC cl_X7_231 (v' := lN 10) (by decide) (gDec_at DX7_good_0 12 rfl) ?_
  refine g_callSd (w := wM q) hC (c_X7_in_yes q (v := t) (a := 0) (b := 10) (by omega) (by omega) (by omega)) sf_X7_in ml_X7_72 (by decide) rfl rfl (Nat.le_of_ble_eq_true rfl) (gDec_at DX7_good_0 13 rfl) ?_
  refine g_if_eqN hC (by decide) (gDec_at DX7_good_0 14 rfl) 40 (by decide) (fun h => absurd h (by decide)) (fun h => ?_)
  refine g_iload_n hC (gDec_at DX7_good_0 15 rfl) rfl ?_
  refine g_i2l hC (gDec_at DX7_good_0 16 rfl) rfl ?_
  refine g_lconst hC (gDec_at DX7_good_0 17 rfl) (v := lN 0) (by decide) ?_
  refine g_iload_n hC (gDec_at DX7_good_0 18 rfl) rfl ?_
  refine g_i2lN hC (by omega) (gDec_at DX7_good_0 19 rfl) ?_
  refine g_callSd (w := wM q) hC (c_X7_in_no q (by omega) (by omega) hk) sf_X7_in ml_X7_72 (by decide) rfl rfl (Nat.le_of_ble_eq_true rfl) (gDec_at DX7_good_0 20 rfl) ?_
  refine g_if_neN hC (by decide) (gDec_at DX7_good_0 21 rfl) 44 (by decide) (fun h => absurd h (by decide)) (fun h => ?_)
  refine g_ldc2 hC cl_X7_150 (v' := -2) rfl (gDec_at DX7_good_0 22 rfl) ?_
  refine g_lret hC (gDec_at DX7_good_0 23 rfl) ?_
  exact ⟨rfl, rfl⟩

set_option maxRecDepth 100000 in
set_option maxHeartbeats 4000000 in
theorem c_X7_good_ok (q : gQ3) {M : gM} {B : gB} (hI : mI M B) {m : Nat} (hma : 1 ≤ m) (hmb : m ≤ 12) {t : Nat} (hta : 0 ≤ t) (htb : t ≤ 10) {k : Nat} (hk : k ≤ m) {u : Nat} (hu : u ≤ 1) : gCt (wM q) yX7_good cX7_good 8 (some .long) 8 [.ref (q.2.2 0), .int (nI m), .int (nI t), .int (nI k), .int (nI u)] M (gR (some (.long (lN (sTo (sWay m t (fun h => k ≤ h)) (10 ^ m) u)))) M) := by
  refine gMet RX7 (by decide +kernel) rfl (Nat.le_of_ble_eq_true rfl) (fun X hC => ?_)
  have hC : gC X (wM q) cX7_good 8 RX7 (some .long) 8 := hC
  show gG X (wM q) _ 8 M 0 [(0, .ref (q.2.2 0)), (1, .int (nI m)), (2, .int (nI t)), (3, .int (nI k)), (4, .int (nI u))] []
  have hpw := pow10_le hmb
  have hpp : 0 < 10 ^ m := Nat.pow_pos (by omega)
  have hsw := sWay_le (P := fun h => k ≤ h) hmb htb
  refine g_aload_n hC (gDec_at DX7_good_0 0 rfl) rfl ?_
  refine g_iconst hC (gDec_at DX7_good_0 1 rfl) (v := nI 0) (by decide) ?_
  refine g_putI (w := wM q) hC 0 fl_X7_67 fp_7_0 (show 0 < 17 from by decide) rfl (Nat.le_of_ble_eq_true rfl) rfl rfl (gDec_at DX7_good_0 2 rfl) ?_
  refine g_M (mi_0 hI) ?_
  refine g_iload_n hC (gDec_at DX7_good_0 3 rfl) rfl ?_
  refine g_i2lN hC (by omega) (gDec_at DX7_good_0 4 rfl) ?_
  refine g_lconst hC (gDec_at DX7_good_0 5 rfl) (v := lN 1) (by decide) ?_
  refine g_ldc2 hC cl_X7_229 (v' := lN 12) (by decide) (gDec_at DX7_good_0 6 rfl) ?_
  refine g_callSd (w := wM q) hC (c_X7_in_yes q (v := m) (a := 1) (b := 12) (by omega) (by omega) (by omega)) sf_X7_in ml_X7_72 (by decide) rfl rfl (Nat.le_of_ble_eq_true rfl) (gDec_at DX7_good_0 7 rfl) ?_
  refine g_if_eqN hC (by decide) (gDec_at DX7_good_0 8 rfl) 40 (by decide) (fun h => absurd h (by decide)) (fun h => ?_)
  refine g_iload_n hC (gDec_at DX7_good_0 9 rfl) rfl ?_
  refine g_i2lN hC (by omega) (gDec_at DX7_good_0 10 rfl) ?_
  refine g_lconst hC (gDec_at DX7_good_0 11 rfl) (v := lN 0) (by decide) ?_
  refine g_ldc2 hC cl_X7_231 (v' := lN 10) (by decide) (gDec_at DX7_good_0 12 rfl) ?_
  refine g_callSd (w := wM q) hC (c_X7_in_yes q (v := t) (a := 0) (b := 10) (by omega) (by omega) (by omega)) sf_X7_in ml_X7_72 (by decide) rfl rfl (Nat.le_of_ble_eq_true rfl) (gDec_at DX7_good_0 13 rfl) ?_
  refine g_if_eqN hC (by decide) (gDec_at DX7_good_0 14 rfl) 40 (by decide) (fun h => absurd h (by decide)) (fun h => ?_)
  refine g_iload_n hC (gDec_at DX7_good_0 15 rfl) rfl ?_
  refine g_i2lN hC (by omega) (gDec_at DX7_good_0 16 rfl) ?_
  refine g_lconst hC (gDec_at DX7_good_0 17 rfl) (v := lN 0) (by decide) ?_
  refine g_iload_n hC (gDec_at DX7_good_0 18 rfl) rfl ?_
  refine g_i2lN hC (by omega) (gDec_at DX7_good_0 19 rfl) ?_
  refine g_callSd (w := wM q) hC (c_X7_in_yes q (v := k) (a := 0) (b := m) (by omega) (by omega) (by omega)) sf_X7_in ml_X7_72 (by decide) rfl rfl (Nat.le_of_ble_eq_true rfl) (gDec_at DX7_good_0 20 rfl) ?_
  refine g_if_neN hC (by decide) (gDec_at DX7_good_0 21 rfl) 44 (by decide) (fun h => ?_) (fun h => absurd h (by decide))
  refine g_lconst hC (gDec_at DX7_good_0 24 rfl) (v := lN 0) (by decide) ?_
  refine g_lstore hC (gDec_at DX7_good_0 25 rfl) (by decide) (L' := [(5, .long (lN 0)), (0, .ref (q.2.2 0)), (1, .int (nI m)), (2, .int (nI t)), (3, .int (nI k)), (4, .int (nI u))]) rfl ?_
  refine g_iload_n hC (gDec_at DX7_good_0 26 rfl) rfl ?_
  refine g_istore hC (gDec_at DX7_good_0 27 rfl) (by decide) (L' := [(7, .int (nI k)), (5, .long (lN 0)), (0, .ref (q.2.2 0)), (1, .int (nI m)), (2, .int (nI t)), (3, .int (nI k)), (4, .int (nI u))]) rfl ?_
  have loop50 : ∀ (fu i : Nat) (acc : Nat), i ≤ (m + 1) → (m + 1) - i < fu → acc = gsm (fun h => if k ≤ h then sTerm m t h else 0) i → k ≤ i → gG X (wM q) (gR (some (.long (lN (sTo (sWay m t (fun h => k ≤ h)) (10 ^ m) u)))) M) 8 M 50 [(0, .ref (q.2.2 0)), (1, .int (nI m)), (2, .int (nI t)), (3, .int (nI k)), (4, .int (nI u)), (5, .long (lN acc)), (7, .int (nI i))] [] := by
    intro fu; induction fu with
    | zero => intro i acc h1 h2; omega
    | succ fu ih =>
      intro i acc hi hfu hac hki
      subst hac
      skip
      · skip
        refine g_iload hC (gDec_at DX7_good_0 28 rfl) rfl ?_
        refine g_iload_n hC (gDec_at DX7_good_0 29 rfl) rfl ?_
        refine g_icmp_gtN hC (by omega) (by omega) (gDec_at DX7_good_0 30 rfl) 74 (by decide) (fun h53 => ?_) (fun h53 => ?_)
        · skip
          obtain rfl : i = m + 1 := by omega
          refine g_lload hC (gDec_at DX7_good_0 40 rfl) rfl ?_
          refine g_ldc2 hC cl_X7_231 (v' := lN 10) (by decide) (gDec_at DX7_good_0 41 rfl) ?_
          refine g_iload_n hC (gDec_at DX7_good_0 42 rfl) rfl ?_
          refine g_callSd (w := wM q) hC (c_X7_power q (b := 10) (n := m) (by omega)) sf_X7_power ml_X7_225 (by decide) rfl rfl (Nat.le_of_ble_eq_true rfl) (gDec_at DX7_good_0 43 rfl) ?_
          refine g_iload hC (gDec_at DX7_good_0 44 rfl) rfl ?_
          refine g_callSd (w := wM q) hC (c_X7_told q (a := (sWay m t (fun h => k ≤ h))) (b := 10 ^ m) (u := u) (by omega) (by omega) (by omega) (by omega)) sf_X7_told ml_X7_152 (by decide) rfl rfl (Nat.le_of_ble_eq_true rfl) (gDec_at DX7_good_0 45 rfl) ?_
          refine g_lret hC (gDec_at DX7_good_0 46 rfl) ?_
          exact ⟨rfl, rfl⟩
        · skip
          refine g_lload hC (gDec_at DX7_good_0 31 rfl) rfl ?_
          refine g_iload_n hC (gDec_at DX7_good_0 32 rfl) rfl ?_
          refine g_iload hC (gDec_at DX7_good_0 33 rfl) rfl ?_
          refine g_iload_n hC (gDec_at DX7_good_0 34 rfl) rfl ?_
          refine g_callSd (w := wM q) hC (c_X7_just q (n := m) (k := i) (t := t) (by omega) (by omega) (by omega)) sf_X7_just ml_X7_233 (by decide) rfl rfl (Nat.le_of_ble_eq_true rfl) (gDec_at DX7_good_0 35 rfl) ?_
          refine g_laddN hC (gDec_at DX7_good_0 36 rfl) ?_
          refine g_lstore hC (gDec_at DX7_good_0 37 rfl) (by decide) (L' := [(5, .long (lN ((gsm (fun h => if k ≤ h then sTerm m t h else 0) i) + (sTerm m t i)))), (0, .ref (q.2.2 0)), (1, .int (nI m)), (2, .int (nI t)), (3, .int (nI k)), (4, .int (nI u)), (7, .int (nI i))]) rfl ?_
          refine g_iincN hC (gDec_at DX7_good_0 38 rfl) rfl (by decide) (L' := [(7, .int (nI (i + 1))), (5, .long (lN ((gsm (fun h => if k ≤ h then sTerm m t h else 0) i) + (sTerm m t i)))), (0, .ref (q.2.2 0)), (1, .int (nI m)), (2, .int (nI t)), (3, .int (nI k)), (4, .int (nI u))]) rfl ?_
          refine g_goto hC (gDec_at DX7_good_0 39 rfl) 50 (by decide) ?_
          refine g_sub [2, 3, 4, 5, 6, 1, 0] (L' := [(0, .ref (q.2.2 0)), (1, .int (nI m)), (2, .int (nI t)), (3, .int (nI k)), (4, .int (nI u)), (5, .long (lN ((gsm (fun h => if k ≤ h then sTerm m t h else 0) i) + (sTerm m t i)))), (7, .int (nI (i + 1)))]) rfl ?_
          have h9 := ih (i + 1) _ (by omega) (by omega) (gsm_s (f := (fun h => if k ≤ h then sTerm m t h else 0)) (if_pos hki)).symm (by omega)
          exact h9
  exact g_sub [2, 3, 4, 5, 6, 1, 0] rfl (loop50 ((m + 1) + 1 - k) k 0 (by omega) (by omega) (gsm_z (fun h hh => if_neg (by omega))).symm (by omega))

set_option maxRecDepth 100000 in
set_option maxHeartbeats 4000000 in
theorem c_X7_count_0 (q : gQ3) {M : gM} {B : gB} (hI : mI M B) {tl : Nat} {tb : Nat → Nat} (hT : mT M tl tb) : gCt (wM q) yX7_count cX7_count 4 (some .int) 8 [.ref (q.2.2 0), .int (nI 0)] M (gR (some (.int (nI tl))) M) := by
  refine gMet RX7 (by decide +kernel) rfl (Nat.le_of_ble_eq_true rfl) (fun X hC => ?_)
  have hC : gC X (wM q) cX7_count 4 RX7 (some .int) 8 := hC
  show gG X (wM q) _ 4 M 0 [(0, .ref (q.2.2 0)), (1, .int (nI 0))] []
  refine g_aload_n hC (gDec_at DX7_count_0 0 rfl) rfl ?_
  refine g_iconst hC (gDec_at DX7_count_0 1 rfl) (v := nI 0) (by decide) ?_
  refine g_putI (w := wM q) hC 0 fl_X7_67 fp_7_0 (show 0 < 17 from by decide) rfl (Nat.le_of_ble_eq_true rfl) rfl rfl (gDec_at DX7_count_0 2 rfl) ?_
  refine g_M (mi_0 hI) ?_
  refine g_iconst hC (gDec_at DX7_count_0 3 rfl) (v := nI 0) (by decide) ?_
  refine g_istore_n hC (gDec_at DX7_count_0 4 rfl) (by decide) (L' := [(2, .int (nI 0)), (0, .ref (q.2.2 0)), (1, .int (nI 0))]) rfl ?_
  refine g_iconst hC (gDec_at DX7_count_0 5 rfl) (v := nI 0) (by decide) ?_
  refine g_istore_n hC (gDec_at DX7_count_0 6 rfl) (by decide) (L' := [(3, .int (nI 0)), (2, .int (nI 0)), (0, .ref (q.2.2 0)), (1, .int (nI 0))]) rfl ?_
  have loop9 : ∀ (fu i : Nat), i ≤ 12 → 12 - i < fu → gG X (wM q) (gR (some (.int (nI tl))) M) 4 M 9 [(0, .ref (q.2.2 0)), (1, .int (nI 0)), (2, .int (nI (gsm (fun j => if j % 6 < B 9 0 then B 4 j else 0) i))), (3, .int (nI i))] [] := by
    intro fu; induction fu with
    | zero => intro i h1 h2; omega
    | succ fu ih =>
      intro i hi hfu 
      refine g_iload_n hC (gDec_at DX7_count_0 7 rfl) rfl ?_
      refine g_bipush hC (gDec_at DX7_count_0 8 rfl) (v := nI 12) (by decide) ?_
      refine g_icmp_geN hC (by omega) (by omega) (gDec_at DX7_count_0 9 rfl) 42 (by decide) (fun h12 => ?_) (fun h12 => ?_)
      · skip
        obtain rfl : i = 12 := by omega
        refine g_iload_n hC (gDec_at DX7_count_0 25 rfl) rfl ?_
        refine g_tableIn hC (gDec_at DX7_count_0 26 rfl) 76 (by decide) (by decide) rfl (by decide) ?_
        refine g_aload_n hC (gDec_at DX7_count_0 27 rfl) rfl ?_
        refine g_get (w := wM q) hC 0 (v := .int (nI tl)) fl_X7_80 (show 0 < 17 from by decide) rfl (g_sv hT.1) (gDec_at DX7_count_0 28 rfl) ?_
        refine g_iret hC (gDec_at DX7_count_0 29 rfl) ?_
        exact ⟨rfl, rfl⟩
      · skip
        refine g_iload_n hC (gDec_at DX7_count_0 10 rfl) rfl ?_
        refine g_aload_n hC (gDec_at DX7_count_0 11 rfl) rfl ?_
        refine g_iload_n hC (gDec_at DX7_count_0 12 rfl) rfl ?_
        refine g_callVd (w := wM q) hC 0 (c_X7_isThere q hI (i := i) (by omega)) vf_X7_isThere ml_X7_128 (by decide) (show 0 < 17 from by decide) rfl rfl rfl rfl rfl (Nat.le_of_ble_eq_true rfl) (gDec_at DX7_count_0 13 rfl) ?_
        refine g_if_eqB hC (gDec_at DX7_count_0 14 rfl) 33 (by decide) (fun h21 => ?_) (fun h21 => ?_)
        · skip
          refine g_iconst hC (gDec_at DX7_count_0 20 rfl) (v := nI 0) (by decide) ?_
          refine g_iaddN hC (gDec_at DX7_count_0 21 rfl) ?_
          refine g_istore_n hC (gDec_at DX7_count_0 22 rfl) (by decide) (L' := [(2, .int (nI ((gsm (fun j => if j % 6 < B 9 0 then B 4 j else 0) i) + 0))), (0, .ref (q.2.2 0)), (1, .int (nI 0)), (3, .int (nI i))]) rfl ?_
          refine g_iincN hC (gDec_at DX7_count_0 23 rfl) rfl (by decide) (L' := [(3, .int (nI (i + 1))), (2, .int (nI ((gsm (fun j => if j % 6 < B 9 0 then B 4 j else 0) i) + 0))), (0, .ref (q.2.2 0)), (1, .int (nI 0))]) rfl ?_
          refine g_goto hC (gDec_at DX7_count_0 24 rfl) 9 (by decide) ?_
          refine g_sub [2, 3, 1, 0] (L' := [(0, .ref (q.2.2 0)), (1, .int (nI 0)), (2, .int (nI ((gsm (fun j => if j % 6 < B 9 0 then B 4 j else 0) i) + 0))), (3, .int (nI (i + 1)))]) rfl ?_
          have h9 := ih (i + 1) (by omega) (by omega)
          rw [gsm_s0 (f := (fun j => if j % 6 < B 9 0 then B 4 j else 0)) (if_neg h21)] at h9
          exact h9
        · skip
          refine g_aload_n hC (gDec_at DX7_count_0 15 rfl) rfl ?_
          refine g_get (w := wM q) hC 0 (v := .ref (q.2.2 6)) fl_X7_29 (show 0 < 17 from by decide) rfl rfl (gDec_at DX7_count_0 16 rfl) ?_
          refine g_iload_n hC (gDec_at DX7_count_0 17 rfl) rfl ?_
          refine g_iald (w := wM q) hC 6 0 i (x := (nI (B 4 i))) (show 6 < 17 from by decide) rfl rfl (by omega) (by decide) (mi_f4 hI (by omega) (by omega)) (gDec_at DX7_count_0 18 rfl) ?_
          refine g_goto hC (gDec_at DX7_count_0 19 rfl) 34 (by decide) ?_
          refine g_iaddN hC (gDec_at DX7_count_0 21 rfl) ?_
          refine g_istore_n hC (gDec_at DX7_count_0 22 rfl) (by decide) (L' := [(2, .int (nI ((gsm (fun j => if j % 6 < B 9 0 then B 4 j else 0) i) + (B 4 i)))), (0, .ref (q.2.2 0)), (1, .int (nI 0)), (3, .int (nI i))]) rfl ?_
          refine g_iincN hC (gDec_at DX7_count_0 23 rfl) rfl (by decide) (L' := [(3, .int (nI (i + 1))), (2, .int (nI ((gsm (fun j => if j % 6 < B 9 0 then B 4 j else 0) i) + (B 4 i)))), (0, .ref (q.2.2 0)), (1, .int (nI 0))]) rfl ?_
          refine g_goto hC (gDec_at DX7_count_0 24 rfl) 9 (by decide) ?_
          refine g_sub [2, 3, 1, 0] (L' := [(0, .ref (q.2.2 0)), (1, .int (nI 0)), (2, .int (nI ((gsm (fun j => if j % 6 < B 9 0 then B 4 j else 0) i) + (B 4 i)))), (3, .int (nI (i + 1)))]) rfl ?_
          have h9 := ih (i + 1) (by omega) (by omega)
          rw [gsm_s (f := (fun j => if j % 6 < B 9 0 then B 4 j else 0)) (if_pos h21)] at h9
          exact h9
  exact g_sub [2, 3, 1, 0] rfl (loop9 (12 + 1 - 0) 0 (by omega) (by omega))

set_option maxRecDepth 100000 in
set_option maxHeartbeats 4000000 in
theorem c_X7_count_1 (q : gQ3) {M : gM} {B : gB} (hI : mI M B) {tl : Nat} {tb : Nat → Nat} (hT : mT M tl tb) : gCt (wM q) yX7_count cX7_count 4 (some .int) 8 [.ref (q.2.2 0), .int (nI 1)] M (gR (some (.int (nI (B 9 0)))) M) := by
  refine gMet RX7 (by decide +kernel) rfl (Nat.le_of_ble_eq_true rfl) (fun X hC => ?_)
  have hC : gC X (wM q) cX7_count 4 RX7 (some .int) 8 := hC
  show gG X (wM q) _ 4 M 0 [(0, .ref (q.2.2 0)), (1, .int (nI 1))] []
  refine g_aload_n hC (gDec_at DX7_count_0 0 rfl) rfl ?_
  refine g_iconst hC (gDec_at DX7_count_0 1 rfl) (v := nI 0) (by decide) ?_
  refine g_putI (w := wM q) hC 0 fl_X7_67 fp_7_0 (show 0 < 17 from by decide) rfl (Nat.le_of_ble_eq_true rfl) rfl rfl (gDec_at DX7_count_0 2 rfl) ?_
  refine g_M (mi_0 hI) ?_
  refine g_iconst hC (gDec_at DX7_count_0 3 rfl) (v := nI 0) (by decide) ?_
  refine g_istore_n hC (gDec_at DX7_count_0 4 rfl) (by decide) (L' := [(2, .int (nI 0)), (0, .ref (q.2.2 0)), (1, .int (nI 1))]) rfl ?_
  refine g_iconst hC (gDec_at DX7_count_0 5 rfl) (v := nI 0) (by decide) ?_
  refine g_istore_n hC (gDec_at DX7_count_0 6 rfl) (by decide) (L' := [(3, .int (nI 0)), (2, .int (nI 0)), (0, .ref (q.2.2 0)), (1, .int (nI 1))]) rfl ?_
  have loop9 : ∀ (fu i : Nat), i ≤ 12 → 12 - i < fu → gG X (wM q) (gR (some (.int (nI (B 9 0)))) M) 4 M 9 [(0, .ref (q.2.2 0)), (1, .int (nI 1)), (2, .int (nI (gsm (fun j => if j % 6 < B 9 0 then B 4 j else 0) i))), (3, .int (nI i))] [] := by
    intro fu; induction fu with
    | zero => intro i h1 h2; omega
    | succ fu ih =>
      intro i hi hfu 
      refine g_iload_n hC (gDec_at DX7_count_0 7 rfl) rfl ?_
      refine g_bipush hC (gDec_at DX7_count_0 8 rfl) (v := nI 12) (by decide) ?_
      refine g_icmp_geN hC (by omega) (by omega) (gDec_at DX7_count_0 9 rfl) 42 (by decide) (fun h12 => ?_) (fun h12 => ?_)
      · skip
        obtain rfl : i = 12 := by omega
        refine g_iload_n hC (gDec_at DX7_count_0 25 rfl) rfl ?_
        refine g_tableIn hC (gDec_at DX7_count_0 26 rfl) 81 (by decide) (by decide) rfl (by decide) ?_
        refine g_aload_n hC (gDec_at DX7_count_0 30 rfl) rfl ?_
        refine g_get (w := wM q) hC 0 (v := .int (nI (B 9 0))) fl_X7_13 (show 0 < 17 from by decide) rfl (g_sv (mi_many hI)) (gDec_at DX7_count_0 31 rfl) ?_
        refine g_iret hC (gDec_at DX7_count_0 32 rfl) ?_
        exact ⟨rfl, rfl⟩
      · skip
        refine g_iload_n hC (gDec_at DX7_count_0 10 rfl) rfl ?_
        refine g_aload_n hC (gDec_at DX7_count_0 11 rfl) rfl ?_
        refine g_iload_n hC (gDec_at DX7_count_0 12 rfl) rfl ?_
        refine g_callVd (w := wM q) hC 0 (c_X7_isThere q hI (i := i) (by omega)) vf_X7_isThere ml_X7_128 (by decide) (show 0 < 17 from by decide) rfl rfl rfl rfl rfl (Nat.le_of_ble_eq_true rfl) (gDec_at DX7_count_0 13 rfl) ?_
        refine g_if_eqB hC (gDec_at DX7_count_0 14 rfl) 33 (by decide) (fun h21 => ?_) (fun h21 => ?_)
        · skip
          refine g_iconst hC (gDec_at DX7_count_0 20 rfl) (v := nI 0) (by decide) ?_
          refine g_iaddN hC (gDec_at DX7_count_0 21 rfl) ?_
          refine g_istore_n hC (gDec_at DX7_count_0 22 rfl) (by decide) (L' := [(2, .int (nI ((gsm (fun j => if j % 6 < B 9 0 then B 4 j else 0) i) + 0))), (0, .ref (q.2.2 0)), (1, .int (nI 1)), (3, .int (nI i))]) rfl ?_
          refine g_iincN hC (gDec_at DX7_count_0 23 rfl) rfl (by decide) (L' := [(3, .int (nI (i + 1))), (2, .int (nI ((gsm (fun j => if j % 6 < B 9 0 then B 4 j else 0) i) + 0))), (0, .ref (q.2.2 0)), (1, .int (nI 1))]) rfl ?_
          refine g_goto hC (gDec_at DX7_count_0 24 rfl) 9 (by decide) ?_
          refine g_sub [2, 3, 1, 0] (L' := [(0, .ref (q.2.2 0)), (1, .int (nI 1)), (2, .int (nI ((gsm (fun j => if j % 6 < B 9 0 then B 4 j else 0) i) + 0))), (3, .int (nI (i + 1)))]) rfl ?_
          have h9 := ih (i + 1) (by omega) (by omega)
          rw [gsm_s0 (f := (fun j => if j % 6 < B 9 0 then B 4 j else 0)) (if_neg h21)] at h9
          exact h9
        · skip
          refine g_aload_n hC (gDec_at DX7_count_0 15 rfl) rfl ?_
          refine g_get (w := wM q) hC 0 (v := .ref (q.2.2 6)) fl_X7_29 (show 0 < 17 from by decide) rfl rfl (gDec_at DX7_count_0 16 rfl) ?_
          refine g_iload_n hC (gDec_at DX7_count_0 17 rfl) rfl ?_
          refine g_iald (w := wM q) hC 6 0 i (x := (nI (B 4 i))) (show 6 < 17 from by decide) rfl rfl (by omega) (by decide) (mi_f4 hI (by omega) (by omega)) (gDec_at DX7_count_0 18 rfl) ?_
          refine g_goto hC (gDec_at DX7_count_0 19 rfl) 34 (by decide) ?_
          refine g_iaddN hC (gDec_at DX7_count_0 21 rfl) ?_
          refine g_istore_n hC (gDec_at DX7_count_0 22 rfl) (by decide) (L' := [(2, .int (nI ((gsm (fun j => if j % 6 < B 9 0 then B 4 j else 0) i) + (B 4 i)))), (0, .ref (q.2.2 0)), (1, .int (nI 1)), (3, .int (nI i))]) rfl ?_
          refine g_iincN hC (gDec_at DX7_count_0 23 rfl) rfl (by decide) (L' := [(3, .int (nI (i + 1))), (2, .int (nI ((gsm (fun j => if j % 6 < B 9 0 then B 4 j else 0) i) + (B 4 i)))), (0, .ref (q.2.2 0)), (1, .int (nI 1))]) rfl ?_
          refine g_goto hC (gDec_at DX7_count_0 24 rfl) 9 (by decide) ?_
          refine g_sub [2, 3, 1, 0] (L' := [(0, .ref (q.2.2 0)), (1, .int (nI 1)), (2, .int (nI ((gsm (fun j => if j % 6 < B 9 0 then B 4 j else 0) i) + (B 4 i)))), (3, .int (nI (i + 1)))]) rfl ?_
          have h9 := ih (i + 1) (by omega) (by omega)
          rw [gsm_s (f := (fun j => if j % 6 < B 9 0 then B 4 j else 0)) (if_pos h21)] at h9
          exact h9
  exact g_sub [2, 3, 1, 0] rfl (loop9 (12 + 1 - 0) 0 (by omega) (by omega))

set_option maxRecDepth 100000 in
set_option maxHeartbeats 4000000 in
theorem c_X7_count_2 (q : gQ3) {M : gM} {B : gB} (hI : mI M B) {tl : Nat} {tb : Nat → Nat} (hT : mT M tl tb) : gCt (wM q) yX7_count cX7_count 4 (some .int) 8 [.ref (q.2.2 0), .int (nI 2)] M (gR (some (.int (nI (sKnots B)))) M) := by
  refine gMet RX7 (by decide +kernel) rfl (Nat.le_of_ble_eq_true rfl) (fun X hC => ?_)
  have hC : gC X (wM q) cX7_count 4 RX7 (some .int) 8 := hC
  show gG X (wM q) _ 4 M 0 [(0, .ref (q.2.2 0)), (1, .int (nI 2))] []
  refine g_aload_n hC (gDec_at DX7_count_0 0 rfl) rfl ?_
  refine g_iconst hC (gDec_at DX7_count_0 1 rfl) (v := nI 0) (by decide) ?_
  refine g_putI (w := wM q) hC 0 fl_X7_67 fp_7_0 (show 0 < 17 from by decide) rfl (Nat.le_of_ble_eq_true rfl) rfl rfl (gDec_at DX7_count_0 2 rfl) ?_
  refine g_M (mi_0 hI) ?_
  refine g_iconst hC (gDec_at DX7_count_0 3 rfl) (v := nI 0) (by decide) ?_
  refine g_istore_n hC (gDec_at DX7_count_0 4 rfl) (by decide) (L' := [(2, .int (nI 0)), (0, .ref (q.2.2 0)), (1, .int (nI 2))]) rfl ?_
  refine g_iconst hC (gDec_at DX7_count_0 5 rfl) (v := nI 0) (by decide) ?_
  refine g_istore_n hC (gDec_at DX7_count_0 6 rfl) (by decide) (L' := [(3, .int (nI 0)), (2, .int (nI 0)), (0, .ref (q.2.2 0)), (1, .int (nI 2))]) rfl ?_
  have loop9 : ∀ (fu i : Nat), i ≤ 12 → 12 - i < fu → gG X (wM q) (gR (some (.int (nI (sKnots B)))) M) 4 M 9 [(0, .ref (q.2.2 0)), (1, .int (nI 2)), (2, .int (nI (gsm (fun j => if j % 6 < B 9 0 then B 4 j else 0) i))), (3, .int (nI i))] [] := by
    intro fu; induction fu with
    | zero => intro i h1 h2; omega
    | succ fu ih =>
      intro i hi hfu 
      refine g_iload_n hC (gDec_at DX7_count_0 7 rfl) rfl ?_
      refine g_bipush hC (gDec_at DX7_count_0 8 rfl) (v := nI 12) (by decide) ?_
      refine g_icmp_geN hC (by omega) (by omega) (gDec_at DX7_count_0 9 rfl) 42 (by decide) (fun h12 => ?_) (fun h12 => ?_)
      · skip
        obtain rfl : i = 12 := by omega
        refine g_iload_n hC (gDec_at DX7_count_0 25 rfl) rfl ?_
        refine g_tableIn hC (gDec_at DX7_count_0 26 rfl) 86 (by decide) (by decide) rfl (by decide) ?_
        refine g_iload_n hC (gDec_at DX7_count_0 33 rfl) rfl ?_
        refine g_iret hC (gDec_at DX7_count_0 34 rfl) ?_
        exact ⟨rfl, rfl⟩
      · skip
        refine g_iload_n hC (gDec_at DX7_count_0 10 rfl) rfl ?_
        refine g_aload_n hC (gDec_at DX7_count_0 11 rfl) rfl ?_
        refine g_iload_n hC (gDec_at DX7_count_0 12 rfl) rfl ?_
        refine g_callVd (w := wM q) hC 0 (c_X7_isThere q hI (i := i) (by omega)) vf_X7_isThere ml_X7_128 (by decide) (show 0 < 17 from by decide) rfl rfl rfl rfl rfl (Nat.le_of_ble_eq_true rfl) (gDec_at DX7_count_0 13 rfl) ?_
        refine g_if_eqB hC (gDec_at DX7_count_0 14 rfl) 33 (by decide) (fun h21 => ?_) (fun h21 => ?_)
        · skip
          refine g_iconst hC (gDec_at DX7_count_0 20 rfl) (v := nI 0) (by decide) ?_
          refine g_iaddN hC (gDec_at DX7_count_0 21 rfl) ?_
          refine g_istore_n hC (gDec_at DX7_count_0 22 rfl) (by decide) (L' := [(2, .int (nI ((gsm (fun j => if j % 6 < B 9 0 then B 4 j else 0) i) + 0))), (0, .ref (q.2.2 0)), (1, .int (nI 2)), (3, .int (nI i))]) rfl ?_
          refine g_iincN hC (gDec_at DX7_count_0 23 rfl) rfl (by decide) (L' := [(3, .int (nI (i + 1))), (2, .int (nI ((gsm (fun j => if j % 6 < B 9 0 then B 4 j else 0) i) + 0))), (0, .ref (q.2.2 0)), (1, .int (nI 2))]) rfl ?_
          refine g_goto hC (gDec_at DX7_count_0 24 rfl) 9 (by decide) ?_
          refine g_sub [2, 3, 1, 0] (L' := [(0, .ref (q.2.2 0)), (1, .int (nI 2)), (2, .int (nI ((gsm (fun j => if j % 6 < B 9 0 then B 4 j else 0) i) + 0))), (3, .int (nI (i + 1)))]) rfl ?_
          have h9 := ih (i + 1) (by omega) (by omega)
          rw [gsm_s0 (f := (fun j => if j % 6 < B 9 0 then B 4 j else 0)) (if_neg h21)] at h9
          exact h9
        · skip
          refine g_aload_n hC (gDec_at DX7_count_0 15 rfl) rfl ?_
          refine g_get (w := wM q) hC 0 (v := .ref (q.2.2 6)) fl_X7_29 (show 0 < 17 from by decide) rfl rfl (gDec_at DX7_count_0 16 rfl) ?_
          refine g_iload_n hC (gDec_at DX7_count_0 17 rfl) rfl ?_
          refine g_iald (w := wM q) hC 6 0 i (x := (nI (B 4 i))) (show 6 < 17 from by decide) rfl rfl (by omega) (by decide) (mi_f4 hI (by omega) (by omega)) (gDec_at DX7_count_0 18 rfl) ?_
          refine g_goto hC (gDec_at DX7_count_0 19 rfl) 34 (by decide) ?_
          refine g_iaddN hC (gDec_at DX7_count_0 21 rfl) ?_
          refine g_istore_n hC (gDec_at DX7_count_0 22 rfl) (by decide) (L' := [(2, .int (nI ((gsm (fun j => if j % 6 < B 9 0 then B 4 j else 0) i) + (B 4 i)))), (0, .ref (q.2.2 0)), (1, .int (nI 2)), (3, .int (nI i))]) rfl ?_
          refine g_iincN hC (gDec_at DX7_count_0 23 rfl) rfl (by decide) (L' := [(3, .int (nI (i + 1))), (2, .int (nI ((gsm (fun j => if j % 6 < B 9 0 then B 4 j else 0) i) + (B 4 i)))), (0, .ref (q.2.2 0)), (1, .int (nI 2))]) rfl ?_
          refine g_goto hC (gDec_at DX7_count_0 24 rfl) 9 (by decide) ?_
          refine g_sub [2, 3, 1, 0] (L' := [(0, .ref (q.2.2 0)), (1, .int (nI 2)), (2, .int (nI ((gsm (fun j => if j % 6 < B 9 0 then B 4 j else 0) i) + (B 4 i)))), (3, .int (nI (i + 1)))]) rfl ?_
          have h9 := ih (i + 1) (by omega) (by omega)
          rw [gsm_s (f := (fun j => if j % 6 < B 9 0 then B 4 j else 0)) (if_pos h21)] at h9
          exact h9
  exact g_sub [2, 3, 1, 0] rfl (loop9 (12 + 1 - 0) 0 (by omega) (by omega))

set_option maxRecDepth 100000 in
set_option maxHeartbeats 4000000 in
theorem c_X7_count_3 (q : gQ3) {M : gM} {B : gB} (hI : mI M B) {tl : Nat} {tb : Nat → Nat} (hT : mT M tl tb) : gCt (wM q) yX7_count cX7_count 4 (some .int) 8 [.ref (q.2.2 0), .int (nI 3)] M (gR (some (.int (nI (sSets B)))) M) := by
  refine gMet RX7 (by decide +kernel) rfl (Nat.le_of_ble_eq_true rfl) (fun X hC => ?_)
  have hC : gC X (wM q) cX7_count 4 RX7 (some .int) 8 := hC
  show gG X (wM q) _ 4 M 0 [(0, .ref (q.2.2 0)), (1, .int (nI 3))] []
  refine g_aload_n hC (gDec_at DX7_count_0 0 rfl) rfl ?_
  refine g_iconst hC (gDec_at DX7_count_0 1 rfl) (v := nI 0) (by decide) ?_
  refine g_putI (w := wM q) hC 0 fl_X7_67 fp_7_0 (show 0 < 17 from by decide) rfl (Nat.le_of_ble_eq_true rfl) rfl rfl (gDec_at DX7_count_0 2 rfl) ?_
  refine g_M (mi_0 hI) ?_
  refine g_iconst hC (gDec_at DX7_count_0 3 rfl) (v := nI 0) (by decide) ?_
  refine g_istore_n hC (gDec_at DX7_count_0 4 rfl) (by decide) (L' := [(2, .int (nI 0)), (0, .ref (q.2.2 0)), (1, .int (nI 3))]) rfl ?_
  refine g_iconst hC (gDec_at DX7_count_0 5 rfl) (v := nI 0) (by decide) ?_
  refine g_istore_n hC (gDec_at DX7_count_0 6 rfl) (by decide) (L' := [(3, .int (nI 0)), (2, .int (nI 0)), (0, .ref (q.2.2 0)), (1, .int (nI 3))]) rfl ?_
  have loop9 : ∀ (fu i : Nat), i ≤ 12 → 12 - i < fu → gG X (wM q) (gR (some (.int (nI (sSets B)))) M) 4 M 9 [(0, .ref (q.2.2 0)), (1, .int (nI 3)), (2, .int (nI (gsm (fun j => if j % 6 < B 9 0 then B 4 j else 0) i))), (3, .int (nI i))] [] := by
    intro fu; induction fu with
    | zero => intro i h1 h2; omega
    | succ fu ih =>
      intro i hi hfu 
      refine g_iload_n hC (gDec_at DX7_count_0 7 rfl) rfl ?_
      refine g_bipush hC (gDec_at DX7_count_0 8 rfl) (v := nI 12) (by decide) ?_
      refine g_icmp_geN hC (by omega) (by omega) (gDec_at DX7_count_0 9 rfl) 42 (by decide) (fun h12 => ?_) (fun h12 => ?_)
      · skip
        obtain rfl : i = 12 := by omega
        refine g_iload_n hC (gDec_at DX7_count_0 25 rfl) rfl ?_
        refine g_tableIn hC (gDec_at DX7_count_0 26 rfl) 88 (by decide) (by decide) rfl (by decide) ?_
        refine g_aload_n hC (gDec_at DX7_count_0 35 rfl) rfl ?_
        refine g_callVd (w := wM q) hC 0 (c_X7_allSets q hI) vf_X7_allSets ml_X7_131 (by decide) (show 0 < 17 from by decide) rfl rfl rfl rfl rfl (Nat.le_of_ble_eq_true rfl) (gDec_at DX7_count_0 36 rfl) ?_
        refine g_iret hC (gDec_at DX7_count_0 37 rfl) ?_
        exact ⟨rfl, rfl⟩
      · skip
        refine g_iload_n hC (gDec_at DX7_count_0 10 rfl) rfl ?_
        refine g_aload_n hC (gDec_at DX7_count_0 11 rfl) rfl ?_
        refine g_iload_n hC (gDec_at DX7_count_0 12 rfl) rfl ?_
        refine g_callVd (w := wM q) hC 0 (c_X7_isThere q hI (i := i) (by omega)) vf_X7_isThere ml_X7_128 (by decide) (show 0 < 17 from by decide) rfl rfl rfl rfl rfl (Nat.le_of_ble_eq_true rfl) (gDec_at DX7_count_0 13 rfl) ?_
        refine g_if_eqB hC (gDec_at DX7_count_0 14 rfl) 33 (by decide) (fun h21 => ?_) (fun h21 => ?_)
        · skip
          refine g_iconst hC (gDec_at DX7_count_0 20 rfl) (v := nI 0) (by decide) ?_
          refine g_iaddN hC (gDec_at DX7_count_0 21 rfl) ?_
          refine g_istore_n hC (gDec_at DX7_count_0 22 rfl) (by decide) (L' := [(2, .int (nI ((gsm (fun j => if j % 6 < B 9 0 then B 4 j else 0) i) + 0))), (0, .ref (q.2.2 0)), (1, .int (nI 3)), (3, .int (nI i))]) rfl ?_
          refine g_iincN hC (gDec_at DX7_count_0 23 rfl) rfl (by decide) (L' := [(3, .int (nI (i + 1))), (2, .int (nI ((gsm (fun j => if j % 6 < B 9 0 then B 4 j else 0) i) + 0))), (0, .ref (q.2.2 0)), (1, .int (nI 3))]) rfl ?_
          refine g_goto hC (gDec_at DX7_count_0 24 rfl) 9 (by decide) ?_
          refine g_sub [2, 3, 1, 0] (L' := [(0, .ref (q.2.2 0)), (1, .int (nI 3)), (2, .int (nI ((gsm (fun j => if j % 6 < B 9 0 then B 4 j else 0) i) + 0))), (3, .int (nI (i + 1)))]) rfl ?_
          have h9 := ih (i + 1) (by omega) (by omega)
          rw [gsm_s0 (f := (fun j => if j % 6 < B 9 0 then B 4 j else 0)) (if_neg h21)] at h9
          exact h9
        · skip
          refine g_aload_n hC (gDec_at DX7_count_0 15 rfl) rfl ?_
          refine g_get (w := wM q) hC 0 (v := .ref (q.2.2 6)) fl_X7_29 (show 0 < 17 from by decide) rfl rfl (gDec_at DX7_count_0 16 rfl) ?_
          refine g_iload_n hC (gDec_at DX7_count_0 17 rfl) rfl ?_
          refine g_iald (w := wM q) hC 6 0 i (x := (nI (B 4 i))) (show 6 < 17 from by decide) rfl rfl (by omega) (by decide) (mi_f4 hI (by omega) (by omega)) (gDec_at DX7_count_0 18 rfl) ?_
          refine g_goto hC (gDec_at DX7_count_0 19 rfl) 34 (by decide) ?_
          refine g_iaddN hC (gDec_at DX7_count_0 21 rfl) ?_
          refine g_istore_n hC (gDec_at DX7_count_0 22 rfl) (by decide) (L' := [(2, .int (nI ((gsm (fun j => if j % 6 < B 9 0 then B 4 j else 0) i) + (B 4 i)))), (0, .ref (q.2.2 0)), (1, .int (nI 3)), (3, .int (nI i))]) rfl ?_
          refine g_iincN hC (gDec_at DX7_count_0 23 rfl) rfl (by decide) (L' := [(3, .int (nI (i + 1))), (2, .int (nI ((gsm (fun j => if j % 6 < B 9 0 then B 4 j else 0) i) + (B 4 i)))), (0, .ref (q.2.2 0)), (1, .int (nI 3))]) rfl ?_
          refine g_goto hC (gDec_at DX7_count_0 24 rfl) 9 (by decide) ?_
          refine g_sub [2, 3, 1, 0] (L' := [(0, .ref (q.2.2 0)), (1, .int (nI 3)), (2, .int (nI ((gsm (fun j => if j % 6 < B 9 0 then B 4 j else 0) i) + (B 4 i)))), (3, .int (nI (i + 1)))]) rfl ?_
          have h9 := ih (i + 1) (by omega) (by omega)
          rw [gsm_s (f := (fun j => if j % 6 < B 9 0 then B 4 j else 0)) (if_pos h21)] at h9
          exact h9
  exact g_sub [2, 3, 1, 0] rfl (loop9 (12 + 1 - 0) 0 (by omega) (by omega))

set_option maxRecDepth 100000 in
set_option maxHeartbeats 4000000 in
theorem c_X7_count_4 (q : gQ3) {M : gM} {B : gB} (hI : mI M B) {tl : Nat} {tb : Nat → Nat} (hT : mT M tl tb) : gCt (wM q) yX7_count cX7_count 4 (some .int) 8 [.ref (q.2.2 0), .int (nI 4)] M (gR (some (.int (nI (sSeen B)))) M) := by
  refine gMet RX7 (by decide +kernel) rfl (Nat.le_of_ble_eq_true rfl) (fun X hC => ?_)
  have hC : gC X (wM q) cX7_count 4 RX7 (some .int) 8 := hC
  show gG X (wM q) _ 4 M 0 [(0, .ref (q.2.2 0)), (1, .int (nI 4))] []
  refine g_aload_n hC (gDec_at DX7_count_0 0 rfl) rfl ?_
  refine g_iconst hC (gDec_at DX7_count_0 1 rfl) (v := nI 0) (by decide) ?_
  refine g_putI (w := wM q) hC 0 fl_X7_67 fp_7_0 (show 0 < 17 from by decide) rfl (Nat.le_of_ble_eq_true rfl) rfl rfl (gDec_at DX7_count_0 2 rfl) ?_
  refine g_M (mi_0 hI) ?_
  refine g_iconst hC (gDec_at DX7_count_0 3 rfl) (v := nI 0) (by decide) ?_
  refine g_istore_n hC (gDec_at DX7_count_0 4 rfl) (by decide) (L' := [(2, .int (nI 0)), (0, .ref (q.2.2 0)), (1, .int (nI 4))]) rfl ?_
  refine g_iconst hC (gDec_at DX7_count_0 5 rfl) (v := nI 0) (by decide) ?_
  refine g_istore_n hC (gDec_at DX7_count_0 6 rfl) (by decide) (L' := [(3, .int (nI 0)), (2, .int (nI 0)), (0, .ref (q.2.2 0)), (1, .int (nI 4))]) rfl ?_
  have loop9 : ∀ (fu i : Nat), i ≤ 12 → 12 - i < fu → gG X (wM q) (gR (some (.int (nI (sSeen B)))) M) 4 M 9 [(0, .ref (q.2.2 0)), (1, .int (nI 4)), (2, .int (nI (gsm (fun j => if j % 6 < B 9 0 then B 4 j else 0) i))), (3, .int (nI i))] [] := by
    intro fu; induction fu with
    | zero => intro i h1 h2; omega
    | succ fu ih =>
      intro i hi hfu 
      refine g_iload_n hC (gDec_at DX7_count_0 7 rfl) rfl ?_
      refine g_bipush hC (gDec_at DX7_count_0 8 rfl) (v := nI 12) (by decide) ?_
      refine g_icmp_geN hC (by omega) (by omega) (gDec_at DX7_count_0 9 rfl) 42 (by decide) (fun h12 => ?_) (fun h12 => ?_)
      · skip
        obtain rfl : i = 12 := by omega
        refine g_iload_n hC (gDec_at DX7_count_0 25 rfl) rfl ?_
        refine g_tableIn hC (gDec_at DX7_count_0 26 rfl) 93 (by decide) (by decide) rfl (by decide) ?_
        refine g_aload_n hC (gDec_at DX7_count_0 38 rfl) rfl ?_
        refine g_callVd (w := wM q) hC 0 (c_X7_allSeen q hI) vf_X7_allSeen ml_X7_219 (by decide) (show 0 < 17 from by decide) rfl rfl rfl rfl rfl (Nat.le_of_ble_eq_true rfl) (gDec_at DX7_count_0 39 rfl) ?_
        refine g_iret hC (gDec_at DX7_count_0 40 rfl) ?_
        exact ⟨rfl, rfl⟩
      · skip
        refine g_iload_n hC (gDec_at DX7_count_0 10 rfl) rfl ?_
        refine g_aload_n hC (gDec_at DX7_count_0 11 rfl) rfl ?_
        refine g_iload_n hC (gDec_at DX7_count_0 12 rfl) rfl ?_
        refine g_callVd (w := wM q) hC 0 (c_X7_isThere q hI (i := i) (by omega)) vf_X7_isThere ml_X7_128 (by decide) (show 0 < 17 from by decide) rfl rfl rfl rfl rfl (Nat.le_of_ble_eq_true rfl) (gDec_at DX7_count_0 13 rfl) ?_
        refine g_if_eqB hC (gDec_at DX7_count_0 14 rfl) 33 (by decide) (fun h21 => ?_) (fun h21 => ?_)
        · skip
          refine g_iconst hC (gDec_at DX7_count_0 20 rfl) (v := nI 0) (by decide) ?_
          refine g_iaddN hC (gDec_at DX7_count_0 21 rfl) ?_
          refine g_istore_n hC (gDec_at DX7_count_0 22 rfl) (by decide) (L' := [(2, .int (nI ((gsm (fun j => if j % 6 < B 9 0 then B 4 j else 0) i) + 0))), (0, .ref (q.2.2 0)), (1, .int (nI 4)), (3, .int (nI i))]) rfl ?_
          refine g_iincN hC (gDec_at DX7_count_0 23 rfl) rfl (by decide) (L' := [(3, .int (nI (i + 1))), (2, .int (nI ((gsm (fun j => if j % 6 < B 9 0 then B 4 j else 0) i) + 0))), (0, .ref (q.2.2 0)), (1, .int (nI 4))]) rfl ?_
          refine g_goto hC (gDec_at DX7_count_0 24 rfl) 9 (by decide) ?_
          refine g_sub [2, 3, 1, 0] (L' := [(0, .ref (q.2.2 0)), (1, .int (nI 4)), (2, .int (nI ((gsm (fun j => if j % 6 < B 9 0 then B 4 j else 0) i) + 0))), (3, .int (nI (i + 1)))]) rfl ?_
          have h9 := ih (i + 1) (by omega) (by omega)
          rw [gsm_s0 (f := (fun j => if j % 6 < B 9 0 then B 4 j else 0)) (if_neg h21)] at h9
          exact h9
        · skip
          refine g_aload_n hC (gDec_at DX7_count_0 15 rfl) rfl ?_
          refine g_get (w := wM q) hC 0 (v := .ref (q.2.2 6)) fl_X7_29 (show 0 < 17 from by decide) rfl rfl (gDec_at DX7_count_0 16 rfl) ?_
          refine g_iload_n hC (gDec_at DX7_count_0 17 rfl) rfl ?_
          refine g_iald (w := wM q) hC 6 0 i (x := (nI (B 4 i))) (show 6 < 17 from by decide) rfl rfl (by omega) (by decide) (mi_f4 hI (by omega) (by omega)) (gDec_at DX7_count_0 18 rfl) ?_
          refine g_goto hC (gDec_at DX7_count_0 19 rfl) 34 (by decide) ?_
          refine g_iaddN hC (gDec_at DX7_count_0 21 rfl) ?_
          refine g_istore_n hC (gDec_at DX7_count_0 22 rfl) (by decide) (L' := [(2, .int (nI ((gsm (fun j => if j % 6 < B 9 0 then B 4 j else 0) i) + (B 4 i)))), (0, .ref (q.2.2 0)), (1, .int (nI 4)), (3, .int (nI i))]) rfl ?_
          refine g_iincN hC (gDec_at DX7_count_0 23 rfl) rfl (by decide) (L' := [(3, .int (nI (i + 1))), (2, .int (nI ((gsm (fun j => if j % 6 < B 9 0 then B 4 j else 0) i) + (B 4 i)))), (0, .ref (q.2.2 0)), (1, .int (nI 4))]) rfl ?_
          refine g_goto hC (gDec_at DX7_count_0 24 rfl) 9 (by decide) ?_
          refine g_sub [2, 3, 1, 0] (L' := [(0, .ref (q.2.2 0)), (1, .int (nI 4)), (2, .int (nI ((gsm (fun j => if j % 6 < B 9 0 then B 4 j else 0) i) + (B 4 i)))), (3, .int (nI (i + 1)))]) rfl ?_
          have h9 := ih (i + 1) (by omega) (by omega)
          rw [gsm_s (f := (fun j => if j % 6 < B 9 0 then B 4 j else 0)) (if_pos h21)] at h9
          exact h9
  exact g_sub [2, 3, 1, 0] rfl (loop9 (12 + 1 - 0) 0 (by omega) (by omega))

set_option maxRecDepth 100000 in
set_option maxHeartbeats 4000000 in
theorem c_X7_count_bad (q : gQ3) {M : gM} {B : gB} (hI : mI M B) {y : Int32} (hy : ¬ gin y 0 4) : gCt (wM q) yX7_count cX7_count 4 (some .int) 8 [.ref (q.2.2 0), .int y] M (gR (some (.int (-2))) M) := by
  refine gMet RX7 (by decide +kernel) rfl (Nat.le_of_ble_eq_true rfl) (fun X hC => ?_)
  have hC : gC X (wM q) cX7_count 4 RX7 (some .int) 8 := hC
  show gG X (wM q) _ 4 M 0 [(0, .ref (q.2.2 0)), (1, .int y)] []
  refine g_aload_n hC (gDec_at DX7_count_0 0 rfl) rfl ?_
  refine g_iconst hC (gDec_at DX7_count_0 1 rfl) (v := nI 0) (by decide) ?_
  refine g_putI (w := wM q) hC 0 fl_X7_67 fp_7_0 (show 0 < 17 from by decide) rfl (Nat.le_of_ble_eq_true rfl) rfl rfl (gDec_at DX7_count_0 2 rfl) ?_
  refine g_M (mi_0 hI) ?_
  refine g_iconst hC (gDec_at DX7_count_0 3 rfl) (v := nI 0) (by decide) ?_
  refine g_istore_n hC (gDec_at DX7_count_0 4 rfl) (by decide) (L' := [(2, .int (nI 0)), (0, .ref (q.2.2 0)), (1, .int y)]) rfl ?_
  refine g_iconst hC (gDec_at DX7_count_0 5 rfl) (v := nI 0) (by decide) ?_
  refine g_istore_n hC (gDec_at DX7_count_0 6 rfl) (by decide) (L' := [(3, .int (nI 0)), (2, .int (nI 0)), (0, .ref (q.2.2 0)), (1, .int y)]) rfl ?_
  have loop9 : ∀ (fu i : Nat), i ≤ 12 → 12 - i < fu → gG X (wM q) (gR (some (.int (-2))) M) 4 M 9 [(0, .ref (q.2.2 0)), (1, .int y), (2, .int (nI (gsm (fun j => if j % 6 < B 9 0 then B 4 j else 0) i))), (3, .int (nI i))] [] := by
    intro fu; induction fu with
    | zero => intro i h1 h2; omega
    | succ fu ih =>
      intro i hi hfu 
      refine g_iload_n hC (gDec_at DX7_count_0 7 rfl) rfl ?_
      refine g_bipush hC (gDec_at DX7_count_0 8 rfl) (v := nI 12) (by decide) ?_
      refine g_icmp_geN hC (by omega) (by omega) (gDec_at DX7_count_0 9 rfl) 42 (by decide) (fun h12 => ?_) (fun h12 => ?_)
      · skip
        obtain rfl : i = 12 := by omega
        refine g_iload_n hC (gDec_at DX7_count_0 25 rfl) rfl ?_
        refine g_tableOut hC (gDec_at DX7_count_0 26 rfl) 98 (by unfold gin at hy; omega) (by decide) ?_
        refine g_bipush hC (gDec_at DX7_count_0 41 rfl) (v := -2) (by decide) ?_
        refine g_iret hC (gDec_at DX7_count_0 42 rfl) ?_
        exact ⟨rfl, rfl⟩
      · skip
        refine g_iload_n hC (gDec_at DX7_count_0 10 rfl) rfl ?_
        refine g_aload_n hC (gDec_at DX7_count_0 11 rfl) rfl ?_
        refine g_iload_n hC (gDec_at DX7_count_0 12 rfl) rfl ?_
        refine g_callVd (w := wM q) hC 0 (c_X7_isThere q hI (i := i) (by omega)) vf_X7_isThere ml_X7_128 (by decide) (show 0 < 17 from by decide) rfl rfl rfl rfl rfl (Nat.le_of_ble_eq_true rfl) (gDec_at DX7_count_0 13 rfl) ?_
        refine g_if_eqB hC (gDec_at DX7_count_0 14 rfl) 33 (by decide) (fun h21 => ?_) (fun h21 => ?_)
        · skip
          refine g_iconst hC (gDec_at DX7_count_0 20 rfl) (v := nI 0) (by decide) ?_
          refine g_iaddN hC (gDec_at DX7_count_0 21 rfl) ?_
          refine g_istore_n hC (gDec_at DX7_count_0 22 rfl) (by decide) (L' := [(2, .int (nI ((gsm (fun j => if j % 6 < B 9 0 then B 4 j else 0) i) + 0))), (0, .ref (q.2.2 0)), (1, .int y), (3, .int (nI i))]) rfl ?_
          refine g_iincN hC (gDec_at DX7_count_0 23 rfl) rfl (by decide) (L' := [(3, .int (nI (i + 1))), (2, .int (nI ((gsm (fun j => if j % 6 < B 9 0 then B 4 j else 0) i) + 0))), (0, .ref (q.2.2 0)), (1, .int y)]) rfl ?_
          refine g_goto hC (gDec_at DX7_count_0 24 rfl) 9 (by decide) ?_
          refine g_sub [2, 3, 1, 0] (L' := [(0, .ref (q.2.2 0)), (1, .int y), (2, .int (nI ((gsm (fun j => if j % 6 < B 9 0 then B 4 j else 0) i) + 0))), (3, .int (nI (i + 1)))]) rfl ?_
          have h9 := ih (i + 1) (by omega) (by omega)
          rw [gsm_s0 (f := (fun j => if j % 6 < B 9 0 then B 4 j else 0)) (if_neg h21)] at h9
          exact h9
        · skip
          refine g_aload_n hC (gDec_at DX7_count_0 15 rfl) rfl ?_
          refine g_get (w := wM q) hC 0 (v := .ref (q.2.2 6)) fl_X7_29 (show 0 < 17 from by decide) rfl rfl (gDec_at DX7_count_0 16 rfl) ?_
          refine g_iload_n hC (gDec_at DX7_count_0 17 rfl) rfl ?_
          refine g_iald (w := wM q) hC 6 0 i (x := (nI (B 4 i))) (show 6 < 17 from by decide) rfl rfl (by omega) (by decide) (mi_f4 hI (by omega) (by omega)) (gDec_at DX7_count_0 18 rfl) ?_
          refine g_goto hC (gDec_at DX7_count_0 19 rfl) 34 (by decide) ?_
          refine g_iaddN hC (gDec_at DX7_count_0 21 rfl) ?_
          refine g_istore_n hC (gDec_at DX7_count_0 22 rfl) (by decide) (L' := [(2, .int (nI ((gsm (fun j => if j % 6 < B 9 0 then B 4 j else 0) i) + (B 4 i)))), (0, .ref (q.2.2 0)), (1, .int y), (3, .int (nI i))]) rfl ?_
          refine g_iincN hC (gDec_at DX7_count_0 23 rfl) rfl (by decide) (L' := [(3, .int (nI (i + 1))), (2, .int (nI ((gsm (fun j => if j % 6 < B 9 0 then B 4 j else 0) i) + (B 4 i)))), (0, .ref (q.2.2 0)), (1, .int y)]) rfl ?_
          refine g_goto hC (gDec_at DX7_count_0 24 rfl) 9 (by decide) ?_
          refine g_sub [2, 3, 1, 0] (L' := [(0, .ref (q.2.2 0)), (1, .int y), (2, .int (nI ((gsm (fun j => if j % 6 < B 9 0 then B 4 j else 0) i) + (B 4 i)))), (3, .int (nI (i + 1)))]) rfl ?_
          have h9 := ih (i + 1) (by omega) (by omega)
          rw [gsm_s (f := (fun j => if j % 6 < B 9 0 then B 4 j else 0)) (if_pos h21)] at h9
          exact h9
  exact g_sub [2, 3, 1, 0] rfl (loop9 (12 + 1 - 0) 0 (by omega) (by omega))
