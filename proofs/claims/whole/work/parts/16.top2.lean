/-! BowBend, the methods that change it -/
set_option maxRecDepth 100000 in
set_option maxHeartbeats 4000000 in
theorem c_X4_append (q : gQ3) {M : gM} {tl : Nat} {tb : Nat → Nat} (hT : cT M tl tb) (h60 : tl < 60) {c : Nat} : gCt (wC q) yX4_append cX4_append 2 none 0 [.ref (q.2.2 1), .int (nI c)] M (gR none (gupd (gupd M 2 tl (nI c)) 1 1 (nI (tl + 1)))) := by
  refine gMet RX4 (by decide +kernel) rfl (Nat.le_of_ble_eq_true rfl) (fun X hC => ?_)
  have hC : gC X (wC q) cX4_append 2 RX4 none 0 := hC
  show gG X (wC q) _ 2 M 0 [(0, .ref (q.2.2 1)), (1, .int (nI c))] []
  refine g_aload_n hC (gDec_at DX4_append_0 0 rfl) rfl ?_
  refine g_get (w := wC q) hC 1 (v := .int (nI tl)) fl_X4_15 (show 1 < 63 from by decide) rfl (g_sv hT.1) (gDec_at DX4_append_0 1 rfl) ?_
  refine g_if_ltN hC (by omega) (gDec_at DX4_append_0 2 rfl) ?_ 39 (by decide)
  refine g_aload_n hC (gDec_at DX4_append_0 3 rfl) rfl ?_
  refine g_get (w := wC q) hC 1 (v := .int (nI tl)) fl_X4_15 (show 1 < 63 from by decide) rfl (g_sv hT.1) (gDec_at DX4_append_0 4 rfl) ?_
  refine g_aload_n hC (gDec_at DX4_append_0 5 rfl) rfl ?_
  refine g_get (w := wC q) hC 1 (v := .ref (q.2.2 2)) fl_X4_9 (show 1 < 63 from by decide) rfl rfl (gDec_at DX4_append_0 6 rfl) ?_
  refine g_alen (w := wC q) hC 2 0 (show 2 < 63 from by decide) rfl rfl (gDec_at DX4_append_0 7 rfl) ?_
  refine g_icmp_geN hC (by omega) (by omega) (gDec_at DX4_append_0 8 rfl) 39 (by decide) (fun h16 => ?_) (fun h16 => ?_)
  · skip
    exact absurd h60 (by omega)
  · skip
    refine g_aload_n hC (gDec_at DX4_append_0 9 rfl) rfl ?_
    refine g_get (w := wC q) hC 1 (v := .ref (q.2.2 2)) fl_X4_9 (show 1 < 63 from by decide) rfl rfl (gDec_at DX4_append_0 10 rfl) ?_
    refine g_aload_n hC (gDec_at DX4_append_0 11 rfl) rfl ?_
    refine g_get (w := wC q) hC 1 (v := .int (nI tl)) fl_X4_15 (show 1 < 63 from by decide) rfl (g_sv hT.1) (gDec_at DX4_append_0 12 rfl) ?_
    refine g_iload_n hC (gDec_at DX4_append_0 13 rfl) rfl ?_
    refine g_iast (w := wC q) hC 2 0 tl (show 2 < 63 from by decide) rfl rfl rfl (by omega) (by decide) (gDec_at DX4_append_0 14 rfl) ?_
    refine g_aload_n hC (gDec_at DX4_append_0 15 rfl) rfl ?_
    refine g_dup hC (gDec_at DX4_append_0 16 rfl) rfl ?_
    refine g_get (w := wC q) hC 1 (v := .int (nI tl)) fl_X4_15 (show 1 < 63 from by decide) rfl (g_sv (by rw [gupd_get, if_neg (by omega)]; exact hT.1)) (gDec_at DX4_append_0 17 rfl) ?_
    refine g_iconst hC (gDec_at DX4_append_0 18 rfl) (v := nI 1) (by decide) ?_
    refine g_iaddN hC (gDec_at DX4_append_0 19 rfl) ?_
    refine g_putI (w := wC q) hC 1 fl_X4_15 fp_4_1 (show 1 < 63 from by decide) rfl (Nat.le_of_ble_eq_true rfl) rfl rfl (gDec_at DX4_append_0 20 rfl) ?_
    refine g_vret hC (gDec_at DX4_append_0 21 rfl) ?_
    exact ⟨rfl, rfl⟩

/-! uN and its two rows: pasted from the task's kit/laws (BITS) -/
def uN (x : Int64) : Nat := x.toUInt64.toNat
theorem uN_shr (x : Int64) (s : UInt64) : uN (x.toUInt64 >>> s).toInt64 = uN x / 2 ^ (s.toNat % 64) := by
  show (x.toUInt64 >>> s).toNat = _
  rw [UInt64.toNat_shiftRight, Nat.shiftRight_eq_div_pow]
  rfl
theorem uN_sk (x : Int64) {k : Nat} (hk : k < 64) : uN (x.toUInt64 >>> ((nI k).toInt64.toUInt64 &&& Int64.toUInt64 63)).toInt64 = uN x / 2 ^ k := by
  have h : ((nI k).toInt64.toUInt64 &&& Int64.toUInt64 63).toNat % 64 = k := by
    rw [nI_l (by omega), UInt64.toNat_and]
    have e : (lN k).toUInt64.toNat = k % 2 ^ 64 := rfl
    have e2 : (Int64.toUInt64 63).toNat = 2 ^ 6 - 1 := by decide
    rw [e, e2, Nat.and_two_pow_sub_one_eq_mod]
    omega
  rw [uN_shr, h]
/-- the low byte of v, k bytes down -/
def byt (v : Int64) (k : Nat) : Nat := uN v / 2 ^ (8 * k) % 256
theorem byt_lt (v : Int64) (k : Nat) : byt v k < 256 := Nat.mod_lt _ (by decide)
def apT (tb : Nat → Nat) (tl n i : Nat) (v : Int64) : Nat → Nat := fun j => if tl ≤ j ∧ j < tl + i then byt v (n - 1 - (j - tl)) else tb j
theorem cT_app {M : gM} {tl : Nat} {tb : Nat → Nat} (hT : cT M tl tb) (h60 : tl < 60) {c : Nat} (hc : c < 256) {tb' : Nat → Nat} (h1 : ∀ i, i < tl → tb' i = tb i) (h2 : tb' tl = c) : cT (gupd (gupd M 2 tl (nI c)) 1 1 (nI (tl + 1))) (tl + 1) tb' := by
  obtain ⟨a, b, d⟩ := hT
  refine ⟨by rw [gupd_get, if_pos ⟨rfl, rfl⟩], by omega, fun i hi => ?_⟩
  rw [gupd_get, if_neg (by omega), gupd_get]
  by_cases e : i = tl
  · subst e; rw [if_pos ⟨rfl, rfl⟩, h2]; exact ⟨rfl, hc⟩
  · rw [if_neg (by omega), h1 i (by omega)]; exact d i (by omega)
theorem apT_0 (tb : Nat → Nat) (tl n : Nat) (v : Int64) : apT tb tl n 0 v = tb := by
  funext j; unfold apT; rw [if_neg (by omega)]
theorem low8 (x : Int64) : x.toInt32 &&& nI 255 = nI (uN x % 256) := by
  have h := pk_and x.toInt32 (m := nI 255) 8 (by decide)
  rw [h]
  congr 1
  show x.toInt32.toBitVec.toNat % 2 ^ 8 = x.toBitVec.toNat % 256
  rw [Int64.toBitVec_toInt32]
  simp only [BitVec.toNat_signExtend, BitVec.toNat_setWidth, BitVec.truncate_eq_setWidth]
  have e : (if x.toBitVec.msb = true then 2 ^ 32 - 2 ^ 64 else 0) = 0 := by split <;> rfl
  rw [e]
  omega
theorem low8b (v : Int64) {k : Nat} (hk : k < 8) : ((v.toUInt64 >>> ((nI (8 * k)).toInt64.toUInt64 &&& Int64.toUInt64 63)).toInt64).toInt32 &&& nI 255 = nI (byt v k) := by
  rw [low8, uN_sk v (by omega)]; rfl
theorem nI_m1_lt {m : Nat} (h : m < 1073741824) : nI m - 1 < 0 ↔ m = 0 := by
  have e := pk_sub_toInt h (show 1 < 2 ^ 30 by decide)
  have e2 : nI m - 1 = nI m - nI 1 := rfl
  rw [e2, lt_I, e, zI]
  omega
theorem nI_d1 (m : Nat) : nI m + Int32.ofInt (-1) = nI m - 1 := by
  rw [Int32.sub_eq_add_neg, show Int32.ofInt (-1) = -1 from by decide]
theorem nI_dec {m : Nat} (h : 1 ≤ m) : nI m - 1 = nI (m - 1) := pk_sub (b := 1) h
set_option maxRecDepth 100000 in
set_option maxHeartbeats 4000000 in
theorem c_X6_write_badn (q : gQ3) {M : gM} {B : gB} (hI : cI M B) {tl : Nat} {tb : Nat → Nat} (hT : cT M tl tb) {n : Int32} (hn : ¬ gin n 1 8) {v : Int64} : gCt (wC q) yX6_write cX6_write 5 (some .int) 8 [.ref (q.2.2 0), .int n, .long v] M (gR (some (.int (-2))) M) := by
  refine gMet RX6 (by decide +kernel) rfl (Nat.le_of_ble_eq_true rfl) (fun X hC => ?_)
  have hC : gC X (wC q) cX6_write 5 RX6 (some .int) 8 := hC
  show gG X (wC q) _ 5 M 0 [(0, .ref (q.2.2 0)), (1, .int n), (2, .long v)] []
  refine g_iload_n hC (gDec_at DX6_write_0 0 rfl) rfl ?_
  refine g_iconst hC (gDec_at DX6_write_0 1 rfl) (v := nI 1) (by decide) ?_
  refine g_icmp_lt hC (gDec_at DX6_write_0 2 rfl) 11 (by decide) (fun h2 => ?_) (fun h2 => ?_)
  · skip
    refine g_bipush hC (gDec_at DX6_write_0 6 rfl) (v := -2) (by decide) ?_
    refine g_iret hC (gDec_at DX6_write_0 7 rfl) ?_
    exact ⟨rfl, rfl⟩
  · skip
    rw [lt_I, nI_toInt (by omega)] at h2
    refine g_iload_n hC (gDec_at DX6_write_0 3 rfl) rfl ?_
    refine g_bipush hC (gDec_at DX6_write_0 4 rfl) (v := nI 8) (by decide) ?_
    refine g_icmp_le hC (gDec_at DX6_write_0 5 rfl) 14 (by decide) (fun h8 => ?_) (fun h8 => ?_)
    · skip
      rw [le_I, nI_toInt (by omega)] at h8
      exact absurd (by unfold gin; omega) hn --end
    · skip
      refine g_bipush hC (gDec_at DX6_write_0 6 rfl) (v := -2) (by decide) ?_
      refine g_iret hC (gDec_at DX6_write_0 7 rfl) ?_
      exact ⟨rfl, rfl⟩

set_option maxRecDepth 100000 in
set_option maxHeartbeats 4000000 in
theorem c_X6_write_full (q : gQ3) {M : gM} {B : gB} (hI : cI M B) {tl : Nat} {tb : Nat → Nat} (hT : cT M tl tb) {n : Nat} (hna : 1 ≤ n) (hnb : n ≤ 8) {v : Int64} (hf : 60 < tl + n) : gCt (wC q) yX6_write cX6_write 5 (some .int) 8 [.ref (q.2.2 0), .int (nI n), .long v] M (gR (some (.int (-4))) M) := by
  refine gMet RX6 (by decide +kernel) rfl (Nat.le_of_ble_eq_true rfl) (fun X hC => ?_)
  have hC : gC X (wC q) cX6_write 5 RX6 (some .int) 8 := hC
  show gG X (wC q) _ 5 M 0 [(0, .ref (q.2.2 0)), (1, .int (nI n)), (2, .long v)] []
  have ht := hT.2.1
  refine g_iload_n hC (gDec_at DX6_write_0 0 rfl) rfl ?_
  refine g_iconst hC (gDec_at DX6_write_0 1 rfl) (v := nI 1) (by decide) ?_
  refine g_icmp_ltN hC (by omega) (by omega) (gDec_at DX6_write_0 2 rfl) 11 (by decide) (fun h2 => ?_) (fun h2 => ?_)
  · skip
    exact absurd h2 (by omega)
  · skip
    refine g_iload_n hC (gDec_at DX6_write_0 3 rfl) rfl ?_
    refine g_bipush hC (gDec_at DX6_write_0 4 rfl) (v := nI 8) (by decide) ?_
    refine g_icmp_leN hC (by omega) (by omega) (gDec_at DX6_write_0 5 rfl) 14 (by decide) (fun h8 => ?_) (fun h8 => ?_)
    · skip
      refine g_iload_n hC (gDec_at DX6_write_0 8 rfl) rfl ?_
      refine g_bipush hC (gDec_at DX6_write_0 9 rfl) (v := nI 60) (by decide) ?_
      refine g_aload_n hC (gDec_at DX6_write_0 10 rfl) rfl ?_
      refine g_get (w := wC q) hC 0 (v := .ref (q.2.2 1)) fl_X6_10 (show 0 < 63 from by decide) rfl rfl (gDec_at DX6_write_0 11 rfl) ?_
      refine g_get (w := wC q) hC 1 (v := .int (nI tl)) fl_X6_37 (show 1 < 63 from by decide) rfl (g_sv hT.1) (gDec_at DX6_write_0 12 rfl) ?_
      refine g_isubN hC (by omega) (gDec_at DX6_write_0 13 rfl) ?_
      refine g_icmp_leN hC (by omega) (by omega) (gDec_at DX6_write_0 14 rfl) 31 (by decide) (fun h25 => ?_) (fun h25 => ?_)
      · skip
        exact absurd hf (by omega)
      · skip
        refine g_bipush hC (gDec_at DX6_write_0 15 rfl) (v := -4) (by decide) ?_
        refine g_iret hC (gDec_at DX6_write_0 16 rfl) ?_
        exact ⟨rfl, rfl⟩
    · skip
      exact absurd h8 (by omega)

set_option maxRecDepth 100000 in
set_option maxHeartbeats 4000000 in
theorem c_X6_write_ok (q : gQ3) {M : gM} {B : gB} (hI : cI M B) {tl : Nat} {tb : Nat → Nat} (hT : cT M tl tb) {n : Nat} (hna : 1 ≤ n) (hnb : n ≤ 8) {v : Int64} (hf : tl + n ≤ 60) : gCt (wC q) yX6_write cX6_write 5 (some .int) 8 [.ref (q.2.2 0), .int (nI n), .long v] M (fun r M' => r = some (.int (nI (tl + n))) ∧ cT M' (tl + n) (apT tb tl n n v) ∧ sameO (fun c => c = 1 ∨ c = 2) M M') := by
  refine gMet RX6 (by decide +kernel) rfl (Nat.le_of_ble_eq_true rfl) (fun X hC => ?_)
  have hC : gC X (wC q) cX6_write 5 RX6 (some .int) 8 := hC
  show gG X (wC q) _ 5 M 0 [(0, .ref (q.2.2 0)), (1, .int (nI n)), (2, .long v)] []
  have ht := hT.2.1
  refine g_iload_n hC (gDec_at DX6_write_0 0 rfl) rfl ?_
  refine g_iconst hC (gDec_at DX6_write_0 1 rfl) (v := nI 1) (by decide) ?_
  refine g_icmp_ltN hC (by omega) (by omega) (gDec_at DX6_write_0 2 rfl) 11 (by decide) (fun h2 => ?_) (fun h2 => ?_)
  · skip
    exact absurd h2 (by omega)
  · skip
    refine g_iload_n hC (gDec_at DX6_write_0 3 rfl) rfl ?_
    refine g_bipush hC (gDec_at DX6_write_0 4 rfl) (v := nI 8) (by decide) ?_
    refine g_icmp_leN hC (by omega) (by omega) (gDec_at DX6_write_0 5 rfl) 14 (by decide) (fun h8 => ?_) (fun h8 => ?_)
    · skip
      refine g_iload_n hC (gDec_at DX6_write_0 8 rfl) rfl ?_
      refine g_bipush hC (gDec_at DX6_write_0 9 rfl) (v := nI 60) (by decide) ?_
      refine g_aload_n hC (gDec_at DX6_write_0 10 rfl) rfl ?_
      refine g_get (w := wC q) hC 0 (v := .ref (q.2.2 1)) fl_X6_10 (show 0 < 63 from by decide) rfl rfl (gDec_at DX6_write_0 11 rfl) ?_
      refine g_get (w := wC q) hC 1 (v := .int (nI tl)) fl_X6_37 (show 1 < 63 from by decide) rfl (g_sv hT.1) (gDec_at DX6_write_0 12 rfl) ?_
      refine g_isubN hC (by omega) (gDec_at DX6_write_0 13 rfl) ?_
      refine g_icmp_leN hC (by omega) (by omega) (gDec_at DX6_write_0 14 rfl) 31 (by decide) (fun h25 => ?_) (fun h25 => ?_)
      · skip
        refine g_iload_n hC (gDec_at DX6_write_0 17 rfl) rfl ?_
        refine g_iconst hC (gDec_at DX6_write_0 18 rfl) (v := nI 1) (by decide) ?_
        refine g_isub hC (gDec_at DX6_write_0 19 rfl) (v := (nI n - 1)) rfl ?_
        refine g_istore hC (gDec_at DX6_write_0 20 rfl) (by decide) (L' := [(4, .int (nI n - 1)), (0, .ref (q.2.2 0)), (1, .int (nI n)), (2, .long v)]) rfl ?_
        have loop36 : ∀ (fu i : Nat) (M1 : gM), i ≤ n → n - i < fu → cT M1 (tl + i) (apT tb tl n i v) → sameO (fun c => c = 1 ∨ c = 2) M M1 → gG X (wC q) (fun r M' => r = some (.int (nI (tl + n))) ∧ cT M' (tl + n) (apT tb tl n n v) ∧ sameO (fun c => c = 1 ∨ c = 2) M M') 5 M1 36 [(0, .ref (q.2.2 0)), (1, .int (nI n)), (2, .long v), (4, .int (nI (n - i) - 1))] [] := by
          intro fu; induction fu with
          | zero => intro i M1 h1 h2; omega
          | succ fu ih =>
            intro i M1 hi hfu hT1 hs1
            refine g_iload hC (gDec_at DX6_write_0 21 rfl) rfl ?_
            refine g_if_lt hC (gDec_at DX6_write_0 22 rfl) 66 (by decide) (fun h38 => ?_) (fun h38 => ?_)
            · skip
              obtain rfl : n = i := by have := (nI_m1_lt (by omega)).mp h38; omega
              refine g_aload_n hC (gDec_at DX6_write_0 36 rfl) rfl ?_
              refine g_get (w := wC q) hC 0 (v := .ref (q.2.2 1)) fl_X6_10 (show 0 < 63 from by decide) rfl rfl (gDec_at DX6_write_0 37 rfl) ?_
              refine g_get (w := wC q) hC 1 (v := .int (nI (tl + n))) fl_X6_37 (show 1 < 63 from by decide) rfl (g_sv hT1.1) (gDec_at DX6_write_0 38 rfl) ?_
              refine g_iret hC (gDec_at DX6_write_0 39 rfl) ?_
              exact ⟨rfl, hT1, hs1⟩
            · skip
              have hin : i < n := by rcases Nat.lt_or_ge i n with z | z; exact z; exact absurd ((nI_m1_lt (by omega)).mpr (by omega)) h38
              rw [nI_dec (show 1 ≤ n - i from by omega)]
              refine g_aload_n hC (gDec_at DX6_write_0 23 rfl) rfl ?_
              refine g_get (w := wC q) hC 0 (v := .ref (q.2.2 1)) fl_X6_10 (show 0 < 63 from by decide) rfl rfl (gDec_at DX6_write_0 24 rfl) ?_
              refine g_lload_n hC (gDec_at DX6_write_0 25 rfl) rfl ?_
              refine g_bipush hC (gDec_at DX6_write_0 26 rfl) (v := nI 8) (by decide) ?_
              refine g_iload hC (gDec_at DX6_write_0 27 rfl) rfl ?_
              refine g_imulN hC (gDec_at DX6_write_0 28 rfl) ?_
              refine g_lushr hC (gDec_at DX6_write_0 29 rfl) (v := ((v.toUInt64 >>> ((nI (8 * (n - i - 1))).toInt64.toUInt64 &&& Int64.toUInt64 63)).toInt64)) rfl ?_
              refine g_l2i hC (gDec_at DX6_write_0 30 rfl) rfl ?_
              refine g_sipush hC (gDec_at DX6_write_0 31 rfl) (v := nI 255) (by decide) ?_
              refine g_iand hC (gDec_at DX6_write_0 32 rfl) (v := (nI (byt v (n - i - 1)))) (low8b v (by omega)) ?_
              refine g_callVn (w := wC q) hC 1 (c_X4_append q hT1 (by omega) (c := byt v (n - i - 1))) vf_X4_append ml_X6_41 (by decide) (show 1 < 63 from by decide) rfl rfl rfl rfl rfl (Nat.le_of_ble_eq_true rfl) (gDec_at DX6_write_0 33 rfl) ?_
              refine g_iinc hC (gDec_at DX6_write_0 34 rfl) rfl (v := (nI (n - (i + 1)) - 1)) ((nI_d1 _).trans (congrArg (fun z => nI z - 1) (Nat.sub_sub n i 1))) (by decide) (L' := [(4, .int (nI (n - (i + 1)) - 1)), (0, .ref (q.2.2 0)), (1, .int (nI n)), (2, .long v)]) rfl ?_
              refine g_goto hC (gDec_at DX6_write_0 35 rfl) 36 (by decide) ?_
              refine g_sub [1, 2, 3, 0] (L' := [(0, .ref (q.2.2 0)), (1, .int (nI n)), (2, .long v), (4, .int (nI (n - (i + 1)) - 1))]) rfl ?_
              have h9 := ih (i + 1) _ (by omega) (by omega) (cT_app hT1 (by omega) (byt_lt v _) (fun j hj => by unfold apT; by_cases z : tl ≤ j; rw [if_pos ⟨z, by omega⟩, if_pos ⟨z, by omega⟩]; rw [if_neg (by omega), if_neg (by omega)]) (by unfold apT; rw [if_pos ⟨by omega, by omega⟩, show n - 1 - (tl + i - tl) = n - i - 1 by omega])) (sameO_up (sameO_up hs1 (by omega)) (by omega))
              exact h9
        exact g_sub [1, 2, 3, 0] rfl (loop36 (n + 1 - 0) 0 M (by omega) (by omega) (by rw [apT_0]; exact hT) sameO_rf)
      · skip
        exact absurd hf (by omega)
    · skip
      exact absurd h8 (by omega)

set_option maxRecDepth 100000 in
set_option maxHeartbeats 4000000 in
theorem c_X6_wipe_ok (q : gQ3) {M : gM} {B : gB} (hI : cI M B) {tl : Nat} {tb : Nat → Nat} (hT : cT M tl tb) : gCt (wC q) yX6_wipe cX6_wipe 2 (some .int) 8 [.ref (q.2.2 0)] M (gR (some (.int (nI tl))) (gupd M 1 1 (nI 0))) := by
  refine gMet RX6 (by decide +kernel) rfl (Nat.le_of_ble_eq_true rfl) (fun X hC => ?_)
  have hC : gC X (wC q) cX6_wipe 2 RX6 (some .int) 8 := hC
  show gG X (wC q) _ 2 M 0 [(0, .ref (q.2.2 0))] []
  refine g_aload_n hC (gDec_at DX6_wipe_0 0 rfl) rfl ?_
  refine g_get (w := wC q) hC 0 (v := .ref (q.2.2 1)) fl_X6_10 (show 0 < 63 from by decide) rfl rfl (gDec_at DX6_wipe_0 1 rfl) ?_
  refine g_get (w := wC q) hC 1 (v := .int (nI tl)) fl_X6_37 (show 1 < 63 from by decide) rfl (g_sv hT.1) (gDec_at DX6_wipe_0 2 rfl) ?_
  refine g_istore_n hC (gDec_at DX6_wipe_0 3 rfl) (by decide) (L' := [(1, .int (nI tl)), (0, .ref (q.2.2 0))]) rfl ?_
  refine g_aload_n hC (gDec_at DX6_wipe_0 4 rfl) rfl ?_
  refine g_get (w := wC q) hC 0 (v := .ref (q.2.2 1)) fl_X6_10 (show 0 < 63 from by decide) rfl rfl (gDec_at DX6_wipe_0 5 rfl) ?_
  refine g_iconst hC (gDec_at DX6_wipe_0 6 rfl) (v := nI 0) (by decide) ?_
  refine g_putI (w := wC q) hC 1 fl_X6_37 fp_4_1 (show 1 < 63 from by decide) rfl (Nat.le_of_ble_eq_true rfl) rfl rfl (gDec_at DX6_wipe_0 7 rfl) ?_
  refine g_iload_n hC (gDec_at DX6_wipe_0 8 rfl) rfl ?_
  refine g_iret hC (gDec_at DX6_wipe_0 9 rfl) ?_
  exact ⟨rfl, rfl⟩

set_option maxRecDepth 100000 in
set_option maxHeartbeats 4000000 in
theorem c_X6_broken_ok (q : gQ3) {M : gM} {B : gB} (hI : cI M B) : gCt (wC q) yX6_broken cX6_broken 1 (some .int) 8 [.ref (q.2.2 0)] M (gR (some (.int (bk (B 9 1)))) M) := by
  refine gMet RX6 (by decide +kernel) rfl (Nat.le_of_ble_eq_true rfl) (fun X hC => ?_)
  have hC : gC X (wC q) cX6_broken 1 RX6 (some .int) 8 := hC
  show gG X (wC q) _ 1 M 0 [(0, .ref (q.2.2 0))] []
  refine g_aload_n hC (gDec_at DX6_broken_0 0 rfl) rfl ?_
  refine g_get (w := wC q) hC 0 (v := .ref (q.2.2 9)) fl_X6_19 (show 0 < 63 from by decide) rfl rfl (gDec_at DX6_broken_0 1 rfl) ?_
  refine g_get (w := wC q) hC 9 (v := .int (bk (B 9 1))) fl_X6_138 (show 9 < 63 from by decide) rfl (g_sv (ci_brk hI)) (gDec_at DX6_broken_0 2 rfl) ?_
  refine g_iret hC (gDec_at DX6_broken_0 3 rfl) ?_
  exact ⟨rfl, rfl⟩

set_option maxRecDepth 100000 in
set_option maxHeartbeats 4000000 in
theorem c_X6_scrape_out (q : gQ3) {M : gM} {B : gB} (hI : cI M B) {x0 : Int32} (hx0 : ¬ isPl B x0) {s : Int32} : gCt (wC q) yX6_scrape cX6_scrape 4 (some .int) 8 [.ref (q.2.2 0), .int x0, .int s] M (gR (some (.int (-1))) M) := by
  refine gMet RX6 (by decide +kernel) rfl (Nat.le_of_ble_eq_true rfl) (fun X hC => ?_)
  have hC : gC X (wC q) cX6_scrape 4 RX6 (some .int) 8 := hC
  show gG X (wC q) _ 4 M 0 [(0, .ref (q.2.2 0)), (1, .int x0), (2, .int s)] []
  refine g_aload_n hC (gDec_at DX6_scrape_0 0 rfl) rfl ?_
  refine g_get (w := wC q) hC 0 (v := .ref (q.2.2 9)) fl_X6_19 (show 0 < 63 from by decide) rfl rfl (gDec_at DX6_scrape_0 1 rfl) ?_
  refine g_iload_n hC (gDec_at DX6_scrape_0 2 rfl) rfl ?_
  refine g_callVd (w := wC q) hC 9 (c_X0_placeTold_out q hI hx0) vf_X0_placeTold ml_X6_79 (by decide) (show 9 < 63 from by decide) rfl rfl rfl rfl rfl (Nat.le_of_ble_eq_true rfl) (gDec_at DX6_scrape_0 3 rfl) ?_
  refine g_astore_nN hC (gDec_at DX6_scrape_0 4 rfl) (by decide) (L' := [(3, .null), (0, .ref (q.2.2 0)), (1, .int x0), (2, .int s)]) rfl ?_
  refine g_aload_nN hC (gDec_at DX6_scrape_0 5 rfl) rfl ?_
  refine g_ifnonnullN hC (gDec_at DX6_scrape_0 6 rfl) ?_ 15 (by decide)
  refine g_iconst hC (gDec_at DX6_scrape_0 7 rfl) (v := -1) (by decide) ?_
  refine g_iret hC (gDec_at DX6_scrape_0 8 rfl) ?_
  exact ⟨rfl, rfl⟩

set_option maxRecDepth 100000 in
set_option maxHeartbeats 4000000 in
theorem c_X6_scrape_bads (q : gQ3) {M : gM} {B : gB} (hI : cI M B) {j : Nat} (hj : j < 12) (ht : j % 6 < B 9 0) {s : Int32} (hs : ¬ gin s 1 9) : gCt (wC q) yX6_scrape cX6_scrape 4 (some .int) 8 [.ref (q.2.2 0), .int (nI (10 * (j / 6) + j % 6)), .int s] M (gR (some (.int (-2))) M) := by
  refine gMet RX6 (by decide +kernel) rfl (Nat.le_of_ble_eq_true rfl) (fun X hC => ?_)
  have hC : gC X (wC q) cX6_scrape 4 RX6 (some .int) 8 := hC
  show gG X (wC q) _ 4 M 0 [(0, .ref (q.2.2 0)), (1, .int (nI (10 * (j / 6) + j % 6))), (2, .int s)] []
  refine g_aload_n hC (gDec_at DX6_scrape_0 0 rfl) rfl ?_
  refine g_get (w := wC q) hC 0 (v := .ref (q.2.2 9)) fl_X6_19 (show 0 < 63 from by decide) rfl rfl (gDec_at DX6_scrape_0 1 rfl) ?_
  refine g_iload_n hC (gDec_at DX6_scrape_0 2 rfl) rfl ?_
  refine g_callVd (w := wC q) hC 9 (c_X0_placeTold q hI hj ht) vf_X0_placeTold ml_X6_79 (by decide) (show 9 < 63 from by decide) rfl rfl rfl rfl rfl (Nat.le_of_ble_eq_true rfl) (gDec_at DX6_scrape_0 3 rfl) ?_
  refine g_astore_n hC (gDec_at DX6_scrape_0 4 rfl) (by decide) (L' := [(3, .ref (q.2.2 (15 + j))), (0, .ref (q.2.2 0)), (1, .int (nI (10 * (j / 6) + j % 6))), (2, .int s)]) rfl ?_
  refine g_aload_n hC (gDec_at DX6_scrape_0 5 rfl) rfl ?_
  refine g_ifnonnull hC (gDec_at DX6_scrape_0 6 rfl) 15 (by decide) ?_
  refine g_iload_n hC (gDec_at DX6_scrape_0 9 rfl) rfl ?_
  refine g_iconst hC (gDec_at DX6_scrape_0 10 rfl) (v := nI 1) (by decide) ?_
  refine g_bipush hC (gDec_at DX6_scrape_0 11 rfl) (v := nI 9) (by decide) ?_
  refine g_callSd (w := wC q) hC (c_X6_isOutside_out q (by omega) (by omega) hs) sf_X6_isOutside ml_X6_60 (by decide) rfl rfl (Nat.le_of_ble_eq_true rfl) (gDec_at DX6_scrape_0 12 rfl) ?_
  refine g_if_eqN hC (by decide) (gDec_at DX6_scrape_0 13 rfl) 28 (by decide) (fun h => absurd h (by decide)) (fun h => ?_)
  refine g_bipush hC (gDec_at DX6_scrape_0 14 rfl) (v := -2) (by decide) ?_
  refine g_iret hC (gDec_at DX6_scrape_0 15 rfl) ?_
  exact ⟨rfl, rfl⟩

set_option maxRecDepth 100000 in
set_option maxHeartbeats 4000000 in
theorem c_X6_scrape_brk (q : gQ3) {M : gM} {B : gB} (hI : cI M B) {j : Nat} (hj : j < 12) (ht : j % 6 < B 9 0) {s : Nat} (hsa : 1 ≤ s) (hsb : s ≤ 9) (hb1 : 0 < B 9 1) : gCt (wC q) yX6_scrape cX6_scrape 4 (some .int) 8 [.ref (q.2.2 0), .int (nI (10 * (j / 6) + j % 6)), .int (nI s)] M (gR (some (.int (-3))) M) := by
  refine gMet RX6 (by decide +kernel) rfl (Nat.le_of_ble_eq_true rfl) (fun X hC => ?_)
  have hC : gC X (wC q) cX6_scrape 4 RX6 (some .int) 8 := hC
  show gG X (wC q) _ 4 M 0 [(0, .ref (q.2.2 0)), (1, .int (nI (10 * (j / 6) + j % 6))), (2, .int (nI s))] []
  have h16 := hI.2.2.2.2.1
  refine g_aload_n hC (gDec_at DX6_scrape_0 0 rfl) rfl ?_
  refine g_get (w := wC q) hC 0 (v := .ref (q.2.2 9)) fl_X6_19 (show 0 < 63 from by decide) rfl rfl (gDec_at DX6_scrape_0 1 rfl) ?_
  refine g_iload_n hC (gDec_at DX6_scrape_0 2 rfl) rfl ?_
  refine g_callVd (w := wC q) hC 9 (c_X0_placeTold q hI hj ht) vf_X0_placeTold ml_X6_79 (by decide) (show 9 < 63 from by decide) rfl rfl rfl rfl rfl (Nat.le_of_ble_eq_true rfl) (gDec_at DX6_scrape_0 3 rfl) ?_
  refine g_astore_n hC (gDec_at DX6_scrape_0 4 rfl) (by decide) (L' := [(3, .ref (q.2.2 (15 + j))), (0, .ref (q.2.2 0)), (1, .int (nI (10 * (j / 6) + j % 6))), (2, .int (nI s))]) rfl ?_
  refine g_aload_n hC (gDec_at DX6_scrape_0 5 rfl) rfl ?_
  refine g_ifnonnull hC (gDec_at DX6_scrape_0 6 rfl) 15 (by decide) ?_
  refine g_iload_n hC (gDec_at DX6_scrape_0 9 rfl) rfl ?_
  refine g_iconst hC (gDec_at DX6_scrape_0 10 rfl) (v := nI 1) (by decide) ?_
  refine g_bipush hC (gDec_at DX6_scrape_0 11 rfl) (v := nI 9) (by decide) ?_
  refine g_callSd (w := wC q) hC (c_X6_isOutside_in q (by omega) (by omega) (nI_gin (k := s) (a := 1) (b := 9) (by omega) (by omega) (by omega))) sf_X6_isOutside ml_X6_60 (by decide) rfl rfl (Nat.le_of_ble_eq_true rfl) (gDec_at DX6_scrape_0 12 rfl) ?_
  refine g_if_eqN hC (by decide) (gDec_at DX6_scrape_0 13 rfl) 28 (by decide) (fun h => ?_) (fun h => absurd h (by decide))
  refine g_aload_n hC (gDec_at DX6_scrape_0 16 rfl) rfl ?_
  refine g_get (w := wC q) hC 0 (v := .ref (q.2.2 9)) fl_X6_19 (show 0 < 63 from by decide) rfl rfl (gDec_at DX6_scrape_0 17 rfl) ?_
  refine g_get (w := wC q) hC 9 (v := .int (nI (B 9 1 - 1))) fl_X6_138 (show 9 < 63 from by decide) rfl (g_sv ((ci_brk hI).trans (if_neg (by omega)))) (gDec_at DX6_scrape_0 18 rfl) ?_
  refine g_bipush hC (gDec_at DX6_scrape_0 19 rfl) (v := -9) (by decide) ?_
  refine g_icmp_ne hC (gDec_at DX6_scrape_0 20 rfl) 50 (by decide) (fun h => ?_) (fun h => absurd h (nI_n9 (by omega)))
  refine g_bipush hC (gDec_at DX6_scrape_0 27 rfl) (v := -3) (by decide) ?_
  refine g_iret hC (gDec_at DX6_scrape_0 28 rfl) ?_
  exact ⟨rfl, rfl⟩

theorem sub_lt4 {d s : Nat} (hd : d < 1000) (hs : s < 1000) (h : d < s + 4) : ¬ nI 4 ≤ nI d - nI s := by
  rw [le_I, pk_sub_toInt (by omega) (by omega), nI_toInt (by omega)]
  omega
set_option maxRecDepth 100000 in
set_option maxHeartbeats 4000000 in
theorem c_X6_scrape_less (q : gQ3) {M : gM} {B : gB} (hI : cI M B) {j : Nat} (hj : j < 12) (ht : j % 6 < B 9 0) {s : Nat} (hsa : 1 ≤ s) (hsb : s ≤ 9) (hb0 : B 9 1 = 0) (hl : B 1 j < s + 4) : gCt (wC q) yX6_scrape cX6_scrape 4 (some .int) 8 [.ref (q.2.2 0), .int (nI (10 * (j / 6) + j % 6)), .int (nI s)] M (gR (some (.int (-3))) M) := by
  refine gMet RX6 (by decide +kernel) rfl (Nat.le_of_ble_eq_true rfl) (fun X hC => ?_)
  have hC : gC X (wC q) cX6_scrape 4 RX6 (some .int) 8 := hC
  show gG X (wC q) _ 4 M 0 [(0, .ref (q.2.2 0)), (1, .int (nI (10 * (j / 6) + j % 6))), (2, .int (nI s))] []
  have h1 := bv_f1 hI.2.2 hj ht
  refine g_aload_n hC (gDec_at DX6_scrape_0 0 rfl) rfl ?_
  refine g_get (w := wC q) hC 0 (v := .ref (q.2.2 9)) fl_X6_19 (show 0 < 63 from by decide) rfl rfl (gDec_at DX6_scrape_0 1 rfl) ?_
  refine g_iload_n hC (gDec_at DX6_scrape_0 2 rfl) rfl ?_
  refine g_callVd (w := wC q) hC 9 (c_X0_placeTold q hI hj ht) vf_X0_placeTold ml_X6_79 (by decide) (show 9 < 63 from by decide) rfl rfl rfl rfl rfl (Nat.le_of_ble_eq_true rfl) (gDec_at DX6_scrape_0 3 rfl) ?_
  refine g_astore_n hC (gDec_at DX6_scrape_0 4 rfl) (by decide) (L' := [(3, .ref (q.2.2 (15 + j))), (0, .ref (q.2.2 0)), (1, .int (nI (10 * (j / 6) + j % 6))), (2, .int (nI s))]) rfl ?_
  refine g_aload_n hC (gDec_at DX6_scrape_0 5 rfl) rfl ?_
  refine g_ifnonnull hC (gDec_at DX6_scrape_0 6 rfl) 15 (by decide) ?_
  refine g_iload_n hC (gDec_at DX6_scrape_0 9 rfl) rfl ?_
  refine g_iconst hC (gDec_at DX6_scrape_0 10 rfl) (v := nI 1) (by decide) ?_
  refine g_bipush hC (gDec_at DX6_scrape_0 11 rfl) (v := nI 9) (by decide) ?_
  refine g_callSd (w := wC q) hC (c_X6_isOutside_in q (by omega) (by omega) (nI_gin (k := s) (a := 1) (b := 9) (by omega) (by omega) (by omega))) sf_X6_isOutside ml_X6_60 (by decide) rfl rfl (Nat.le_of_ble_eq_true rfl) (gDec_at DX6_scrape_0 12 rfl) ?_
  refine g_if_eqN hC (by decide) (gDec_at DX6_scrape_0 13 rfl) 28 (by decide) (fun h => ?_) (fun h => absurd h (by decide))
  refine g_aload_n hC (gDec_at DX6_scrape_0 16 rfl) rfl ?_
  refine g_get (w := wC q) hC 0 (v := .ref (q.2.2 9)) fl_X6_19 (show 0 < 63 from by decide) rfl rfl (gDec_at DX6_scrape_0 17 rfl) ?_
  refine g_get (w := wC q) hC 9 (v := .int (-9)) fl_X6_138 (show 9 < 63 from by decide) rfl (g_sv ((ci_brk hI).trans (by rw [hb0]; rfl))) (gDec_at DX6_scrape_0 18 rfl) ?_
  refine g_bipush hC (gDec_at DX6_scrape_0 19 rfl) (v := -9) (by decide) ?_
  refine g_icmp_ne hC (gDec_at DX6_scrape_0 20 rfl) 50 (by decide) (fun h => absurd rfl h) (fun h => ?_)
  refine g_aload_n hC (gDec_at DX6_scrape_0 21 rfl) rfl ?_
  refine g_get (w := wC q) hC (15 + j) (v := .int (nI (B 1 j))) fl_X6_92 (show 15 + j < 63 from by have := hj; omega) (cC_p0 q _ _ hj) (g_sv (ci_f1 hI hj ht)) (gDec_at DX6_scrape_0 22 rfl) ?_
  refine g_iload_n hC (gDec_at DX6_scrape_0 23 rfl) rfl ?_
  refine g_isub hC (gDec_at DX6_scrape_0 24 rfl) (v := (nI (B 1 j) - nI s)) rfl ?_
  refine g_iconst hC (gDec_at DX6_scrape_0 25 rfl) (v := nI 4) (by decide) ?_
  refine g_icmp_ge hC (gDec_at DX6_scrape_0 26 rfl) 53 (by decide) (fun h47 => ?_) (fun h47 => ?_)
  · skip
    exact absurd h47 (sub_lt4 (by omega) (by omega) hl)
  · skip
    refine g_bipush hC (gDec_at DX6_scrape_0 27 rfl) (v := -3) (by decide) ?_
    refine g_iret hC (gDec_at DX6_scrape_0 28 rfl) ?_
    exact ⟨rfl, rfl⟩

set_option maxRecDepth 100000 in
set_option maxHeartbeats 4000000 in
theorem c_X6_scrape_ok (q : gQ3) {M : gM} {B : gB} (hI : cI M B) {j : Nat} (hj : j < 12) (ht : j % 6 < B 9 0) {s : Nat} (hsa : 1 ≤ s) (hsb : s ≤ 9) (hb0 : B 9 1 = 0) (hl : s + 4 ≤ B 1 j) : gCt (wC q) yX6_scrape cX6_scrape 4 (some .int) 8 [.ref (q.2.2 0), .int (nI (10 * (j / 6) + j % 6)), .int (nI s)] M (gR (some (.int (nI (B 1 j - s)))) (gupd M (15 + j) 4 (nI (B 1 j - s)))) := by
  refine gMet RX6 (by decide +kernel) rfl (Nat.le_of_ble_eq_true rfl) (fun X hC => ?_)
  have hC : gC X (wC q) cX6_scrape 4 RX6 (some .int) 8 := hC
  show gG X (wC q) _ 4 M 0 [(0, .ref (q.2.2 0)), (1, .int (nI (10 * (j / 6) + j % 6))), (2, .int (nI s))] []
  have h1 := bv_f1 hI.2.2 hj ht
  refine g_aload_n hC (gDec_at DX6_scrape_0 0 rfl) rfl ?_
  refine g_get (w := wC q) hC 0 (v := .ref (q.2.2 9)) fl_X6_19 (show 0 < 63 from by decide) rfl rfl (gDec_at DX6_scrape_0 1 rfl) ?_
  refine g_iload_n hC (gDec_at DX6_scrape_0 2 rfl) rfl ?_
  refine g_callVd (w := wC q) hC 9 (c_X0_placeTold q hI hj ht) vf_X0_placeTold ml_X6_79 (by decide) (show 9 < 63 from by decide) rfl rfl rfl rfl rfl (Nat.le_of_ble_eq_true rfl) (gDec_at DX6_scrape_0 3 rfl) ?_
  refine g_astore_n hC (gDec_at DX6_scrape_0 4 rfl) (by decide) (L' := [(3, .ref (q.2.2 (15 + j))), (0, .ref (q.2.2 0)), (1, .int (nI (10 * (j / 6) + j % 6))), (2, .int (nI s))]) rfl ?_
  refine g_aload_n hC (gDec_at DX6_scrape_0 5 rfl) rfl ?_
  refine g_ifnonnull hC (gDec_at DX6_scrape_0 6 rfl) 15 (by decide) ?_
  refine g_iload_n hC (gDec_at DX6_scrape_0 9 rfl) rfl ?_
  refine g_iconst hC (gDec_at DX6_scrape_0 10 rfl) (v := nI 1) (by decide) ?_
  refine g_bipush hC (gDec_at DX6_scrape_0 11 rfl) (v := nI 9) (by decide) ?_
  refine g_callSd (w := wC q) hC (c_X6_isOutside_in q (by omega) (by omega) (nI_gin (k := s) (a := 1) (b := 9) (by omega) (by omega) (by omega))) sf_X6_isOutside ml_X6_60 (by decide) rfl rfl (Nat.le_of_ble_eq_true rfl) (gDec_at DX6_scrape_0 12 rfl) ?_
  refine g_if_eqN hC (by decide) (gDec_at DX6_scrape_0 13 rfl) 28 (by decide) (fun h => ?_) (fun h => absurd h (by decide))
  refine g_aload_n hC (gDec_at DX6_scrape_0 16 rfl) rfl ?_
  refine g_get (w := wC q) hC 0 (v := .ref (q.2.2 9)) fl_X6_19 (show 0 < 63 from by decide) rfl rfl (gDec_at DX6_scrape_0 17 rfl) ?_
  refine g_get (w := wC q) hC 9 (v := .int (-9)) fl_X6_138 (show 9 < 63 from by decide) rfl (g_sv ((ci_brk hI).trans (by rw [hb0]; rfl))) (gDec_at DX6_scrape_0 18 rfl) ?_
  refine g_bipush hC (gDec_at DX6_scrape_0 19 rfl) (v := -9) (by decide) ?_
  refine g_icmp_ne hC (gDec_at DX6_scrape_0 20 rfl) 50 (by decide) (fun h => absurd rfl h) (fun h => ?_)
  refine g_aload_n hC (gDec_at DX6_scrape_0 21 rfl) rfl ?_
  refine g_get (w := wC q) hC (15 + j) (v := .int (nI (B 1 j))) fl_X6_92 (show 15 + j < 63 from by have := hj; omega) (cC_p0 q _ _ hj) (g_sv (ci_f1 hI hj ht)) (gDec_at DX6_scrape_0 22 rfl) ?_
  refine g_iload_n hC (gDec_at DX6_scrape_0 23 rfl) rfl ?_
  refine g_isubN hC (by omega) (gDec_at DX6_scrape_0 24 rfl) ?_
  refine g_iconst hC (gDec_at DX6_scrape_0 25 rfl) (v := nI 4) (by decide) ?_
  refine g_icmp_geN hC (by omega) (by omega) (gDec_at DX6_scrape_0 26 rfl) 53 (by decide) (fun h47 => ?_) (fun h47 => ?_)
  · skip
    refine g_aload_n hC (gDec_at DX6_scrape_0 29 rfl) rfl ?_
    refine g_dup hC (gDec_at DX6_scrape_0 30 rfl) rfl ?_
    refine g_get (w := wC q) hC (15 + j) (v := .int (nI (B 1 j))) fl_X6_92 (show 15 + j < 63 from by have := hj; omega) (cC_p0 q _ _ hj) (g_sv (ci_f1 hI hj ht)) (gDec_at DX6_scrape_0 31 rfl) ?_
    refine g_iload_n hC (gDec_at DX6_scrape_0 32 rfl) rfl ?_
    refine g_isubN hC (by omega) (gDec_at DX6_scrape_0 33 rfl) ?_
    refine g_putI (w := wC q) hC (15 + j) fl_X6_92 fp_1_4 (show 15 + j < 63 from by have := hj; omega) (cC_p0 q _ _ hj) (Nat.le_of_ble_eq_true rfl) (cC_p0 q _ _ hj) rfl (gDec_at DX6_scrape_0 34 rfl) ?_
    refine g_aload_n hC (gDec_at DX6_scrape_0 35 rfl) rfl ?_
    refine g_get (w := wC q) hC (15 + j) (v := .int (nI (B 1 j - s))) fl_X6_92 (show 15 + j < 63 from by have := hj; omega) (cC_p0 q _ _ hj) (g_sv (by rw [gupd_get, if_pos ⟨rfl, rfl⟩])) (gDec_at DX6_scrape_0 36 rfl) ?_
    refine g_iret hC (gDec_at DX6_scrape_0 37 rfl) ?_
    exact ⟨rfl, rfl⟩
  · skip
    exact absurd h47 (by omega)

set_option maxRecDepth 100000 in
set_option maxHeartbeats 4000000 in
theorem c_X6_steam_out (q : gQ3) {M : gM} {B : gB} (hI : cI M B) {x0 : Int32} (hx0 : ¬ isPl B x0) : gCt (wC q) yX6_steam cX6_steam 3 (some .int) 8 [.ref (q.2.2 0), .int x0] M (gR (some (.int (-1))) M) := by
  refine gMet RX6 (by decide +kernel) rfl (Nat.le_of_ble_eq_true rfl) (fun X hC => ?_)
  have hC : gC X (wC q) cX6_steam 3 RX6 (some .int) 8 := hC
  show gG X (wC q) _ 3 M 0 [(0, .ref (q.2.2 0)), (1, .int x0)] []
  refine g_aload_n hC (gDec_at DX6_steam_0 0 rfl) rfl ?_
  refine g_get (w := wC q) hC 0 (v := .ref (q.2.2 9)) fl_X6_19 (show 0 < 63 from by decide) rfl rfl (gDec_at DX6_steam_0 1 rfl) ?_
  refine g_iload_n hC (gDec_at DX6_steam_0 2 rfl) rfl ?_
  refine g_callVd (w := wC q) hC 9 (c_X0_placeTold_out q hI hx0) vf_X0_placeTold ml_X6_79 (by decide) (show 9 < 63 from by decide) rfl rfl rfl rfl rfl (Nat.le_of_ble_eq_true rfl) (gDec_at DX6_steam_0 3 rfl) ?_
  refine g_astore_nN hC (gDec_at DX6_steam_0 4 rfl) (by decide) (L' := [(2, .null), (0, .ref (q.2.2 0)), (1, .int x0)]) rfl ?_
  refine g_aload_nN hC (gDec_at DX6_steam_0 5 rfl) rfl ?_
  refine g_ifnonnullN hC (gDec_at DX6_steam_0 6 rfl) ?_ 15 (by decide)
  refine g_iconst hC (gDec_at DX6_steam_0 7 rfl) (v := -1) (by decide) ?_
  refine g_iret hC (gDec_at DX6_steam_0 8 rfl) ?_
  exact ⟨rfl, rfl⟩

set_option maxRecDepth 100000 in
set_option maxHeartbeats 4000000 in
theorem c_X6_steam_brk (q : gQ3) {M : gM} {B : gB} (hI : cI M B) {j : Nat} (hj : j < 12) (ht : j % 6 < B 9 0) (hb1 : 0 < B 9 1) : gCt (wC q) yX6_steam cX6_steam 3 (some .int) 8 [.ref (q.2.2 0), .int (nI (10 * (j / 6) + j % 6))] M (gR (some (.int (-3))) M) := by
  refine gMet RX6 (by decide +kernel) rfl (Nat.le_of_ble_eq_true rfl) (fun X hC => ?_)
  have hC : gC X (wC q) cX6_steam 3 RX6 (some .int) 8 := hC
  show gG X (wC q) _ 3 M 0 [(0, .ref (q.2.2 0)), (1, .int (nI (10 * (j / 6) + j % 6)))] []
  have h16 := hI.2.2.2.2.1
  refine g_aload_n hC (gDec_at DX6_steam_0 0 rfl) rfl ?_
  refine g_get (w := wC q) hC 0 (v := .ref (q.2.2 9)) fl_X6_19 (show 0 < 63 from by decide) rfl rfl (gDec_at DX6_steam_0 1 rfl) ?_
  refine g_iload_n hC (gDec_at DX6_steam_0 2 rfl) rfl ?_
  refine g_callVd (w := wC q) hC 9 (c_X0_placeTold q hI hj ht) vf_X0_placeTold ml_X6_79 (by decide) (show 9 < 63 from by decide) rfl rfl rfl rfl rfl (Nat.le_of_ble_eq_true rfl) (gDec_at DX6_steam_0 3 rfl) ?_
  refine g_astore_n hC (gDec_at DX6_steam_0 4 rfl) (by decide) (L' := [(2, .ref (q.2.2 (15 + j))), (0, .ref (q.2.2 0)), (1, .int (nI (10 * (j / 6) + j % 6)))]) rfl ?_
  refine g_aload_n hC (gDec_at DX6_steam_0 5 rfl) rfl ?_
  refine g_ifnonnull hC (gDec_at DX6_steam_0 6 rfl) 15 (by decide) ?_
  refine g_aload_n hC (gDec_at DX6_steam_0 9 rfl) rfl ?_
  refine g_get (w := wC q) hC 0 (v := .ref (q.2.2 9)) fl_X6_19 (show 0 < 63 from by decide) rfl rfl (gDec_at DX6_steam_0 10 rfl) ?_
  refine g_get (w := wC q) hC 9 (v := .int (nI (B 9 1 - 1))) fl_X6_138 (show 9 < 63 from by decide) rfl (g_sv ((ci_brk hI).trans (if_neg (by omega)))) (gDec_at DX6_steam_0 11 rfl) ?_
  refine g_bipush hC (gDec_at DX6_steam_0 12 rfl) (v := -9) (by decide) ?_
  refine g_icmp_eq hC (gDec_at DX6_steam_0 13 rfl) 30 (by decide) (fun h => absurd h (nI_n9 (by omega))) (fun h => ?_)
  refine g_bipush hC (gDec_at DX6_steam_0 14 rfl) (v := -3) (by decide) ?_
  refine g_iret hC (gDec_at DX6_steam_0 15 rfl) ?_
  exact ⟨rfl, rfl⟩

set_option maxRecDepth 100000 in
set_option maxHeartbeats 4000000 in
theorem c_X6_steam_ok (q : gQ3) {M : gM} {B : gB} (hI : cI M B) {j : Nat} (hj : j < 12) (ht : j % 6 < B 9 0) (hb0 : B 9 1 = 0) : gCt (wC q) yX6_steam cX6_steam 3 (some .int) 8 [.ref (q.2.2 0), .int (nI (10 * (j / 6) + j % 6))] M (gR (some (.int (nI (B 3 j / 2)))) (gupd M (15 + j) 6 (nI (B 3 j / 2)))) := by
  refine gMet RX6 (by decide +kernel) rfl (Nat.le_of_ble_eq_true rfl) (fun X hC => ?_)
  have hC : gC X (wC q) cX6_steam 3 RX6 (some .int) 8 := hC
  show gG X (wC q) _ 3 M 0 [(0, .ref (q.2.2 0)), (1, .int (nI (10 * (j / 6) + j % 6)))] []
  have h3 := bv_f3 hI.2.2 hj ht
  refine g_aload_n hC (gDec_at DX6_steam_0 0 rfl) rfl ?_
  refine g_get (w := wC q) hC 0 (v := .ref (q.2.2 9)) fl_X6_19 (show 0 < 63 from by decide) rfl rfl (gDec_at DX6_steam_0 1 rfl) ?_
  refine g_iload_n hC (gDec_at DX6_steam_0 2 rfl) rfl ?_
  refine g_callVd (w := wC q) hC 9 (c_X0_placeTold q hI hj ht) vf_X0_placeTold ml_X6_79 (by decide) (show 9 < 63 from by decide) rfl rfl rfl rfl rfl (Nat.le_of_ble_eq_true rfl) (gDec_at DX6_steam_0 3 rfl) ?_
  refine g_astore_n hC (gDec_at DX6_steam_0 4 rfl) (by decide) (L' := [(2, .ref (q.2.2 (15 + j))), (0, .ref (q.2.2 0)), (1, .int (nI (10 * (j / 6) + j % 6)))]) rfl ?_
  refine g_aload_n hC (gDec_at DX6_steam_0 5 rfl) rfl ?_
  refine g_ifnonnull hC (gDec_at DX6_steam_0 6 rfl) 15 (by decide) ?_
  refine g_aload_n hC (gDec_at DX6_steam_0 9 rfl) rfl ?_
  refine g_get (w := wC q) hC 0 (v := .ref (q.2.2 9)) fl_X6_19 (show 0 < 63 from by decide) rfl rfl (gDec_at DX6_steam_0 10 rfl) ?_
  refine g_get (w := wC q) hC 9 (v := .int (-9)) fl_X6_138 (show 9 < 63 from by decide) rfl (g_sv ((ci_brk hI).trans (by rw [hb0]; rfl))) (gDec_at DX6_steam_0 11 rfl) ?_
  refine g_bipush hC (gDec_at DX6_steam_0 12 rfl) (v := -9) (by decide) ?_
  refine g_icmp_eq hC (gDec_at DX6_steam_0 13 rfl) 30 (by decide) (fun h => ?_) (fun h => absurd rfl h)
  refine g_aload_n hC (gDec_at DX6_steam_0 16 rfl) rfl ?_
  refine g_aload_n hC (gDec_at DX6_steam_0 17 rfl) rfl ?_
  refine g_get (w := wC q) hC (15 + j) (v := .int (nI (B 3 j))) fl_X6_98 (show 15 + j < 63 from by have := hj; omega) (cC_p0 q _ _ hj) (g_sv (ci_f3 hI hj ht)) (gDec_at DX6_steam_0 18 rfl) ?_
  refine g_iconst hC (gDec_at DX6_steam_0 19 rfl) (v := nI 2) (by decide) ?_
  refine g_idivN hC (by omega) (by omega) (by omega) (gDec_at DX6_steam_0 20 rfl) ?_
  refine g_putI (w := wC q) hC (15 + j) fl_X6_98 fp_1_6 (show 15 + j < 63 from by have := hj; omega) (cC_p0 q _ _ hj) (Nat.le_of_ble_eq_true rfl) (cC_p0 q _ _ hj) rfl (gDec_at DX6_steam_0 21 rfl) ?_
  refine g_aload_n hC (gDec_at DX6_steam_0 22 rfl) rfl ?_
  refine g_get (w := wC q) hC (15 + j) (v := .int (nI (B 3 j / 2))) fl_X6_98 (show 15 + j < 63 from by have := hj; omega) (cC_p0 q _ _ hj) (g_sv (by rw [gupd_get, if_pos ⟨rfl, rfl⟩])) (gDec_at DX6_steam_0 23 rfl) ?_
  refine g_iret hC (gDec_at DX6_steam_0 24 rfl) ?_
  exact ⟨rfl, rfl⟩

set_option maxRecDepth 100000 in
set_option maxHeartbeats 4000000 in
theorem c_X6_see_out (q : gQ3) {M : gM} {B : gB} (hI : cI M B) {x0 : Int32} (hx0 : ¬ isPl B x0) {y : Int32} : gCt (wC q) yX6_see cX6_see 5 (some .int) 8 [.ref (q.2.2 0), .int x0, .int y] M (gR (some (.int (-1))) M) := by
  refine gMet RX6 (by decide +kernel) rfl (Nat.le_of_ble_eq_true rfl) (fun X hC => ?_)
  have hC : gC X (wC q) cX6_see 5 RX6 (some .int) 8 := hC
  show gG X (wC q) _ 5 M 0 [(0, .ref (q.2.2 0)), (1, .int x0), (2, .int y)] []
  refine g_aload_n hC (gDec_at DX6_see_0 0 rfl) rfl ?_
  refine g_get (w := wC q) hC 0 (v := .ref (q.2.2 9)) fl_X6_19 (show 0 < 63 from by decide) rfl rfl (gDec_at DX6_see_0 1 rfl) ?_
  refine g_iload_n hC (gDec_at DX6_see_0 2 rfl) rfl ?_
  refine g_callVd (w := wC q) hC 9 (c_X0_placeTold_out q hI hx0) vf_X0_placeTold ml_X6_79 (by decide) (show 9 < 63 from by decide) rfl rfl rfl rfl rfl (Nat.le_of_ble_eq_true rfl) (gDec_at DX6_see_0 3 rfl) ?_
  refine g_astore_nN hC (gDec_at DX6_see_0 4 rfl) (by decide) (L' := [(3, .null), (0, .ref (q.2.2 0)), (1, .int x0), (2, .int y)]) rfl ?_
  refine g_aload_nN hC (gDec_at DX6_see_0 5 rfl) rfl ?_
  refine g_ifnonnullN hC (gDec_at DX6_see_0 6 rfl) ?_ 15 (by decide)
  refine g_iconst hC (gDec_at DX6_see_0 7 rfl) (v := -1) (by decide) ?_
  refine g_iret hC (gDec_at DX6_see_0 8 rfl) ?_
  exact ⟨rfl, rfl⟩

set_option maxRecDepth 100000 in
set_option maxHeartbeats 4000000 in
theorem c_X6_see_bad (q : gQ3) {M : gM} {B : gB} (hI : cI M B) {j : Nat} (hj : j < 12) (ht : j % 6 < B 9 0) {y : Int32} (hy : ¬ gin y 0 99) : gCt (wC q) yX6_see cX6_see 5 (some .int) 8 [.ref (q.2.2 0), .int (nI (10 * (j / 6) + j % 6)), .int y] M (gR (some (.int (-2))) M) := by
  refine gMet RX6 (by decide +kernel) rfl (Nat.le_of_ble_eq_true rfl) (fun X hC => ?_)
  have hC : gC X (wC q) cX6_see 5 RX6 (some .int) 8 := hC
  show gG X (wC q) _ 5 M 0 [(0, .ref (q.2.2 0)), (1, .int (nI (10 * (j / 6) + j % 6))), (2, .int y)] []
  refine g_aload_n hC (gDec_at DX6_see_0 0 rfl) rfl ?_
  refine g_get (w := wC q) hC 0 (v := .ref (q.2.2 9)) fl_X6_19 (show 0 < 63 from by decide) rfl rfl (gDec_at DX6_see_0 1 rfl) ?_
  refine g_iload_n hC (gDec_at DX6_see_0 2 rfl) rfl ?_
  refine g_callVd (w := wC q) hC 9 (c_X0_placeTold q hI hj ht) vf_X0_placeTold ml_X6_79 (by decide) (show 9 < 63 from by decide) rfl rfl rfl rfl rfl (Nat.le_of_ble_eq_true rfl) (gDec_at DX6_see_0 3 rfl) ?_
  refine g_astore_n hC (gDec_at DX6_see_0 4 rfl) (by decide) (L' := [(3, .ref (q.2.2 (15 + j))), (0, .ref (q.2.2 0)), (1, .int (nI (10 * (j / 6) + j % 6))), (2, .int y)]) rfl ?_
  refine g_aload_n hC (gDec_at DX6_see_0 5 rfl) rfl ?_
  refine g_ifnonnull hC (gDec_at DX6_see_0 6 rfl) 15 (by decide) ?_
  refine g_iload_n hC (gDec_at DX6_see_0 9 rfl) rfl ?_
  refine g_iconst hC (gDec_at DX6_see_0 10 rfl) (v := nI 0) (by decide) ?_
  refine g_bipush hC (gDec_at DX6_see_0 11 rfl) (v := nI 99) (by decide) ?_
  refine g_callSd (w := wC q) hC (c_X6_isOutside_out q (by omega) (by omega) hy) sf_X6_isOutside ml_X6_60 (by decide) rfl rfl (Nat.le_of_ble_eq_true rfl) (gDec_at DX6_see_0 12 rfl) ?_
  refine g_if_eqN hC (by decide) (gDec_at DX6_see_0 13 rfl) 28 (by decide) (fun h => absurd h (by decide)) (fun h => ?_)
  refine g_bipush hC (gDec_at DX6_see_0 14 rfl) (v := -2) (by decide) ?_
  refine g_iret hC (gDec_at DX6_see_0 15 rfl) ?_
  exact ⟨rfl, rfl⟩

set_option maxRecDepth 100000 in
set_option maxHeartbeats 4000000 in
theorem c_X6_see_ok (q : gQ3) {M : gM} {B : gB} (hI : cI M B) {j : Nat} (hj : j < 12) (ht : j % 6 < B 9 0) {y : Nat} (hya : 0 ≤ y) (hyb : y ≤ 99) : gCt (wC q) yX6_see cX6_see 5 (some .int) 8 [.ref (q.2.2 0), .int (nI (10 * (j / 6) + j % 6)), .int (nI y)] M (gR (some (.int (nI (B 5 j)))) (gupd M (15 + j) 7 (nI y))) := by
  refine gMet RX6 (by decide +kernel) rfl (Nat.le_of_ble_eq_true rfl) (fun X hC => ?_)
  have hC : gC X (wC q) cX6_see 5 RX6 (some .int) 8 := hC
  show gG X (wC q) _ 5 M 0 [(0, .ref (q.2.2 0)), (1, .int (nI (10 * (j / 6) + j % 6))), (2, .int (nI y))] []
  refine g_aload_n hC (gDec_at DX6_see_0 0 rfl) rfl ?_
  refine g_get (w := wC q) hC 0 (v := .ref (q.2.2 9)) fl_X6_19 (show 0 < 63 from by decide) rfl rfl (gDec_at DX6_see_0 1 rfl) ?_
  refine g_iload_n hC (gDec_at DX6_see_0 2 rfl) rfl ?_
  refine g_callVd (w := wC q) hC 9 (c_X0_placeTold q hI hj ht) vf_X0_placeTold ml_X6_79 (by decide) (show 9 < 63 from by decide) rfl rfl rfl rfl rfl (Nat.le_of_ble_eq_true rfl) (gDec_at DX6_see_0 3 rfl) ?_
  refine g_astore_n hC (gDec_at DX6_see_0 4 rfl) (by decide) (L' := [(3, .ref (q.2.2 (15 + j))), (0, .ref (q.2.2 0)), (1, .int (nI (10 * (j / 6) + j % 6))), (2, .int (nI y))]) rfl ?_
  refine g_aload_n hC (gDec_at DX6_see_0 5 rfl) rfl ?_
  refine g_ifnonnull hC (gDec_at DX6_see_0 6 rfl) 15 (by decide) ?_
  refine g_iload_n hC (gDec_at DX6_see_0 9 rfl) rfl ?_
  refine g_iconst hC (gDec_at DX6_see_0 10 rfl) (v := nI 0) (by decide) ?_
  refine g_bipush hC (gDec_at DX6_see_0 11 rfl) (v := nI 99) (by decide) ?_
  refine g_callSd (w := wC q) hC (c_X6_isOutside_in q (by omega) (by omega) (nI_gin (k := y) (a := 0) (b := 99) (by omega) (by omega) (by omega))) sf_X6_isOutside ml_X6_60 (by decide) rfl rfl (Nat.le_of_ble_eq_true rfl) (gDec_at DX6_see_0 12 rfl) ?_
  refine g_if_eqN hC (by decide) (gDec_at DX6_see_0 13 rfl) 28 (by decide) (fun h => ?_) (fun h => absurd h (by decide))
  refine g_aload_n hC (gDec_at DX6_see_0 16 rfl) rfl ?_
  refine g_get (w := wC q) hC (15 + j) (v := .int (nI (B 5 j))) fl_X6_101 (show 15 + j < 63 from by have := hj; omega) (cC_p0 q _ _ hj) (g_sv (ci_f5 hI hj ht)) (gDec_at DX6_see_0 17 rfl) ?_
  refine g_istore hC (gDec_at DX6_see_0 18 rfl) (by decide) (L' := [(4, .int (nI (B 5 j))), (3, .ref (q.2.2 (15 + j))), (0, .ref (q.2.2 0)), (1, .int (nI (10 * (j / 6) + j % 6))), (2, .int (nI y))]) rfl ?_
  refine g_aload_n hC (gDec_at DX6_see_0 19 rfl) rfl ?_
  refine g_iload_n hC (gDec_at DX6_see_0 20 rfl) rfl ?_
  refine g_putI (w := wC q) hC (15 + j) fl_X6_101 fp_1_7 (show 15 + j < 63 from by have := hj; omega) (cC_p0 q _ _ hj) (Nat.le_of_ble_eq_true rfl) (cC_p0 q _ _ hj) rfl (gDec_at DX6_see_0 21 rfl) ?_
  refine g_iload hC (gDec_at DX6_see_0 22 rfl) rfl ?_
  refine g_iret hC (gDec_at DX6_see_0 23 rfl) ?_
  exact ⟨rfl, rfl⟩

set_option maxRecDepth 100000 in
set_option maxHeartbeats 4000000 in
theorem c_X6_knot_out (q : gQ3) {M : gM} {B : gB} (hI : cI M B) {x0 : Int32} (hx0 : ¬ isPl B x0) {y : Nat} (hy : y ≤ 1) : gCt (wC q) yX6_knot cX6_knot 5 (some .int) 8 [.ref (q.2.2 0), .int x0, .int (nI y)] M (gR (some (.int (-1))) M) := by
  refine gMet RX6 (by decide +kernel) rfl (Nat.le_of_ble_eq_true rfl) (fun X hC => ?_)
  have hC : gC X (wC q) cX6_knot 5 RX6 (some .int) 8 := hC
  show gG X (wC q) _ 5 M 0 [(0, .ref (q.2.2 0)), (1, .int x0), (2, .int (nI y))] []
  refine g_aload_n hC (gDec_at DX6_knot_0 0 rfl) rfl ?_
  refine g_get (w := wC q) hC 0 (v := .ref (q.2.2 9)) fl_X6_19 (show 0 < 63 from by decide) rfl rfl (gDec_at DX6_knot_0 1 rfl) ?_
  refine g_iload_n hC (gDec_at DX6_knot_0 2 rfl) rfl ?_
  refine g_callVd (w := wC q) hC 9 (c_X0_placeTold_out q hI hx0) vf_X0_placeTold ml_X6_79 (by decide) (show 9 < 63 from by decide) rfl rfl rfl rfl rfl (Nat.le_of_ble_eq_true rfl) (gDec_at DX6_knot_0 3 rfl) ?_
  refine g_astore_nN hC (gDec_at DX6_knot_0 4 rfl) (by decide) (L' := [(3, .null), (0, .ref (q.2.2 0)), (1, .int x0), (2, .int (nI y))]) rfl ?_
  refine g_aload_nN hC (gDec_at DX6_knot_0 5 rfl) rfl ?_
  refine g_ifnonnullN hC (gDec_at DX6_knot_0 6 rfl) ?_ 15 (by decide)
  refine g_iconst hC (gDec_at DX6_knot_0 7 rfl) (v := -1) (by decide) ?_
  refine g_iret hC (gDec_at DX6_knot_0 8 rfl) ?_
  exact ⟨rfl, rfl⟩

set_option maxRecDepth 100000 in
set_option maxHeartbeats 4000000 in
theorem c_X6_knot_ok (q : gQ3) {M : gM} {B : gB} (hI : cI M B) {j : Nat} (hj : j < 12) (ht : j % 6 < B 9 0) {y : Nat} (hy : y ≤ 1) : gCt (wC q) yX6_knot cX6_knot 5 (some .int) 8 [.ref (q.2.2 0), .int (nI (10 * (j / 6) + j % 6)), .int (nI y)] M (gR (some (.int (nI (if B 4 j = y then 0 else 1)))) (gupd M (15 + j) 8 (nI y))) := by
  refine gMet RX6 (by decide +kernel) rfl (Nat.le_of_ble_eq_true rfl) (fun X hC => ?_)
  have hC : gC X (wC q) cX6_knot 5 RX6 (some .int) 8 := hC
  show gG X (wC q) _ 5 M 0 [(0, .ref (q.2.2 0)), (1, .int (nI (10 * (j / 6) + j % 6))), (2, .int (nI y))] []
  have h4 := bv_f4 hI.2.2 hj ht
  refine g_aload_n hC (gDec_at DX6_knot_0 0 rfl) rfl ?_
  refine g_get (w := wC q) hC 0 (v := .ref (q.2.2 9)) fl_X6_19 (show 0 < 63 from by decide) rfl rfl (gDec_at DX6_knot_0 1 rfl) ?_
  refine g_iload_n hC (gDec_at DX6_knot_0 2 rfl) rfl ?_
  refine g_callVd (w := wC q) hC 9 (c_X0_placeTold q hI hj ht) vf_X0_placeTold ml_X6_79 (by decide) (show 9 < 63 from by decide) rfl rfl rfl rfl rfl (Nat.le_of_ble_eq_true rfl) (gDec_at DX6_knot_0 3 rfl) ?_
  refine g_astore_n hC (gDec_at DX6_knot_0 4 rfl) (by decide) (L' := [(3, .ref (q.2.2 (15 + j))), (0, .ref (q.2.2 0)), (1, .int (nI (10 * (j / 6) + j % 6))), (2, .int (nI y))]) rfl ?_
  refine g_aload_n hC (gDec_at DX6_knot_0 5 rfl) rfl ?_
  refine g_ifnonnull hC (gDec_at DX6_knot_0 6 rfl) 15 (by decide) ?_
  refine g_aload_n hC (gDec_at DX6_knot_0 9 rfl) rfl ?_
  refine g_get (w := wC q) hC (15 + j) (v := .int (nI (B 4 j))) fl_X6_83 (show 15 + j < 63 from by have := hj; omega) (cC_p0 q _ _ hj) (g_sv (ci_f4 hI hj ht)) (gDec_at DX6_knot_0 10 rfl) ?_
  refine g_iload_n hC (gDec_at DX6_knot_0 11 rfl) rfl ?_
  refine g_icmp_neN hC (by omega) (by omega) (gDec_at DX6_knot_0 12 rfl) 27 (by decide) (fun h20 => ?_) (fun h20 => ?_)
  · skip
    refine g_iconst hC (gDec_at DX6_knot_0 15 rfl) (v := nI 1) (by decide) ?_
    refine g_istore hC (gDec_at DX6_knot_0 16 rfl) (by decide) (L' := [(4, .int (nI 1)), (3, .ref (q.2.2 (15 + j))), (0, .ref (q.2.2 0)), (1, .int (nI (10 * (j / 6) + j % 6))), (2, .int (nI y))]) rfl ?_
    refine g_aload_n hC (gDec_at DX6_knot_0 17 rfl) rfl ?_
    refine g_iload_n hC (gDec_at DX6_knot_0 18 rfl) rfl ?_
    refine g_putZ (w := wC q) hC (15 + j) (by rcases (show y = 0 ∨ y = 1 by omega) with rfl | rfl; exact Or.inl rfl; exact Or.inr rfl) fl_X6_83 fp_1_8 (show 15 + j < 63 from by have := hj; omega) (cC_p0 q _ _ hj) (Nat.le_of_ble_eq_true rfl) (cC_p0 q _ _ hj) rfl (gDec_at DX6_knot_0 19 rfl) ?_
    refine g_iload hC (gDec_at DX6_knot_0 20 rfl) rfl ?_
    refine g_iret hC (gDec_at DX6_knot_0 21 rfl) ?_
    exact ⟨by rw [if_neg (by assumption)], rfl⟩
  · skip
    refine g_iconst hC (gDec_at DX6_knot_0 13 rfl) (v := nI 0) (by decide) ?_
    refine g_goto hC (gDec_at DX6_knot_0 14 rfl) 28 (by decide) ?_
    refine g_istore hC (gDec_at DX6_knot_0 16 rfl) (by decide) (L' := [(4, .int (nI 0)), (3, .ref (q.2.2 (15 + j))), (0, .ref (q.2.2 0)), (1, .int (nI (10 * (j / 6) + j % 6))), (2, .int (nI y))]) rfl ?_
    refine g_aload_n hC (gDec_at DX6_knot_0 17 rfl) rfl ?_
    refine g_iload_n hC (gDec_at DX6_knot_0 18 rfl) rfl ?_
    refine g_putZ (w := wC q) hC (15 + j) (by rcases (show y = 0 ∨ y = 1 by omega) with rfl | rfl; exact Or.inl rfl; exact Or.inr rfl) fl_X6_83 fp_1_8 (show 15 + j < 63 from by have := hj; omega) (cC_p0 q _ _ hj) (Nat.le_of_ble_eq_true rfl) (cC_p0 q _ _ hj) rfl (gDec_at DX6_knot_0 19 rfl) ?_
    refine g_iload hC (gDec_at DX6_knot_0 20 rfl) rfl ?_
    refine g_iret hC (gDec_at DX6_knot_0 21 rfl) ?_
    exact ⟨by rw [if_pos (by assumption)], rfl⟩

set_option maxRecDepth 100000 in
set_option maxHeartbeats 4000000 in
theorem c_X6_draw_bad (q : gQ3) {M : gM} {B : gB} (hI : cI M B) {x0 : Int32} (hx0 : ¬ gin x0 0 40) : gCt (wC q) yX6_draw cX6_draw 7 (some .int) 8 [.ref (q.2.2 0), .int x0] M (gR (some (.int (-2))) M) := by
  refine gMet RX6 (by decide +kernel) rfl (Nat.le_of_ble_eq_true rfl) (fun X hC => ?_)
  have hC : gC X (wC q) cX6_draw 7 RX6 (some .int) 8 := hC
  show gG X (wC q) _ 7 M 0 [(0, .ref (q.2.2 0)), (1, .int x0)] []
  refine g_iload_n hC (gDec_at DX6_draw_0 0 rfl) rfl ?_
  refine g_callSd (w := wC q) hC (c_X6_isBadDraw_out q hx0) sf_X6_isBadDraw ml_X6_117 (by decide) rfl rfl (Nat.le_of_ble_eq_true rfl) (gDec_at DX6_draw_0 1 rfl) ?_
  refine g_if_eqN hC (by decide) (gDec_at DX6_draw_0 2 rfl) 10 (by decide) (fun h => absurd h (by decide)) (fun h => ?_)
  refine g_bipush hC (gDec_at DX6_draw_0 3 rfl) (v := -2) (by decide) ?_
  refine g_iret hC (gDec_at DX6_draw_0 4 rfl) ?_
  exact ⟨rfl, rfl⟩

set_option maxRecDepth 100000 in
set_option maxHeartbeats 4000000 in
theorem c_X6_draw_brk (q : gQ3) {M : gM} {B : gB} (hI : cI M B) {x : Nat} (hx : x ≤ 40) (hb1 : 0 < B 9 1) : gCt (wC q) yX6_draw cX6_draw 7 (some .int) 8 [.ref (q.2.2 0), .int (nI x)] M (gR (some (.int (-3))) M) := by
  refine gMet RX6 (by decide +kernel) rfl (Nat.le_of_ble_eq_true rfl) (fun X hC => ?_)
  have hC : gC X (wC q) cX6_draw 7 RX6 (some .int) 8 := hC
  show gG X (wC q) _ 7 M 0 [(0, .ref (q.2.2 0)), (1, .int (nI x))] []
  have h16 := hI.2.2.2.2.1
  refine g_iload_n hC (gDec_at DX6_draw_0 0 rfl) rfl ?_
  refine g_callSd (w := wC q) hC (c_X6_isBadDraw_in q (k := x) (by omega)) sf_X6_isBadDraw ml_X6_117 (by decide) rfl rfl (Nat.le_of_ble_eq_true rfl) (gDec_at DX6_draw_0 1 rfl) ?_
  refine g_if_eqN hC (by decide) (gDec_at DX6_draw_0 2 rfl) 10 (by decide) (fun h => ?_) (fun h => absurd h (by decide))
  refine g_aload_n hC (gDec_at DX6_draw_0 5 rfl) rfl ?_
  refine g_get (w := wC q) hC 0 (v := .ref (q.2.2 9)) fl_X6_19 (show 0 < 63 from by decide) rfl rfl (gDec_at DX6_draw_0 6 rfl) ?_
  refine g_get (w := wC q) hC 9 (v := .int (nI (B 9 1 - 1))) fl_X6_138 (show 9 < 63 from by decide) rfl (g_sv ((ci_brk hI).trans (if_neg (by omega)))) (gDec_at DX6_draw_0 7 rfl) ?_
  refine g_bipush hC (gDec_at DX6_draw_0 8 rfl) (v := -9) (by decide) ?_
  refine g_icmp_eq hC (gDec_at DX6_draw_0 9 rfl) 25 (by decide) (fun h => absurd h (nI_n9 (by omega))) (fun h => ?_)
  refine g_bipush hC (gDec_at DX6_draw_0 10 rfl) (v := -3) (by decide) ?_
  refine g_iret hC (gDec_at DX6_draw_0 11 rfl) ?_
  exact ⟨rfl, rfl⟩

set_option maxRecDepth 100000 in
set_option maxHeartbeats 4000000 in
theorem c_X6_draw_breaks (q : gQ3) {M : gM} {B : gB} (hI : cI M B) {x : Nat} (hx : x ≤ 40) (hb0 : B 9 1 = 0) {j : Nat} (hk : (sBk B (sAb B (sPl B) (sPull B x) (sAll B)) 12).1 = j + 1) : gCt (wC q) yX6_draw cX6_draw 7 (some .int) 8 [.ref (q.2.2 0), .int (nI x)] M (gR (some (.int (nI (100 + (10 * (j / 6) + j % 6))))) (gupd M 9 3 (nI (10 * (j / 6) + j % 6)))) := by
  refine gMet RX6 (by decide +kernel) rfl (Nat.le_of_ble_eq_true rfl) (fun X hC => ?_)
  have hC : gC X (wC q) cX6_draw 7 RX6 (some .int) 8 := hC
  show gG X (wC q) _ 7 M 0 [(0, .ref (q.2.2 0)), (1, .int (nI x))] []
  have hpl := sPull_le B hx
  have hal := sAll_le B
  have has := sAll_ps hI.2.2
  have hja := sBk_at (B := B) (a := (sAb B (sPl B) (sPull B x) (sAll B))) 12
  rw [hk] at hja
  have hj : j < 12 := by omega
  have ht : j % 6 < B 9 0 := by rcases hja with z | z; omega; exact z.2
  refine g_iload_n hC (gDec_at DX6_draw_0 0 rfl) rfl ?_
  refine g_callSd (w := wC q) hC (c_X6_isBadDraw_in q (k := x) (by omega)) sf_X6_isBadDraw ml_X6_117 (by decide) rfl rfl (Nat.le_of_ble_eq_true rfl) (gDec_at DX6_draw_0 1 rfl) ?_
  refine g_if_eqN hC (by decide) (gDec_at DX6_draw_0 2 rfl) 10 (by decide) (fun h => ?_) (fun h => absurd h (by decide))
  refine g_aload_n hC (gDec_at DX6_draw_0 5 rfl) rfl ?_
  refine g_get (w := wC q) hC 0 (v := .ref (q.2.2 9)) fl_X6_19 (show 0 < 63 from by decide) rfl rfl (gDec_at DX6_draw_0 6 rfl) ?_
  refine g_get (w := wC q) hC 9 (v := .int (-9)) fl_X6_138 (show 9 < 63 from by decide) rfl (g_sv ((ci_brk hI).trans (by rw [hb0]; rfl))) (gDec_at DX6_draw_0 7 rfl) ?_
  refine g_bipush hC (gDec_at DX6_draw_0 8 rfl) (v := -9) (by decide) ?_
  refine g_icmp_eq hC (gDec_at DX6_draw_0 9 rfl) 25 (by decide) (fun h => ?_) (fun h => absurd rfl h)
  refine g_aload_n hC (gDec_at DX6_draw_0 12 rfl) rfl ?_
  refine g_get (w := wC q) hC 0 (v := .ref (q.2.2 9)) fl_X6_19 (show 0 < 63 from by decide) rfl rfl (gDec_at DX6_draw_0 13 rfl) ?_
  refine g_iload_n hC (gDec_at DX6_draw_0 14 rfl) rfl ?_
  refine g_callVd (w := wC q) hC 9 (c_X0_pullAt q hI (x := x) (by omega)) vf_X0_pullAt ml_X6_123 (by decide) (show 9 < 63 from by decide) rfl rfl rfl rfl rfl (Nat.le_of_ble_eq_true rfl) (gDec_at DX6_draw_0 15 rfl) ?_
  refine g_lstore_n hC (gDec_at DX6_draw_0 16 rfl) (by decide) (L' := [(2, .long (lN (sPull B x))), (0, .ref (q.2.2 0)), (1, .int (nI x))]) rfl ?_
  refine g_aload_n hC (gDec_at DX6_draw_0 17 rfl) rfl ?_
  refine g_get (w := wC q) hC 0 (v := .ref (q.2.2 9)) fl_X6_19 (show 0 < 63 from by decide) rfl rfl (gDec_at DX6_draw_0 18 rfl) ?_
  refine g_callVd (w := wC q) hC 9 (c_X0_allGives q hI) vf_X0_allGives ml_X6_126 (by decide) (show 9 < 63 from by decide) rfl rfl rfl rfl rfl (Nat.le_of_ble_eq_true rfl) (gDec_at DX6_draw_0 19 rfl) ?_
  refine g_lstore hC (gDec_at DX6_draw_0 20 rfl) (by decide) (L' := [(4, .long (lN (sAll B))), (2, .long (lN (sPull B x))), (0, .ref (q.2.2 0)), (1, .int (nI x))]) rfl ?_
  refine g_aload_n hC (gDec_at DX6_draw_0 21 rfl) rfl ?_
  refine g_get (w := wC q) hC 0 (v := .ref (q.2.2 9)) fl_X6_19 (show 0 < 63 from by decide) rfl rfl (gDec_at DX6_draw_0 22 rfl) ?_
  refine g_lload_n hC (gDec_at DX6_draw_0 23 rfl) rfl ?_
  refine g_lload hC (gDec_at DX6_draw_0 24 rfl) rfl ?_
  refine g_callVd (w := wC q) hC 9 (c_X0_breakingPlace q hI (pull := (sPull B x)) (gives := (sAll B)) (by omega) (by omega) hk) vf_X0_breakingPlace ml_X6_141 (by decide) (show 9 < 63 from by decide) rfl rfl rfl rfl rfl (Nat.le_of_ble_eq_true rfl) (gDec_at DX6_draw_0 25 rfl) ?_
  refine g_astore hC (gDec_at DX6_draw_0 26 rfl) (by decide) (L' := [(6, .ref (q.2.2 (15 + j))), (4, .long (lN (sAll B))), (2, .long (lN (sPull B x))), (0, .ref (q.2.2 0)), (1, .int (nI x))]) rfl ?_
  refine g_aload hC (gDec_at DX6_draw_0 27 rfl) rfl ?_
  refine g_ifnull hC (gDec_at DX6_draw_0 28 rfl) ?_
  refine g_aload_n hC (gDec_at DX6_draw_0 29 rfl) rfl ?_
  refine g_get (w := wC q) hC 0 (v := .ref (q.2.2 9)) fl_X6_19 (show 0 < 63 from by decide) rfl rfl (gDec_at DX6_draw_0 30 rfl) ?_
  refine g_aload hC (gDec_at DX6_draw_0 31 rfl) rfl ?_
  refine g_get (w := wC q) hC (15 + j) (v := .int (nI (10 * (j / 6) + j % 6))) fl_X6_145 (show 15 + j < 63 from by have := hj; omega) (cC_p0 q _ _ hj) (g_sv (ci_told hI hj)) (gDec_at DX6_draw_0 32 rfl) ?_
  refine g_putI (w := wC q) hC 9 fl_X6_138 fp_0_3 (show 9 < 63 from by decide) rfl (Nat.le_of_ble_eq_true rfl) rfl rfl (gDec_at DX6_draw_0 33 rfl) ?_
  refine g_bipush hC (gDec_at DX6_draw_0 34 rfl) (v := nI 100) (by decide) ?_
  refine g_aload hC (gDec_at DX6_draw_0 35 rfl) rfl ?_
  refine g_get (w := wC q) hC (15 + j) (v := .int (nI (10 * (j / 6) + j % 6))) fl_X6_145 (show 15 + j < 63 from by have := hj; omega) (cC_p0 q _ _ hj) (g_sv (by rw [gupd_get, if_neg (by omega)]; exact ci_told hI hj)) (gDec_at DX6_draw_0 36 rfl) ?_
  refine g_iaddN hC (gDec_at DX6_draw_0 37 rfl) ?_
  refine g_iret hC (gDec_at DX6_draw_0 38 rfl) ?_
  exact ⟨rfl, rfl⟩

set_option maxRecDepth 100000 in
set_option maxHeartbeats 4000000 in
theorem c_X6_draw_sets (q : gQ3) {M : gM} {B : gB} (hI : cI M B) {x : Nat} (hx : x ≤ 40) (hb0 : B 9 1 = 0) (hk : (sBk B (sAb B (sPl B) (sPull B x) (sAll B)) 12).1 = 0) : gCt (wC q) yX6_draw cX6_draw 7 (some .int) 8 [.ref (q.2.2 0), .int (nI x)] M (fun v M' => v = some (.int (nI (sTkN B (sAb B (sPr B) (sPull B x) (sAll B)) 12))) ∧ cI M' (tkB B (sAb B (sPr B) (sPull B x) (sAll B)) 12) ∧ sameO (fun i => 15 ≤ i ∧ i < 27) M M') := by
  refine gMet RX6 (by decide +kernel) rfl (Nat.le_of_ble_eq_true rfl) (fun X hC => ?_)
  have hC : gC X (wC q) cX6_draw 7 RX6 (some .int) 8 := hC
  show gG X (wC q) _ 7 M 0 [(0, .ref (q.2.2 0)), (1, .int (nI x))] []
  have hpl := sPull_le B hx
  have hal := sAll_le B
  have has := sAll_ps hI.2.2
  refine g_iload_n hC (gDec_at DX6_draw_0 0 rfl) rfl ?_
  refine g_callSd (w := wC q) hC (c_X6_isBadDraw_in q (k := x) (by omega)) sf_X6_isBadDraw ml_X6_117 (by decide) rfl rfl (Nat.le_of_ble_eq_true rfl) (gDec_at DX6_draw_0 1 rfl) ?_
  refine g_if_eqN hC (by decide) (gDec_at DX6_draw_0 2 rfl) 10 (by decide) (fun h => ?_) (fun h => absurd h (by decide))
  refine g_aload_n hC (gDec_at DX6_draw_0 5 rfl) rfl ?_
  refine g_get (w := wC q) hC 0 (v := .ref (q.2.2 9)) fl_X6_19 (show 0 < 63 from by decide) rfl rfl (gDec_at DX6_draw_0 6 rfl) ?_
  refine g_get (w := wC q) hC 9 (v := .int (-9)) fl_X6_138 (show 9 < 63 from by decide) rfl (g_sv ((ci_brk hI).trans (by rw [hb0]; rfl))) (gDec_at DX6_draw_0 7 rfl) ?_
  refine g_bipush hC (gDec_at DX6_draw_0 8 rfl) (v := -9) (by decide) ?_
  refine g_icmp_eq hC (gDec_at DX6_draw_0 9 rfl) 25 (by decide) (fun h => ?_) (fun h => absurd rfl h)
  refine g_aload_n hC (gDec_at DX6_draw_0 12 rfl) rfl ?_
  refine g_get (w := wC q) hC 0 (v := .ref (q.2.2 9)) fl_X6_19 (show 0 < 63 from by decide) rfl rfl (gDec_at DX6_draw_0 13 rfl) ?_
  refine g_iload_n hC (gDec_at DX6_draw_0 14 rfl) rfl ?_
  refine g_callVd (w := wC q) hC 9 (c_X0_pullAt q hI (x := x) (by omega)) vf_X0_pullAt ml_X6_123 (by decide) (show 9 < 63 from by decide) rfl rfl rfl rfl rfl (Nat.le_of_ble_eq_true rfl) (gDec_at DX6_draw_0 15 rfl) ?_
  refine g_lstore_n hC (gDec_at DX6_draw_0 16 rfl) (by decide) (L' := [(2, .long (lN (sPull B x))), (0, .ref (q.2.2 0)), (1, .int (nI x))]) rfl ?_
  refine g_aload_n hC (gDec_at DX6_draw_0 17 rfl) rfl ?_
  refine g_get (w := wC q) hC 0 (v := .ref (q.2.2 9)) fl_X6_19 (show 0 < 63 from by decide) rfl rfl (gDec_at DX6_draw_0 18 rfl) ?_
  refine g_callVd (w := wC q) hC 9 (c_X0_allGives q hI) vf_X0_allGives ml_X6_126 (by decide) (show 9 < 63 from by decide) rfl rfl rfl rfl rfl (Nat.le_of_ble_eq_true rfl) (gDec_at DX6_draw_0 19 rfl) ?_
  refine g_lstore hC (gDec_at DX6_draw_0 20 rfl) (by decide) (L' := [(4, .long (lN (sAll B))), (2, .long (lN (sPull B x))), (0, .ref (q.2.2 0)), (1, .int (nI x))]) rfl ?_
  refine g_aload_n hC (gDec_at DX6_draw_0 21 rfl) rfl ?_
  refine g_get (w := wC q) hC 0 (v := .ref (q.2.2 9)) fl_X6_19 (show 0 < 63 from by decide) rfl rfl (gDec_at DX6_draw_0 22 rfl) ?_
  refine g_lload_n hC (gDec_at DX6_draw_0 23 rfl) rfl ?_
  refine g_lload hC (gDec_at DX6_draw_0 24 rfl) rfl ?_
  refine g_callVd (w := wC q) hC 9 (c_X0_breakingPlace_no q hI (pull := (sPull B x)) (gives := (sAll B)) (by omega) (by omega) hk) vf_X0_breakingPlace ml_X6_141 (by decide) (show 9 < 63 from by decide) rfl rfl rfl rfl rfl (Nat.le_of_ble_eq_true rfl) (gDec_at DX6_draw_0 25 rfl) ?_
  refine g_astoreN hC (gDec_at DX6_draw_0 26 rfl) (by decide) (L' := [(6, .null), (4, .long (lN (sAll B))), (2, .long (lN (sPull B x))), (0, .ref (q.2.2 0)), (1, .int (nI x))]) rfl ?_
  refine g_aloadN hC (gDec_at DX6_draw_0 27 rfl) rfl ?_
  refine g_ifnullN hC (gDec_at DX6_draw_0 28 rfl) 81 (by decide) ?_
  refine g_aload_n hC (gDec_at DX6_draw_0 39 rfl) rfl ?_
  refine g_get (w := wC q) hC 0 (v := .ref (q.2.2 9)) fl_X6_19 (show 0 < 63 from by decide) rfl rfl (gDec_at DX6_draw_0 40 rfl) ?_
  refine g_lload_n hC (gDec_at DX6_draw_0 41 rfl) rfl ?_
  refine g_lload hC (gDec_at DX6_draw_0 42 rfl) rfl ?_
  refine g_callV (w := wC q) hC (i := 9) (c_X0_takeSets q hI (pull := sPull B x) (gives := sAll B) (by omega) (by omega)) vf_X0_takeSets ml_X6_148 (by decide) (show 9 < 63 from by decide) rfl rfl rfl rfl rfl (Nat.le_of_ble_eq_true rfl) (gDec_at DX6_draw_0 43 rfl) (fun v_88 M_88 hq_88 => ?_)
  obtain ⟨rfl, hI2, hs2⟩ := hq_88
  refine g_iret hC (gDec_at DX6_draw_0 44 rfl) ?_
  exact ⟨rfl, hI2, hs2⟩

set_option maxRecDepth 100000 in
set_option maxHeartbeats 4000000 in
theorem c_X6_shape_badf (q : gQ3) {M : gM} {B : gB} (hI : cI M B) {f : Int32} (hf : ¬ gin f 1 999) {s : Int32} : gCt (wC q) yX6_shape cX6_shape 3 (some .int) 8 [.ref (q.2.2 0), .int f, .int s] M (gR (some (.int (-2))) M) := by
  refine gMet RX6 (by decide +kernel) rfl (Nat.le_of_ble_eq_true rfl) (fun X hC => ?_)
  have hC : gC X (wC q) cX6_shape 3 RX6 (some .int) 8 := hC
  show gG X (wC q) _ 3 M 0 [(0, .ref (q.2.2 0)), (1, .int f), (2, .int s)] []
  refine g_iload_n hC (gDec_at DX6_shape_0 0 rfl) rfl ?_
  refine g_iload_n hC (gDec_at DX6_shape_0 1 rfl) rfl ?_
  refine g_callSd (w := wC q) hC (c_X6_isBadForm_0 q hf) sf_X6_isBadForm ml_X6_177 (by decide) rfl rfl (Nat.le_of_ble_eq_true rfl) (gDec_at DX6_shape_0 2 rfl) ?_
  refine g_if_eqN hC (by decide) (gDec_at DX6_shape_0 3 rfl) 11 (by decide) (fun h => absurd h (by decide)) (fun h => ?_)
  refine g_bipush hC (gDec_at DX6_shape_0 4 rfl) (v := -2) (by decide) ?_
  refine g_iret hC (gDec_at DX6_shape_0 5 rfl) ?_
  exact ⟨rfl, rfl⟩

set_option maxRecDepth 100000 in
set_option maxHeartbeats 4000000 in
theorem c_X6_shape_bads (q : gQ3) {M : gM} {B : gB} (hI : cI M B) {f : Nat} (hfa : 1 ≤ f) (hfb : f ≤ 999) {s : Int32} (hs : ¬ gin s 1 99) : gCt (wC q) yX6_shape cX6_shape 3 (some .int) 8 [.ref (q.2.2 0), .int (nI f), .int s] M (gR (some (.int (-2))) M) := by
  refine gMet RX6 (by decide +kernel) rfl (Nat.le_of_ble_eq_true rfl) (fun X hC => ?_)
  have hC : gC X (wC q) cX6_shape 3 RX6 (some .int) 8 := hC
  show gG X (wC q) _ 3 M 0 [(0, .ref (q.2.2 0)), (1, .int (nI f)), (2, .int s)] []
  refine g_iload_n hC (gDec_at DX6_shape_0 0 rfl) rfl ?_
  refine g_iload_n hC (gDec_at DX6_shape_0 1 rfl) rfl ?_
  refine g_callSd (w := wC q) hC (c_X6_isBadForm_1 q (by omega) (by omega) hs) sf_X6_isBadForm ml_X6_177 (by decide) rfl rfl (Nat.le_of_ble_eq_true rfl) (gDec_at DX6_shape_0 2 rfl) ?_
  refine g_if_eqN hC (by decide) (gDec_at DX6_shape_0 3 rfl) 11 (by decide) (fun h => absurd h (by decide)) (fun h => ?_)
  refine g_bipush hC (gDec_at DX6_shape_0 4 rfl) (v := -2) (by decide) ?_
  refine g_iret hC (gDec_at DX6_shape_0 5 rfl) ?_
  exact ⟨rfl, rfl⟩

set_option maxRecDepth 100000 in
set_option maxHeartbeats 4000000 in
theorem c_X6_shape_no (q : gQ3) {M : gM} {B : gB} (hI : cI M B) {f : Nat} (hfa : 1 ≤ f) (hfb : f ≤ 999) {s : Nat} (hsa : 1 ≤ s) (hsb : s ≤ 99) (hh : ¬ sHas B f s) : gCt (wC q) yX6_shape cX6_shape 3 (some .int) 8 [.ref (q.2.2 0), .int (nI f), .int (nI s)] M (gR (some (.int (-3))) M) := by
  refine gMet RX6 (by decide +kernel) rfl (Nat.le_of_ble_eq_true rfl) (fun X hC => ?_)
  have hC : gC X (wC q) cX6_shape 3 RX6 (some .int) 8 := hC
  show gG X (wC q) _ 3 M 0 [(0, .ref (q.2.2 0)), (1, .int (nI f)), (2, .int (nI s))] []
  refine g_iload_n hC (gDec_at DX6_shape_0 0 rfl) rfl ?_
  refine g_iload_n hC (gDec_at DX6_shape_0 1 rfl) rfl ?_
  refine g_callSd (w := wC q) hC (c_X6_isBadForm_2 q (by omega) (by omega) (by omega) (by omega)) sf_X6_isBadForm ml_X6_177 (by decide) rfl rfl (Nat.le_of_ble_eq_true rfl) (gDec_at DX6_shape_0 2 rfl) ?_
  refine g_if_eqN hC (by decide) (gDec_at DX6_shape_0 3 rfl) 11 (by decide) (fun h => ?_) (fun h => absurd h (by decide))
  refine g_aload_n hC (gDec_at DX6_shape_0 6 rfl) rfl ?_
  refine g_get (w := wC q) hC 0 (v := .ref (q.2.2 9)) fl_X6_19 (show 0 < 63 from by decide) rfl rfl (gDec_at DX6_shape_0 7 rfl) ?_
  refine g_iload_n hC (gDec_at DX6_shape_0 8 rfl) rfl ?_
  refine g_iload_n hC (gDec_at DX6_shape_0 9 rfl) rfl ?_
  refine g_callVd (w := wC q) hC 9 (c_X0_hasForm_no q hI (f := f) (s := s) (by omega) (by omega) hh) vf_X0_hasForm ml_X6_185 (by decide) (show 9 < 63 from by decide) rfl rfl rfl rfl rfl (Nat.le_of_ble_eq_true rfl) (gDec_at DX6_shape_0 10 rfl) ?_
  refine g_if_eqN hC (by decide) (gDec_at DX6_shape_0 11 rfl) 35 (by decide) (fun h => ?_) (fun h => absurd h (by decide))
  refine g_bipush hC (gDec_at DX6_shape_0 18 rfl) (v := -3) (by decide) ?_
  refine g_iret hC (gDec_at DX6_shape_0 19 rfl) ?_
  exact ⟨rfl, rfl⟩

set_option maxRecDepth 100000 in
set_option maxHeartbeats 4000000 in
theorem c_X6_shape_ok (q : gQ3) {M : gM} {B : gB} (hI : cI M B) {f : Nat} (hfa : 1 ≤ f) (hfb : f ≤ 999) {s : Nat} (hsa : 1 ≤ s) (hsb : s ≤ 99) (hh : sHas B f s) : gCt (wC q) yX6_shape cX6_shape 3 (some .int) 8 [.ref (q.2.2 0), .int (nI f), .int (nI s)] M (fun v M' => v = some (.int (nI (sFmN B f s 12))) ∧ cI M' (fmB B f s 12) ∧ sameO (fun i => 15 ≤ i ∧ i < 27) M M') := by
  refine gMet RX6 (by decide +kernel) rfl (Nat.le_of_ble_eq_true rfl) (fun X hC => ?_)
  have hC : gC X (wC q) cX6_shape 3 RX6 (some .int) 8 := hC
  show gG X (wC q) _ 3 M 0 [(0, .ref (q.2.2 0)), (1, .int (nI f)), (2, .int (nI s))] []
  refine g_iload_n hC (gDec_at DX6_shape_0 0 rfl) rfl ?_
  refine g_iload_n hC (gDec_at DX6_shape_0 1 rfl) rfl ?_
  refine g_callSd (w := wC q) hC (c_X6_isBadForm_2 q (by omega) (by omega) (by omega) (by omega)) sf_X6_isBadForm ml_X6_177 (by decide) rfl rfl (Nat.le_of_ble_eq_true rfl) (gDec_at DX6_shape_0 2 rfl) ?_
  refine g_if_eqN hC (by decide) (gDec_at DX6_shape_0 3 rfl) 11 (by decide) (fun h => ?_) (fun h => absurd h (by decide))
  refine g_aload_n hC (gDec_at DX6_shape_0 6 rfl) rfl ?_
  refine g_get (w := wC q) hC 0 (v := .ref (q.2.2 9)) fl_X6_19 (show 0 < 63 from by decide) rfl rfl (gDec_at DX6_shape_0 7 rfl) ?_
  refine g_iload_n hC (gDec_at DX6_shape_0 8 rfl) rfl ?_
  refine g_iload_n hC (gDec_at DX6_shape_0 9 rfl) rfl ?_
  refine g_callVd (w := wC q) hC 9 (c_X0_hasForm q hI (f := f) (s := s) (by omega) (by omega) hh) vf_X0_hasForm ml_X6_185 (by decide) (show 9 < 63 from by decide) rfl rfl rfl rfl rfl (Nat.le_of_ble_eq_true rfl) (gDec_at DX6_shape_0 10 rfl) ?_
  refine g_if_eqN hC (by decide) (gDec_at DX6_shape_0 11 rfl) 35 (by decide) (fun h => absurd h (by decide)) (fun h => ?_)
  refine g_aload_n hC (gDec_at DX6_shape_0 12 rfl) rfl ?_
  refine g_get (w := wC q) hC 0 (v := .ref (q.2.2 9)) fl_X6_19 (show 0 < 63 from by decide) rfl rfl (gDec_at DX6_shape_0 13 rfl) ?_
  refine g_iload_n hC (gDec_at DX6_shape_0 14 rfl) rfl ?_
  refine g_iload_n hC (gDec_at DX6_shape_0 15 rfl) rfl ?_
  refine g_callV (w := wC q) hC (i := 9) (c_X0_takeForm q hI (f := f) (s := s) (by omega) (by omega) hh) vf_X0_takeForm ml_X6_188 (by decide) (show 9 < 63 from by decide) rfl rfl rfl rfl rfl (Nat.le_of_ble_eq_true rfl) (gDec_at DX6_shape_0 16 rfl) (fun v_29 M_29 hq_29 => ?_)
  obtain ⟨rfl, hI2, hs2⟩ := hq_29
  refine g_goto hC (gDec_at DX6_shape_0 17 rfl) 37 (by decide) ?_
  refine g_iret hC (gDec_at DX6_shape_0 19 rfl) ?_
  exact ⟨rfl, hI2, hs2⟩

set_option maxRecDepth 100000 in
set_option maxHeartbeats 4000000 in
theorem c_X6_wood_out (q : gQ3) {M : gM} {B : gB} (hI : cI M B) {x0 : Int32} (hx0 : ¬ gin x0 0 2) {e p r : Int32} : gCt (wC q) yX6_wood cX6_wood 7 (some .int) 8 [.ref (q.2.2 0), .int x0, .int e, .int p, .int r] M (gR (some (.int (-1))) M) := by
  refine gMet RX6 (by decide +kernel) rfl (Nat.le_of_ble_eq_true rfl) (fun X hC => ?_)
  have hC : gC X (wC q) cX6_wood 7 RX6 (some .int) 8 := hC
  show gG X (wC q) _ 7 M 0 [(0, .ref (q.2.2 0)), (1, .int x0), (2, .int e), (3, .int p), (4, .int r)] []
  refine g_aload_n hC (gDec_at DX6_wood_0 0 rfl) rfl ?_
  refine g_get (w := wC q) hC 0 (v := .ref (q.2.2 9)) fl_X6_19 (show 0 < 63 from by decide) rfl rfl (gDec_at DX6_wood_0 1 rfl) ?_
  refine g_iload_n hC (gDec_at DX6_wood_0 2 rfl) rfl ?_
  refine g_callVd (w := wC q) hC 9 (c_X0_woodNumbered_out q hx0) vf_X0_woodNumbered ml_X6_56 (by decide) (show 9 < 63 from by decide) rfl rfl rfl rfl rfl (Nat.le_of_ble_eq_true rfl) (gDec_at DX6_wood_0 3 rfl) ?_
  refine g_astoreN hC (gDec_at DX6_wood_0 4 rfl) (by decide) (L' := [(5, .null), (0, .ref (q.2.2 0)), (1, .int x0), (2, .int e), (3, .int p), (4, .int r)]) rfl ?_
  refine g_aloadN hC (gDec_at DX6_wood_0 5 rfl) rfl ?_
  refine g_ifnonnullN hC (gDec_at DX6_wood_0 6 rfl) ?_ 17 (by decide)
  refine g_iconst hC (gDec_at DX6_wood_0 7 rfl) (v := -1) (by decide) ?_
  refine g_iret hC (gDec_at DX6_wood_0 8 rfl) ?_
  exact ⟨rfl, rfl⟩

set_option maxRecDepth 100000 in
set_option maxHeartbeats 4000000 in
theorem c_X6_wood_bade (q : gQ3) {M : gM} {B : gB} (hI : cI M B) {k : Nat} (hk : k < 3) {e : Int32} (he : ¬ gin e 1 9) {p r : Int32} : gCt (wC q) yX6_wood cX6_wood 7 (some .int) 8 [.ref (q.2.2 0), .int (nI k), .int e, .int p, .int r] M (gR (some (.int (-2))) M) := by
  refine gMet RX6 (by decide +kernel) rfl (Nat.le_of_ble_eq_true rfl) (fun X hC => ?_)
  have hC : gC X (wC q) cX6_wood 7 RX6 (some .int) 8 := hC
  show gG X (wC q) _ 7 M 0 [(0, .ref (q.2.2 0)), (1, .int (nI k)), (2, .int e), (3, .int p), (4, .int r)] []
  refine g_aload_n hC (gDec_at DX6_wood_0 0 rfl) rfl ?_
  refine g_get (w := wC q) hC 0 (v := .ref (q.2.2 9)) fl_X6_19 (show 0 < 63 from by decide) rfl rfl (gDec_at DX6_wood_0 1 rfl) ?_
  refine g_iload_n hC (gDec_at DX6_wood_0 2 rfl) rfl ?_
  refine g_callVd (w := wC q) hC 9 (c_X0_woodNumbered q hk) vf_X0_woodNumbered ml_X6_56 (by decide) (show 9 < 63 from by decide) rfl rfl rfl rfl rfl (Nat.le_of_ble_eq_true rfl) (gDec_at DX6_wood_0 3 rfl) ?_
  refine g_astore hC (gDec_at DX6_wood_0 4 rfl) (by decide) (L' := [(5, .ref (q.2.2 (12 + k))), (0, .ref (q.2.2 0)), (1, .int (nI k)), (2, .int e), (3, .int p), (4, .int r)]) rfl ?_
  refine g_aload hC (gDec_at DX6_wood_0 5 rfl) rfl ?_
  refine g_ifnonnull hC (gDec_at DX6_wood_0 6 rfl) 17 (by decide) ?_
  refine g_iload_n hC (gDec_at DX6_wood_0 9 rfl) rfl ?_
  refine g_iconst hC (gDec_at DX6_wood_0 10 rfl) (v := nI 1) (by decide) ?_
  refine g_bipush hC (gDec_at DX6_wood_0 11 rfl) (v := nI 9) (by decide) ?_
  refine g_callSd (w := wC q) hC (c_X6_isOutside_out q (by omega) (by omega) he) sf_X6_isOutside ml_X6_60 (by decide) rfl rfl (Nat.le_of_ble_eq_true rfl) (gDec_at DX6_wood_0 12 rfl) ?_
  refine g_if_neN hC (by decide) (gDec_at DX6_wood_0 13 rfl) 48 (by decide) (fun h => ?_) (fun h => absurd h (by decide))
  refine g_bipush hC (gDec_at DX6_wood_0 24 rfl) (v := -2) (by decide) ?_
  refine g_iret hC (gDec_at DX6_wood_0 25 rfl) ?_
  exact ⟨rfl, rfl⟩

set_option maxRecDepth 100000 in
set_option maxHeartbeats 4000000 in
theorem c_X6_wood_badp (q : gQ3) {M : gM} {B : gB} (hI : cI M B) {k : Nat} (hk : k < 3) {e : Nat} (hea : 1 ≤ e) (heb : e ≤ 9) {p : Int32} (hp : ¬ gin p 1 99) {r : Int32} : gCt (wC q) yX6_wood cX6_wood 7 (some .int) 8 [.ref (q.2.2 0), .int (nI k), .int (nI e), .int p, .int r] M (gR (some (.int (-2))) M) := by
  refine gMet RX6 (by decide +kernel) rfl (Nat.le_of_ble_eq_true rfl) (fun X hC => ?_)
  have hC : gC X (wC q) cX6_wood 7 RX6 (some .int) 8 := hC
  show gG X (wC q) _ 7 M 0 [(0, .ref (q.2.2 0)), (1, .int (nI k)), (2, .int (nI e)), (3, .int p), (4, .int r)] []
  refine g_aload_n hC (gDec_at DX6_wood_0 0 rfl) rfl ?_
  refine g_get (w := wC q) hC 0 (v := .ref (q.2.2 9)) fl_X6_19 (show 0 < 63 from by decide) rfl rfl (gDec_at DX6_wood_0 1 rfl) ?_
  refine g_iload_n hC (gDec_at DX6_wood_0 2 rfl) rfl ?_
  refine g_callVd (w := wC q) hC 9 (c_X0_woodNumbered q hk) vf_X0_woodNumbered ml_X6_56 (by decide) (show 9 < 63 from by decide) rfl rfl rfl rfl rfl (Nat.le_of_ble_eq_true rfl) (gDec_at DX6_wood_0 3 rfl) ?_
  refine g_astore hC (gDec_at DX6_wood_0 4 rfl) (by decide) (L' := [(5, .ref (q.2.2 (12 + k))), (0, .ref (q.2.2 0)), (1, .int (nI k)), (2, .int (nI e)), (3, .int p), (4, .int r)]) rfl ?_
  refine g_aload hC (gDec_at DX6_wood_0 5 rfl) rfl ?_
  refine g_ifnonnull hC (gDec_at DX6_wood_0 6 rfl) 17 (by decide) ?_
  refine g_iload_n hC (gDec_at DX6_wood_0 9 rfl) rfl ?_
  refine g_iconst hC (gDec_at DX6_wood_0 10 rfl) (v := nI 1) (by decide) ?_
  refine g_bipush hC (gDec_at DX6_wood_0 11 rfl) (v := nI 9) (by decide) ?_
  refine g_callSd (w := wC q) hC (c_X6_isOutside_in q (by omega) (by omega) (nI_gin (k := e) (a := 1) (b := 9) (by omega) (by omega) (by omega))) sf_X6_isOutside ml_X6_60 (by decide) rfl rfl (Nat.le_of_ble_eq_true rfl) (gDec_at DX6_wood_0 12 rfl) ?_
  refine g_if_neN hC (by decide) (gDec_at DX6_wood_0 13 rfl) 48 (by decide) (fun h => absurd h (by decide)) (fun h => ?_)
  refine g_iload_n hC (gDec_at DX6_wood_0 14 rfl) rfl ?_
  refine g_iconst hC (gDec_at DX6_wood_0 15 rfl) (v := nI 1) (by decide) ?_
  refine g_bipush hC (gDec_at DX6_wood_0 16 rfl) (v := nI 99) (by decide) ?_
  refine g_callSd (w := wC q) hC (c_X6_isOutside_out q (by omega) (by omega) hp) sf_X6_isOutside ml_X6_60 (by decide) rfl rfl (Nat.le_of_ble_eq_true rfl) (gDec_at DX6_wood_0 17 rfl) ?_
  refine g_if_neN hC (by decide) (gDec_at DX6_wood_0 18 rfl) 48 (by decide) (fun h => ?_) (fun h => absurd h (by decide))
  refine g_bipush hC (gDec_at DX6_wood_0 24 rfl) (v := -2) (by decide) ?_
  refine g_iret hC (gDec_at DX6_wood_0 25 rfl) ?_
  exact ⟨rfl, rfl⟩

set_option maxRecDepth 100000 in
set_option maxHeartbeats 4000000 in
theorem c_X6_wood_badr (q : gQ3) {M : gM} {B : gB} (hI : cI M B) {k : Nat} (hk : k < 3) {e : Nat} (hea : 1 ≤ e) (heb : e ≤ 9) {p : Nat} (hpa : 1 ≤ p) (hpb : p ≤ 99) {r : Int32} (hr : ¬ gin r 1 99) : gCt (wC q) yX6_wood cX6_wood 7 (some .int) 8 [.ref (q.2.2 0), .int (nI k), .int (nI e), .int (nI p), .int r] M (gR (some (.int (-2))) M) := by
  refine gMet RX6 (by decide +kernel) rfl (Nat.le_of_ble_eq_true rfl) (fun X hC => ?_)
  have hC : gC X (wC q) cX6_wood 7 RX6 (some .int) 8 := hC
  show gG X (wC q) _ 7 M 0 [(0, .ref (q.2.2 0)), (1, .int (nI k)), (2, .int (nI e)), (3, .int (nI p)), (4, .int r)] []
  refine g_aload_n hC (gDec_at DX6_wood_0 0 rfl) rfl ?_
  refine g_get (w := wC q) hC 0 (v := .ref (q.2.2 9)) fl_X6_19 (show 0 < 63 from by decide) rfl rfl (gDec_at DX6_wood_0 1 rfl) ?_
  refine g_iload_n hC (gDec_at DX6_wood_0 2 rfl) rfl ?_
  refine g_callVd (w := wC q) hC 9 (c_X0_woodNumbered q hk) vf_X0_woodNumbered ml_X6_56 (by decide) (show 9 < 63 from by decide) rfl rfl rfl rfl rfl (Nat.le_of_ble_eq_true rfl) (gDec_at DX6_wood_0 3 rfl) ?_
  refine g_astore hC (gDec_at DX6_wood_0 4 rfl) (by decide) (L' := [(5, .ref (q.2.2 (12 + k))), (0, .ref (q.2.2 0)), (1, .int (nI k)), (2, .int (nI e)), (3, .int (nI p)), (4, .int r)]) rfl ?_
  refine g_aload hC (gDec_at DX6_wood_0 5 rfl) rfl ?_
  refine g_ifnonnull hC (gDec_at DX6_wood_0 6 rfl) 17 (by decide) ?_
  refine g_iload_n hC (gDec_at DX6_wood_0 9 rfl) rfl ?_
  refine g_iconst hC (gDec_at DX6_wood_0 10 rfl) (v := nI 1) (by decide) ?_
  refine g_bipush hC (gDec_at DX6_wood_0 11 rfl) (v := nI 9) (by decide) ?_
  refine g_callSd (w := wC q) hC (c_X6_isOutside_in q (by omega) (by omega) (nI_gin (k := e) (a := 1) (b := 9) (by omega) (by omega) (by omega))) sf_X6_isOutside ml_X6_60 (by decide) rfl rfl (Nat.le_of_ble_eq_true rfl) (gDec_at DX6_wood_0 12 rfl) ?_
  refine g_if_neN hC (by decide) (gDec_at DX6_wood_0 13 rfl) 48 (by decide) (fun h => absurd h (by decide)) (fun h => ?_)
  refine g_iload_n hC (gDec_at DX6_wood_0 14 rfl) rfl ?_
  refine g_iconst hC (gDec_at DX6_wood_0 15 rfl) (v := nI 1) (by decide) ?_
  refine g_bipush hC (gDec_at DX6_wood_0 16 rfl) (v := nI 99) (by decide) ?_
  refine g_callSd (w := wC q) hC (c_X6_isOutside_in q (by omega) (by omega) (nI_gin (k := p) (a := 1) (b := 99) (by omega) (by omega) (by omega))) sf_X6_isOutside ml_X6_60 (by decide) rfl rfl (Nat.le_of_ble_eq_true rfl) (gDec_at DX6_wood_0 17 rfl) ?_
  refine g_if_neN hC (by decide) (gDec_at DX6_wood_0 18 rfl) 48 (by decide) (fun h => absurd h (by decide)) (fun h => ?_)
  refine g_iload hC (gDec_at DX6_wood_0 19 rfl) rfl ?_
  refine g_iconst hC (gDec_at DX6_wood_0 20 rfl) (v := nI 1) (by decide) ?_
  refine g_bipush hC (gDec_at DX6_wood_0 21 rfl) (v := nI 99) (by decide) ?_
  refine g_callSd (w := wC q) hC (c_X6_isOutside_out q (by omega) (by omega) hr) sf_X6_isOutside ml_X6_60 (by decide) rfl rfl (Nat.le_of_ble_eq_true rfl) (gDec_at DX6_wood_0 22 rfl) ?_
  refine g_if_eqN hC (by decide) (gDec_at DX6_wood_0 23 rfl) 51 (by decide) (fun h => absurd h (by decide)) (fun h => ?_)
  refine g_bipush hC (gDec_at DX6_wood_0 24 rfl) (v := -2) (by decide) ?_
  refine g_iret hC (gDec_at DX6_wood_0 25 rfl) ?_
  exact ⟨rfl, rfl⟩

set_option maxRecDepth 100000 in
set_option maxHeartbeats 4000000 in
theorem c_X6_wood_ok (q : gQ3) {M : gM} {B : gB} (hI : cI M B) {k : Nat} (hk : k < 3) {e : Nat} (hea : 1 ≤ e) (heb : e ≤ 9) {p : Nat} (hpa : 1 ≤ p) (hpb : p ≤ 99) {r : Nat} (hra : 1 ≤ r) (hrb : r ≤ 99) : gCt (wC q) yX6_wood cX6_wood 7 (some .int) 8 [.ref (q.2.2 0), .int (nI k), .int (nI e), .int (nI p), .int (nI r)] M (gR (some (.int (nI (B 6 k)))) (gupd (gupd (gupd M (12 + k) 0 (nI e)) (12 + k) 1 (nI p)) (12 + k) 2 (nI r))) := by
  refine gMet RX6 (by decide +kernel) rfl (Nat.le_of_ble_eq_true rfl) (fun X hC => ?_)
  have hC : gC X (wC q) cX6_wood 7 RX6 (some .int) 8 := hC
  show gG X (wC q) _ 7 M 0 [(0, .ref (q.2.2 0)), (1, .int (nI k)), (2, .int (nI e)), (3, .int (nI p)), (4, .int (nI r))] []
  refine g_aload_n hC (gDec_at DX6_wood_0 0 rfl) rfl ?_
  refine g_get (w := wC q) hC 0 (v := .ref (q.2.2 9)) fl_X6_19 (show 0 < 63 from by decide) rfl rfl (gDec_at DX6_wood_0 1 rfl) ?_
  refine g_iload_n hC (gDec_at DX6_wood_0 2 rfl) rfl ?_
  refine g_callVd (w := wC q) hC 9 (c_X0_woodNumbered q hk) vf_X0_woodNumbered ml_X6_56 (by decide) (show 9 < 63 from by decide) rfl rfl rfl rfl rfl (Nat.le_of_ble_eq_true rfl) (gDec_at DX6_wood_0 3 rfl) ?_
  refine g_astore hC (gDec_at DX6_wood_0 4 rfl) (by decide) (L' := [(5, .ref (q.2.2 (12 + k))), (0, .ref (q.2.2 0)), (1, .int (nI k)), (2, .int (nI e)), (3, .int (nI p)), (4, .int (nI r))]) rfl ?_
  refine g_aload hC (gDec_at DX6_wood_0 5 rfl) rfl ?_
  refine g_ifnonnull hC (gDec_at DX6_wood_0 6 rfl) 17 (by decide) ?_
  refine g_iload_n hC (gDec_at DX6_wood_0 9 rfl) rfl ?_
  refine g_iconst hC (gDec_at DX6_wood_0 10 rfl) (v := nI 1) (by decide) ?_
  refine g_bipush hC (gDec_at DX6_wood_0 11 rfl) (v := nI 9) (by decide) ?_
  refine g_callSd (w := wC q) hC (c_X6_isOutside_in q (by omega) (by omega) (nI_gin (k := e) (a := 1) (b := 9) (by omega) (by omega) (by omega))) sf_X6_isOutside ml_X6_60 (by decide) rfl rfl (Nat.le_of_ble_eq_true rfl) (gDec_at DX6_wood_0 12 rfl) ?_
  refine g_if_neN hC (by decide) (gDec_at DX6_wood_0 13 rfl) 48 (by decide) (fun h => absurd h (by decide)) (fun h => ?_)
  refine g_iload_n hC (gDec_at DX6_wood_0 14 rfl) rfl ?_
  refine g_iconst hC (gDec_at DX6_wood_0 15 rfl) (v := nI 1) (by decide) ?_
  refine g_bipush hC (gDec_at DX6_wood_0 16 rfl) (v := nI 99) (by decide) ?_
  refine g_callSd (w := wC q) hC (c_X6_isOutside_in q (by omega) (by omega) (nI_gin (k := p) (a := 1) (b := 99) (by omega) (by omega) (by omega))) sf_X6_isOutside ml_X6_60 (by decide) rfl rfl (Nat.le_of_ble_eq_true rfl) (gDec_at DX6_wood_0 17 rfl) ?_
  refine g_if_neN hC (by decide) (gDec_at DX6_wood_0 18 rfl) 48 (by decide) (fun h => absurd h (by decide)) (fun h => ?_)
  refine g_iload hC (gDec_at DX6_wood_0 19 rfl) rfl ?_
  refine g_iconst hC (gDec_at DX6_wood_0 20 rfl) (v := nI 1) (by decide) ?_
  refine g_bipush hC (gDec_at DX6_wood_0 21 rfl) (v := nI 99) (by decide) ?_
  refine g_callSd (w := wC q) hC (c_X6_isOutside_in q (by omega) (by omega) (nI_gin (k := r) (a := 1) (b := 99) (by omega) (by omega) (by omega))) sf_X6_isOutside ml_X6_60 (by decide) rfl rfl (Nat.le_of_ble_eq_true rfl) (gDec_at DX6_wood_0 22 rfl) ?_
  refine g_if_eqN hC (by decide) (gDec_at DX6_wood_0 23 rfl) 51 (by decide) (fun h => ?_) (fun h => absurd h (by decide))
  refine g_aload hC (gDec_at DX6_wood_0 26 rfl) rfl ?_
  refine g_get (w := wC q) hC (12 + k) (v := .int (nI (B 6 k))) fl_X6_64 (show 12 + k < 63 from by have := hk; omega) (cC_w0 q _ _ hk) (g_sv (ci_e hI hk)) (gDec_at DX6_wood_0 27 rfl) ?_
  refine g_istore hC (gDec_at DX6_wood_0 28 rfl) (by decide) (L' := [(6, .int (nI (B 6 k))), (5, .ref (q.2.2 (12 + k))), (0, .ref (q.2.2 0)), (1, .int (nI k)), (2, .int (nI e)), (3, .int (nI p)), (4, .int (nI r))]) rfl ?_
  refine g_aload hC (gDec_at DX6_wood_0 29 rfl) rfl ?_
  refine g_iload_n hC (gDec_at DX6_wood_0 30 rfl) rfl ?_
  refine g_iload_n hC (gDec_at DX6_wood_0 31 rfl) rfl ?_
  refine g_iload hC (gDec_at DX6_wood_0 32 rfl) rfl ?_
  refine g_callVn (w := wC q) hC (12 + k) (c_X5_become q (b := 0) (by decide) hk (nI e) (nI p) (nI r)) vf_X5_become ml_X6_69 (by decide) (show 12 + k < 63 from by have := hk; omega) (cC_w0 q _ _ hk) rfl rfl rfl rfl (Nat.le_of_ble_eq_true rfl) (gDec_at DX6_wood_0 33 rfl) ?_
  refine g_iload hC (gDec_at DX6_wood_0 34 rfl) rfl ?_
  refine g_iret hC (gDec_at DX6_wood_0 35 rfl) ?_
  exact ⟨rfl, rfl⟩

theorem to_iff {d n y h : Nat} (hd : d < 1000) (hn : n < 1000) (hy : y < 1000) (hh : h < 1000) : ¬ nI d - nI n - nI y < nI h ↔ n + h + y ≤ d := by
  have e1 : (nI d - nI n - nI y).toInt = (d : Int) - n - y := by
    rw [Int32.toInt_sub, pk_sub_toInt (by omega) (by omega), nI_toInt (by omega), Int.bmod_eq_of_le] <;> omega
  rw [lt_I, e1, nI_toInt (by omega)]
  omega
theorem pow10_le {n : Nat} (hn : n ≤ 12) : 10 ^ n ≤ 1000000000000 := by
  have h : (10 : Nat) ^ n ≤ 10 ^ 12 := Nat.pow_le_pow_right (by omega) hn
  have e : (10 : Nat) ^ 12 = 1000000000000 := by decide
  omega
set_option maxRecDepth 100000 in
set_option maxHeartbeats 4000000 in
theorem c_X6_slips_out (q : gQ3) {M : gM} {B : gB} (hI : cI M B) {x0 : Int32} (hx0 : ¬ isPl B x0) {n t y : Int32} {u : Nat} (hu : u ≤ 1) : gCt (wC q) yX6_slips cX6_slips 7 (some .long) 8 [.ref (q.2.2 0), .int x0, .int n, .int t, .int y, .int (nI u)] M (gR (some (.long (-1))) M) := by
  refine gMet RX6 (by decide +kernel) rfl (Nat.le_of_ble_eq_true rfl) (fun X hC => ?_)
  have hC : gC X (wC q) cX6_slips 7 RX6 (some .long) 8 := hC
  show gG X (wC q) _ 7 M 0 [(0, .ref (q.2.2 0)), (1, .int x0), (2, .int n), (3, .int t), (4, .int y), (5, .int (nI u))] []
  refine g_aload_n hC (gDec_at DX6_slips_0 0 rfl) rfl ?_
  refine g_get (w := wC q) hC 0 (v := .ref (q.2.2 9)) fl_X6_19 (show 0 < 63 from by decide) rfl rfl (gDec_at DX6_slips_0 1 rfl) ?_
  refine g_iload_n hC (gDec_at DX6_slips_0 2 rfl) rfl ?_
  refine g_callVd (w := wC q) hC 9 (c_X0_placeTold_out q hI hx0) vf_X0_placeTold ml_X6_79 (by decide) (show 9 < 63 from by decide) rfl rfl rfl rfl rfl (Nat.le_of_ble_eq_true rfl) (gDec_at DX6_slips_0 3 rfl) ?_
  refine g_astoreN hC (gDec_at DX6_slips_0 4 rfl) (by decide) (L' := [(6, .null), (0, .ref (q.2.2 0)), (1, .int x0), (2, .int n), (3, .int t), (4, .int y), (5, .int (nI u))]) rfl ?_
  refine g_aloadN hC (gDec_at DX6_slips_0 5 rfl) rfl ?_
  refine g_ifnonnullN hC (gDec_at DX6_slips_0 6 rfl) ?_ 19 (by decide)
  refine g_ldc2 hC cl_X6_104 (v' := -1) rfl (gDec_at DX6_slips_0 7 rfl) ?_
  refine g_lret hC (gDec_at DX6_slips_0 8 rfl) ?_
  exact ⟨rfl, rfl⟩

set_option maxRecDepth 100000 in
set_option maxHeartbeats 4000000 in
theorem c_X6_slips_badn (q : gQ3) {M : gM} {B : gB} (hI : cI M B) {j : Nat} (hj : j < 12) (ht : j % 6 < B 9 0) {n : Int32} (hn : ¬ gin n 1 12) {t y : Int32} {u : Nat} (hu : u ≤ 1) : gCt (wC q) yX6_slips cX6_slips 7 (some .long) 8 [.ref (q.2.2 0), .int (nI (10 * (j / 6) + j % 6)), .int n, .int t, .int y, .int (nI u)] M (gR (some (.long (-2))) M) := by
  refine gMet RX6 (by decide +kernel) rfl (Nat.le_of_ble_eq_true rfl) (fun X hC => ?_)
  have hC : gC X (wC q) cX6_slips 7 RX6 (some .long) 8 := hC
  show gG X (wC q) _ 7 M 0 [(0, .ref (q.2.2 0)), (1, .int (nI (10 * (j / 6) + j % 6))), (2, .int n), (3, .int t), (4, .int y), (5, .int (nI u))] []
  refine g_aload_n hC (gDec_at DX6_slips_0 0 rfl) rfl ?_
  refine g_get (w := wC q) hC 0 (v := .ref (q.2.2 9)) fl_X6_19 (show 0 < 63 from by decide) rfl rfl (gDec_at DX6_slips_0 1 rfl) ?_
  refine g_iload_n hC (gDec_at DX6_slips_0 2 rfl) rfl ?_
  refine g_callVd (w := wC q) hC 9 (c_X0_placeTold q hI hj ht) vf_X0_placeTold ml_X6_79 (by decide) (show 9 < 63 from by decide) rfl rfl rfl rfl rfl (Nat.le_of_ble_eq_true rfl) (gDec_at DX6_slips_0 3 rfl) ?_
  refine g_astore hC (gDec_at DX6_slips_0 4 rfl) (by decide) (L' := [(6, .ref (q.2.2 (15 + j))), (0, .ref (q.2.2 0)), (1, .int (nI (10 * (j / 6) + j % 6))), (2, .int n), (3, .int t), (4, .int y), (5, .int (nI u))]) rfl ?_
  refine g_aload hC (gDec_at DX6_slips_0 5 rfl) rfl ?_
  refine g_ifnonnull hC (gDec_at DX6_slips_0 6 rfl) 19 (by decide) ?_
  refine g_iload_n hC (gDec_at DX6_slips_0 9 rfl) rfl ?_
  refine g_iconst hC (gDec_at DX6_slips_0 10 rfl) (v := nI 1) (by decide) ?_
  refine g_bipush hC (gDec_at DX6_slips_0 11 rfl) (v := nI 12) (by decide) ?_
  refine g_callSd (w := wC q) hC (c_X6_isOutside_out q (by omega) (by omega) hn) sf_X6_isOutside ml_X6_60 (by decide) rfl rfl (Nat.le_of_ble_eq_true rfl) (gDec_at DX6_slips_0 12 rfl) ?_
  refine g_if_neN hC (by decide) (gDec_at DX6_slips_0 13 rfl) 50 (by decide) (fun h => ?_) (fun h => absurd h (by decide))
  refine g_ldc2 hC cl_X6_121 (v' := -2) rfl (gDec_at DX6_slips_0 24 rfl) ?_
  refine g_lret hC (gDec_at DX6_slips_0 25 rfl) ?_
  exact ⟨rfl, rfl⟩

set_option maxRecDepth 100000 in
set_option maxHeartbeats 4000000 in
theorem c_X6_slips_badt (q : gQ3) {M : gM} {B : gB} (hI : cI M B) {j : Nat} (hj : j < 12) (ht0 : j % 6 < B 9 0) {n : Nat} (hna : 1 ≤ n) (hnb : n ≤ 12) {t : Int32} (ht : ¬ gin t 0 10) {y : Int32} {u : Nat} (hu : u ≤ 1) : gCt (wC q) yX6_slips cX6_slips 7 (some .long) 8 [.ref (q.2.2 0), .int (nI (10 * (j / 6) + j % 6)), .int (nI n), .int t, .int y, .int (nI u)] M (gR (some (.long (-2))) M) := by
  refine gMet RX6 (by decide +kernel) rfl (Nat.le_of_ble_eq_true rfl) (fun X hC => ?_)
  have hC : gC X (wC q) cX6_slips 7 RX6 (some .long) 8 := hC
  show gG X (wC q) _ 7 M 0 [(0, .ref (q.2.2 0)), (1, .int (nI (10 * (j / 6) + j % 6))), (2, .int (nI n)), (3, .int t), (4, .int y), (5, .int (nI u))] []
  refine g_aload_n hC (gDec_at DX6_slips_0 0 rfl) rfl ?_
  refine g_get (w := wC q) hC 0 (v := .ref (q.2.2 9)) fl_X6_19 (show 0 < 63 from by decide) rfl rfl (gDec_at DX6_slips_0 1 rfl) ?_
  refine g_iload_n hC (gDec_at DX6_slips_0 2 rfl) rfl ?_
  refine g_callVd (w := wC q) hC 9 (c_X0_placeTold q hI hj ht0) vf_X0_placeTold ml_X6_79 (by decide) (show 9 < 63 from by decide) rfl rfl rfl rfl rfl (Nat.le_of_ble_eq_true rfl) (gDec_at DX6_slips_0 3 rfl) ?_
  refine g_astore hC (gDec_at DX6_slips_0 4 rfl) (by decide) (L' := [(6, .ref (q.2.2 (15 + j))), (0, .ref (q.2.2 0)), (1, .int (nI (10 * (j / 6) + j % 6))), (2, .int (nI n)), (3, .int t), (4, .int y), (5, .int (nI u))]) rfl ?_
  refine g_aload hC (gDec_at DX6_slips_0 5 rfl) rfl ?_
  refine g_ifnonnull hC (gDec_at DX6_slips_0 6 rfl) 19 (by decide) ?_
  refine g_iload_n hC (gDec_at DX6_slips_0 9 rfl) rfl ?_
  refine g_iconst hC (gDec_at DX6_slips_0 10 rfl) (v := nI 1) (by decide) ?_
  refine g_bipush hC (gDec_at DX6_slips_0 11 rfl) (v := nI 12) (by decide) ?_
  refine g_callSd (w := wC q) hC (c_X6_isOutside_in q (by omega) (by omega) (nI_gin (k := n) (a := 1) (b := 12) (by omega) (by omega) (by omega))) sf_X6_isOutside ml_X6_60 (by decide) rfl rfl (Nat.le_of_ble_eq_true rfl) (gDec_at DX6_slips_0 12 rfl) ?_
  refine g_if_neN hC (by decide) (gDec_at DX6_slips_0 13 rfl) 50 (by decide) (fun h => absurd h (by decide)) (fun h => ?_)
  refine g_iload_n hC (gDec_at DX6_slips_0 14 rfl) rfl ?_
  refine g_iconst hC (gDec_at DX6_slips_0 15 rfl) (v := nI 0) (by decide) ?_
  refine g_bipush hC (gDec_at DX6_slips_0 16 rfl) (v := nI 10) (by decide) ?_
  refine g_callSd (w := wC q) hC (c_X6_isOutside_out q (by omega) (by omega) ht) sf_X6_isOutside ml_X6_60 (by decide) rfl rfl (Nat.le_of_ble_eq_true rfl) (gDec_at DX6_slips_0 17 rfl) ?_
  refine g_if_neN hC (by decide) (gDec_at DX6_slips_0 18 rfl) 50 (by decide) (fun h => ?_) (fun h => absurd h (by decide))
  refine g_ldc2 hC cl_X6_121 (v' := -2) rfl (gDec_at DX6_slips_0 24 rfl) ?_
  refine g_lret hC (gDec_at DX6_slips_0 25 rfl) ?_
  exact ⟨rfl, rfl⟩

set_option maxRecDepth 100000 in
set_option maxHeartbeats 4000000 in
theorem c_X6_slips_bady (q : gQ3) {M : gM} {B : gB} (hI : cI M B) {j : Nat} (hj : j < 12) (ht : j % 6 < B 9 0) {n : Nat} (hna : 1 ≤ n) (hnb : n ≤ 12) {t : Nat} (hta : 0 ≤ t) (htb : t ≤ 10) {y : Int32} (hy : ¬ gin y 0 40) {u : Nat} (hu : u ≤ 1) : gCt (wC q) yX6_slips cX6_slips 7 (some .long) 8 [.ref (q.2.2 0), .int (nI (10 * (j / 6) + j % 6)), .int (nI n), .int (nI t), .int y, .int (nI u)] M (gR (some (.long (-2))) M) := by
  refine gMet RX6 (by decide +kernel) rfl (Nat.le_of_ble_eq_true rfl) (fun X hC => ?_)
  have hC : gC X (wC q) cX6_slips 7 RX6 (some .long) 8 := hC
  show gG X (wC q) _ 7 M 0 [(0, .ref (q.2.2 0)), (1, .int (nI (10 * (j / 6) + j % 6))), (2, .int (nI n)), (3, .int (nI t)), (4, .int y), (5, .int (nI u))] []
  refine g_aload_n hC (gDec_at DX6_slips_0 0 rfl) rfl ?_
  refine g_get (w := wC q) hC 0 (v := .ref (q.2.2 9)) fl_X6_19 (show 0 < 63 from by decide) rfl rfl (gDec_at DX6_slips_0 1 rfl) ?_
  refine g_iload_n hC (gDec_at DX6_slips_0 2 rfl) rfl ?_
  refine g_callVd (w := wC q) hC 9 (c_X0_placeTold q hI hj ht) vf_X0_placeTold ml_X6_79 (by decide) (show 9 < 63 from by decide) rfl rfl rfl rfl rfl (Nat.le_of_ble_eq_true rfl) (gDec_at DX6_slips_0 3 rfl) ?_
  refine g_astore hC (gDec_at DX6_slips_0 4 rfl) (by decide) (L' := [(6, .ref (q.2.2 (15 + j))), (0, .ref (q.2.2 0)), (1, .int (nI (10 * (j / 6) + j % 6))), (2, .int (nI n)), (3, .int (nI t)), (4, .int y), (5, .int (nI u))]) rfl ?_
  refine g_aload hC (gDec_at DX6_slips_0 5 rfl) rfl ?_
  refine g_ifnonnull hC (gDec_at DX6_slips_0 6 rfl) 19 (by decide) ?_
  refine g_iload_n hC (gDec_at DX6_slips_0 9 rfl) rfl ?_
  refine g_iconst hC (gDec_at DX6_slips_0 10 rfl) (v := nI 1) (by decide) ?_
  refine g_bipush hC (gDec_at DX6_slips_0 11 rfl) (v := nI 12) (by decide) ?_
  refine g_callSd (w := wC q) hC (c_X6_isOutside_in q (by omega) (by omega) (nI_gin (k := n) (a := 1) (b := 12) (by omega) (by omega) (by omega))) sf_X6_isOutside ml_X6_60 (by decide) rfl rfl (Nat.le_of_ble_eq_true rfl) (gDec_at DX6_slips_0 12 rfl) ?_
  refine g_if_neN hC (by decide) (gDec_at DX6_slips_0 13 rfl) 50 (by decide) (fun h => absurd h (by decide)) (fun h => ?_)
  refine g_iload_n hC (gDec_at DX6_slips_0 14 rfl) rfl ?_
  refine g_iconst hC (gDec_at DX6_slips_0 15 rfl) (v := nI 0) (by decide) ?_
  refine g_bipush hC (gDec_at DX6_slips_0 16 rfl) (v := nI 10) (by decide) ?_
  refine g_callSd (w := wC q) hC (c_X6_isOutside_in q (by omega) (by omega) (nI_gin (k := t) (a := 0) (b := 10) (by omega) (by omega) (by omega))) sf_X6_isOutside ml_X6_60 (by decide) rfl rfl (Nat.le_of_ble_eq_true rfl) (gDec_at DX6_slips_0 17 rfl) ?_
  refine g_if_neN hC (by decide) (gDec_at DX6_slips_0 18 rfl) 50 (by decide) (fun h => absurd h (by decide)) (fun h => ?_)
  refine g_iload hC (gDec_at DX6_slips_0 19 rfl) rfl ?_
  refine g_iconst hC (gDec_at DX6_slips_0 20 rfl) (v := nI 0) (by decide) ?_
  refine g_bipush hC (gDec_at DX6_slips_0 21 rfl) (v := nI 40) (by decide) ?_
  refine g_callSd (w := wC q) hC (c_X6_isOutside_out q (by omega) (by omega) hy) sf_X6_isOutside ml_X6_60 (by decide) rfl rfl (Nat.le_of_ble_eq_true rfl) (gDec_at DX6_slips_0 22 rfl) ?_
  refine g_if_eqN hC (by decide) (gDec_at DX6_slips_0 23 rfl) 54 (by decide) (fun h => absurd h (by decide)) (fun h => ?_)
  refine g_ldc2 hC cl_X6_121 (v' := -2) rfl (gDec_at DX6_slips_0 24 rfl) ?_
  refine g_lret hC (gDec_at DX6_slips_0 25 rfl) ?_
  exact ⟨rfl, rfl⟩

set_option maxRecDepth 100000 in
set_option maxHeartbeats 4000000 in
theorem c_X6_slips_ok (q : gQ3) {M : gM} {B : gB} (hI : cI M B) {j : Nat} (hj : j < 12) (ht : j % 6 < B 9 0) {n : Nat} (hna : 1 ≤ n) (hnb : n ≤ 12) {t : Nat} (hta : 0 ≤ t) (htb : t ≤ 10) {y : Nat} (hya : 0 ≤ y) (hyb : y ≤ 40) {u : Nat} (hu : u ≤ 1) : gCt (wC q) yX6_slips cX6_slips 7 (some .long) 8 [.ref (q.2.2 0), .int (nI (10 * (j / 6) + j % 6)), .int (nI n), .int (nI t), .int (nI y), .int (nI u)] M (gR (some (.long (lN (sTo (sWay n t (fun h => n + h + y ≤ B 1 j)) (10 ^ n) u)))) M) := by
  refine gMet RX6 (by decide +kernel) rfl (Nat.le_of_ble_eq_true rfl) (fun X hC => ?_)
  have hC : gC X (wC q) cX6_slips 7 RX6 (some .long) 8 := hC
  show gG X (wC q) _ 7 M 0 [(0, .ref (q.2.2 0)), (1, .int (nI (10 * (j / 6) + j % 6))), (2, .int (nI n)), (3, .int (nI t)), (4, .int (nI y)), (5, .int (nI u))] []
  have h1 := bv_f1 hI.2.2 hj ht
  have hpw := pow10_le hnb
  have hsw := sWay_le (P := fun h => n + h + y ≤ B 1 j) hnb htb
  refine g_aload_n hC (gDec_at DX6_slips_0 0 rfl) rfl ?_
  refine g_get (w := wC q) hC 0 (v := .ref (q.2.2 9)) fl_X6_19 (show 0 < 63 from by decide) rfl rfl (gDec_at DX6_slips_0 1 rfl) ?_
  refine g_iload_n hC (gDec_at DX6_slips_0 2 rfl) rfl ?_
  refine g_callVd (w := wC q) hC 9 (c_X0_placeTold q hI hj ht) vf_X0_placeTold ml_X6_79 (by decide) (show 9 < 63 from by decide) rfl rfl rfl rfl rfl (Nat.le_of_ble_eq_true rfl) (gDec_at DX6_slips_0 3 rfl) ?_
  refine g_astore hC (gDec_at DX6_slips_0 4 rfl) (by decide) (L' := [(6, .ref (q.2.2 (15 + j))), (0, .ref (q.2.2 0)), (1, .int (nI (10 * (j / 6) + j % 6))), (2, .int (nI n)), (3, .int (nI t)), (4, .int (nI y)), (5, .int (nI u))]) rfl ?_
  refine g_aload hC (gDec_at DX6_slips_0 5 rfl) rfl ?_
  refine g_ifnonnull hC (gDec_at DX6_slips_0 6 rfl) 19 (by decide) ?_
  refine g_iload_n hC (gDec_at DX6_slips_0 9 rfl) rfl ?_
  refine g_iconst hC (gDec_at DX6_slips_0 10 rfl) (v := nI 1) (by decide) ?_
  refine g_bipush hC (gDec_at DX6_slips_0 11 rfl) (v := nI 12) (by decide) ?_
  refine g_callSd (w := wC q) hC (c_X6_isOutside_in q (by omega) (by omega) (nI_gin (k := n) (a := 1) (b := 12) (by omega) (by omega) (by omega))) sf_X6_isOutside ml_X6_60 (by decide) rfl rfl (Nat.le_of_ble_eq_true rfl) (gDec_at DX6_slips_0 12 rfl) ?_
  refine g_if_neN hC (by decide) (gDec_at DX6_slips_0 13 rfl) 50 (by decide) (fun h => absurd h (by decide)) (fun h => ?_)
  refine g_iload_n hC (gDec_at DX6_slips_0 14 rfl) rfl ?_
  refine g_iconst hC (gDec_at DX6_slips_0 15 rfl) (v := nI 0) (by decide) ?_
  refine g_bipush hC (gDec_at DX6_slips_0 16 rfl) (v := nI 10) (by decide) ?_
  refine g_callSd (w := wC q) hC (c_X6_isOutside_in q (by omega) (by omega) (nI_gin (k := t) (a := 0) (b := 10) (by omega) (by omega) (by omega))) sf_X6_isOutside ml_X6_60 (by decide) rfl rfl (Nat.le_of_ble_eq_true rfl) (gDec_at DX6_slips_0 17 rfl) ?_
  refine g_if_neN hC (by decide) (gDec_at DX6_slips_0 18 rfl) 50 (by decide) (fun h => absurd h (by decide)) (fun h => ?_)
  refine g_iload hC (gDec_at DX6_slips_0 19 rfl) rfl ?_
  refine g_iconst hC (gDec_at DX6_slips_0 20 rfl) (v := nI 0) (by decide) ?_
  refine g_bipush hC (gDec_at DX6_slips_0 21 rfl) (v := nI 40) (by decide) ?_
  refine g_callSd (w := wC q) hC (c_X6_isOutside_in q (by omega) (by omega) (nI_gin (k := y) (a := 0) (b := 40) (by omega) (by omega) (by omega))) sf_X6_isOutside ml_X6_60 (by decide) rfl rfl (Nat.le_of_ble_eq_true rfl) (gDec_at DX6_slips_0 22 rfl) ?_
  refine g_if_eqN hC (by decide) (gDec_at DX6_slips_0 23 rfl) 54 (by decide) (fun h => ?_) (fun h => absurd h (by decide))
  refine g_iload_n hC (gDec_at DX6_slips_0 26 rfl) rfl ?_
  refine g_iload_n hC (gDec_at DX6_slips_0 27 rfl) rfl ?_
  refine g_iconst hC (gDec_at DX6_slips_0 28 rfl) (v := nI 0) (by decide) ?_
  refine g_aload hC (gDec_at DX6_slips_0 29 rfl) rfl ?_
  refine g_get (w := wC q) hC (15 + j) (v := .int (nI (B 1 j))) fl_X6_92 (show 15 + j < 63 from by have := hj; omega) (cC_p0 q _ _ hj) (g_sv (ci_f1 hI hj ht)) (gDec_at DX6_slips_0 30 rfl) ?_
  refine g_iload_n hC (gDec_at DX6_slips_0 31 rfl) rfl ?_
  refine g_isub hC (gDec_at DX6_slips_0 32 rfl) (v := (nI (B 1 j) - nI n)) rfl ?_
  refine g_iload hC (gDec_at DX6_slips_0 33 rfl) rfl ?_
  refine g_isub hC (gDec_at DX6_slips_0 34 rfl) (v := (nI (B 1 j) - nI n - nI y)) rfl ?_
  refine g_callSd (w := wC q) hC (c_X6_waysBetween q (P := fun h => n + h + y ≤ B 1 j) (by omega) (by omega) (a := 0) (by omega) (fun h hh => ⟨fun z => (to_iff (by omega) (by omega) (by omega) (by omega)).mp z.2, fun z => ⟨by omega, (to_iff (by omega) (by omega) (by omega) (by omega)).mpr z⟩⟩)) sf_X6_waysBetween ml_X6_211 (by decide) rfl rfl (Nat.le_of_ble_eq_true rfl) (gDec_at DX6_slips_0 35 rfl) ?_
  refine g_ldc2 hC cl_X6_215 (v' := lN 10) (by decide) (gDec_at DX6_slips_0 36 rfl) ?_
  refine g_iload_n hC (gDec_at DX6_slips_0 37 rfl) rfl ?_
  refine g_callSd (w := wC q) hC (c_X6_power q (b := 10) (n := n) (by omega)) sf_X6_power ml_X6_217 (by decide) rfl rfl (Nat.le_of_ble_eq_true rfl) (gDec_at DX6_slips_0 38 rfl) ?_
  refine g_iload hC (gDec_at DX6_slips_0 39 rfl) rfl ?_
  refine g_callSd (w := wC q) hC (c_X6_fractionPart q (a := (sWay n t (fun h => n + h + y ≤ B 1 j))) (b := (10 ^ n)) (u := u) (by omega) (by omega) (by omega)) sf_X6_fractionPart ml_X6_130 (by decide) rfl rfl (Nat.le_of_ble_eq_true rfl) (gDec_at DX6_slips_0 40 rfl) ?_
  refine g_lret hC (gDec_at DX6_slips_0 41 rfl) ?_
  exact ⟨rfl, rfl⟩

set_option maxRecDepth 100000 in
set_option maxHeartbeats 4000000 in
theorem c_X6_good_badm (q : gQ3) {M : gM} {B : gB} (hI : cI M B) {m : Int32} (hm : ¬ gin m 1 12) {t k : Int32} {u : Nat} (hu : u ≤ 1) : gCt (wC q) yX6_good cX6_good 5 (some .long) 8 [.ref (q.2.2 0), .int m, .int t, .int k, .int (nI u)] M (gR (some (.long (-2))) M) := by
  refine gMet RX6 (by decide +kernel) rfl (Nat.le_of_ble_eq_true rfl) (fun X hC => ?_)
  have hC : gC X (wC q) cX6_good 5 RX6 (some .long) 8 := hC
  show gG X (wC q) _ 5 M 0 [(0, .ref (q.2.2 0)), (1, .int m), (2, .int t), (3, .int k), (4, .int (nI u))] []
  refine g_iload_n hC (gDec_at DX6_good_0 0 rfl) rfl ?_
  refine g_iconst hC (gDec_at DX6_good_0 1 rfl) (v := nI 1) (by decide) ?_
  refine g_bipush hC (gDec_at DX6_good_0 2 rfl) (v := nI 12) (by decide) ?_
  refine g_callSd (w := wC q) hC (c_X6_isOutside_out q (by omega) (by omega) hm) sf_X6_isOutside ml_X6_60 (by decide) rfl rfl (Nat.le_of_ble_eq_true rfl) (gDec_at DX6_good_0 3 rfl) ?_
  refine g_if_neN hC (by decide) (gDec_at DX6_good_0 4 rfl) 29 (by decide) (fun h => ?_) (fun h => absurd h (by decide))
  refine g_ldc2 hC cl_X6_121 (v' := -2) rfl (gDec_at DX6_good_0 15 rfl) ?_
  refine g_lret hC (gDec_at DX6_good_0 16 rfl) ?_
  exact ⟨rfl, rfl⟩

set_option maxRecDepth 100000 in
set_option maxHeartbeats 4000000 in
theorem c_X6_good_badt (q : gQ3) {M : gM} {B : gB} (hI : cI M B) {m : Nat} (hma : 1 ≤ m) (hmb : m ≤ 12) {t : Int32} (ht : ¬ gin t 0 10) {k : Int32} {u : Nat} (hu : u ≤ 1) : gCt (wC q) yX6_good cX6_good 5 (some .long) 8 [.ref (q.2.2 0), .int (nI m), .int t, .int k, .int (nI u)] M (gR (some (.long (-2))) M) := by
  refine gMet RX6 (by decide +kernel) rfl (Nat.le_of_ble_eq_true rfl) (fun X hC => ?_)
  have hC : gC X (wC q) cX6_good 5 RX6 (some .long) 8 := hC
  show gG X (wC q) _ 5 M 0 [(0, .ref (q.2.2 0)), (1, .int (nI m)), (2, .int t), (3, .int k), (4, .int (nI u))] []
  refine g_iload_n hC (gDec_at DX6_good_0 0 rfl) rfl ?_
  refine g_iconst hC (gDec_at DX6_good_0 1 rfl) (v := nI 1) (by decide) ?_
  refine g_bipush hC (gDec_at DX6_good_0 2 rfl) (v := nI 12) (by decide) ?_
  refine g_callSd (w := wC q) hC (c_X6_isOutside_in q (by omega) (by omega) (nI_gin (k := m) (a := 1) (b := 12) (by omega) (by omega) (by omega))) sf_X6_isOutside ml_X6_60 (by decide) rfl rfl (Nat.le_of_ble_eq_true rfl) (gDec_at DX6_good_0 3 rfl) ?_
  refine g_if_neN hC (by decide) (gDec_at DX6_good_0 4 rfl) 29 (by decide) (fun h => absurd h (by decide)) (fun h => ?_)
  refine g_iload_n hC (gDec_at DX6_good_0 5 rfl) rfl ?_
  refine g_iconst hC (gDec_at DX6_good_0 6 rfl) (v := nI 0) (by decide) ?_
  refine g_bipush hC (gDec_at DX6_good_0 7 rfl) (v := nI 10) (by decide) ?_
  refine g_callSd (w := wC q) hC (c_X6_isOutside_out q (by omega) (by omega) ht) sf_X6_isOutside ml_X6_60 (by decide) rfl rfl (Nat.le_of_ble_eq_true rfl) (gDec_at DX6_good_0 8 rfl) ?_
  refine g_if_neN hC (by decide) (gDec_at DX6_good_0 9 rfl) 29 (by decide) (fun h => ?_) (fun h => absurd h (by decide))
  refine g_ldc2 hC cl_X6_121 (v' := -2) rfl (gDec_at DX6_good_0 15 rfl) ?_
  refine g_lret hC (gDec_at DX6_good_0 16 rfl) ?_
  exact ⟨rfl, rfl⟩

set_option maxRecDepth 100000 in
set_option maxHeartbeats 4000000 in
theorem c_X6_good_badk (q : gQ3) {M : gM} {B : gB} (hI : cI M B) {m : Nat} (hma : 1 ≤ m) (hmb : m ≤ 12) {t : Nat} (hta : 0 ≤ t) (htb : t ≤ 10) {k : Int32} (hk : ¬ gin k 0 m) {u : Nat} (hu : u ≤ 1) : gCt (wC q) yX6_good cX6_good 5 (some .long) 8 [.ref (q.2.2 0), .int (nI m), .int (nI t), .int k, .int (nI u)] M (gR (some (.long (-2))) M) := by
  refine gMet RX6 (by decide +kernel) rfl (Nat.le_of_ble_eq_true rfl) (fun X hC => ?_)
  have hC : gC X (wC q) cX6_good 5 RX6 (some .long) 8 := hC
  show gG X (wC q) _ 5 M 0 [(0, .ref (q.2.2 0)), (1, .int (nI m)), (2, .int (nI t)), (3, .int k), (4, .int (nI u))] []
  refine g_iload_n hC (gDec_at DX6_good_0 0 rfl) rfl ?_
  refine g_iconst hC (gDec_at DX6_good_0 1 rfl) (v := nI 1) (by decide) ?_
  refine g_bipush hC (gDec_at DX6_good_0 2 rfl) (v := nI 12) (by decide) ?_
  refine g_callSd (w := wC q) hC (c_X6_isOutside_in q (by omega) (by omega) (nI_gin (k := m) (a := 1) (b := 12) (by omega) (by omega) (by omega))) sf_X6_isOutside ml_X6_60 (by decide) rfl rfl (Nat.le_of_ble_eq_true rfl) (gDec_at DX6_good_0 3 rfl) ?_
  refine g_if_neN hC (by decide) (gDec_at DX6_good_0 4 rfl) 29 (by decide) (fun h => absurd h (by decide)) (fun h => ?_)
  refine g_iload_n hC (gDec_at DX6_good_0 5 rfl) rfl ?_
  refine g_iconst hC (gDec_at DX6_good_0 6 rfl) (v := nI 0) (by decide) ?_
  refine g_bipush hC (gDec_at DX6_good_0 7 rfl) (v := nI 10) (by decide) ?_
  refine g_callSd (w := wC q) hC (c_X6_isOutside_in q (by omega) (by omega) (nI_gin (k := t) (a := 0) (b := 10) (by omega) (by omega) (by omega))) sf_X6_isOutside ml_X6_60 (by decide) rfl rfl (Nat.le_of_ble_eq_true rfl) (gDec_at DX6_good_0 8 rfl) ?_
  refine g_if_neN hC (by decide) (gDec_at DX6_good_0 9 rfl) 29 (by decide) (fun h => absurd h (by decide)) (fun h => ?_)
  refine g_iload_n hC (gDec_at DX6_good_0 10 rfl) rfl ?_
  refine g_iconst hC (gDec_at DX6_good_0 11 rfl) (v := nI 0) (by decide) ?_
  refine g_iload_n hC (gDec_at DX6_good_0 12 rfl) rfl ?_
  refine g_callSd (w := wC q) hC (c_X6_isOutside_out q (by omega) (by omega) hk) sf_X6_isOutside ml_X6_60 (by decide) rfl rfl (Nat.le_of_ble_eq_true rfl) (gDec_at DX6_good_0 13 rfl) ?_
  refine g_if_eqN hC (by decide) (gDec_at DX6_good_0 14 rfl) 33 (by decide) (fun h => absurd h (by decide)) (fun h => ?_)
  refine g_ldc2 hC cl_X6_121 (v' := -2) rfl (gDec_at DX6_good_0 15 rfl) ?_
  refine g_lret hC (gDec_at DX6_good_0 16 rfl) ?_
  exact ⟨rfl, rfl⟩

set_option maxRecDepth 100000 in
set_option maxHeartbeats 4000000 in
theorem c_X6_good_ok (q : gQ3) {M : gM} {B : gB} (hI : cI M B) {m : Nat} (hma : 1 ≤ m) (hmb : m ≤ 12) {t : Nat} (hta : 0 ≤ t) (htb : t ≤ 10) {k : Nat} (hk : k ≤ m) {u : Nat} (hu : u ≤ 1) : gCt (wC q) yX6_good cX6_good 5 (some .long) 8 [.ref (q.2.2 0), .int (nI m), .int (nI t), .int (nI k), .int (nI u)] M (gR (some (.long (lN (sTo (sWay m t (fun h => k ≤ h)) (10 ^ m) u)))) M) := by
  refine gMet RX6 (by decide +kernel) rfl (Nat.le_of_ble_eq_true rfl) (fun X hC => ?_)
  have hC : gC X (wC q) cX6_good 5 RX6 (some .long) 8 := hC
  show gG X (wC q) _ 5 M 0 [(0, .ref (q.2.2 0)), (1, .int (nI m)), (2, .int (nI t)), (3, .int (nI k)), (4, .int (nI u))] []
  have hpw := pow10_le hmb
  have hsw := sWay_le (P := fun h => k ≤ h) hmb htb
  refine g_iload_n hC (gDec_at DX6_good_0 0 rfl) rfl ?_
  refine g_iconst hC (gDec_at DX6_good_0 1 rfl) (v := nI 1) (by decide) ?_
  refine g_bipush hC (gDec_at DX6_good_0 2 rfl) (v := nI 12) (by decide) ?_
  refine g_callSd (w := wC q) hC (c_X6_isOutside_in q (by omega) (by omega) (nI_gin (k := m) (a := 1) (b := 12) (by omega) (by omega) (by omega))) sf_X6_isOutside ml_X6_60 (by decide) rfl rfl (Nat.le_of_ble_eq_true rfl) (gDec_at DX6_good_0 3 rfl) ?_
  refine g_if_neN hC (by decide) (gDec_at DX6_good_0 4 rfl) 29 (by decide) (fun h => absurd h (by decide)) (fun h => ?_)
  refine g_iload_n hC (gDec_at DX6_good_0 5 rfl) rfl ?_
  refine g_iconst hC (gDec_at DX6_good_0 6 rfl) (v := nI 0) (by decide) ?_
  refine g_bipush hC (gDec_at DX6_good_0 7 rfl) (v := nI 10) (by decide) ?_
  refine g_callSd (w := wC q) hC (c_X6_isOutside_in q (by omega) (by omega) (nI_gin (k := t) (a := 0) (b := 10) (by omega) (by omega) (by omega))) sf_X6_isOutside ml_X6_60 (by decide) rfl rfl (Nat.le_of_ble_eq_true rfl) (gDec_at DX6_good_0 8 rfl) ?_
  refine g_if_neN hC (by decide) (gDec_at DX6_good_0 9 rfl) 29 (by decide) (fun h => absurd h (by decide)) (fun h => ?_)
  refine g_iload_n hC (gDec_at DX6_good_0 10 rfl) rfl ?_
  refine g_iconst hC (gDec_at DX6_good_0 11 rfl) (v := nI 0) (by decide) ?_
  refine g_iload_n hC (gDec_at DX6_good_0 12 rfl) rfl ?_
  refine g_callSd (w := wC q) hC (c_X6_isOutside_in q (by omega) (by omega) (nI_gin (k := k) (a := 0) (b := m) (by omega) (by omega) (by omega))) sf_X6_isOutside ml_X6_60 (by decide) rfl rfl (Nat.le_of_ble_eq_true rfl) (gDec_at DX6_good_0 13 rfl) ?_
  refine g_if_eqN hC (by decide) (gDec_at DX6_good_0 14 rfl) 33 (by decide) (fun h => ?_) (fun h => absurd h (by decide))
  refine g_iload_n hC (gDec_at DX6_good_0 17 rfl) rfl ?_
  refine g_iload_n hC (gDec_at DX6_good_0 18 rfl) rfl ?_
  refine g_iload_n hC (gDec_at DX6_good_0 19 rfl) rfl ?_
  refine g_iload_n hC (gDec_at DX6_good_0 20 rfl) rfl ?_
  refine g_callSd (w := wC q) hC (c_X6_waysBetween q (P := fun h => k ≤ h) (by omega) (by omega) (a := k) (by omega) (fun h hh => ⟨fun z => z.1, fun z => ⟨z, by rw [nI_ltI (by omega) (by omega)]; omega⟩⟩)) sf_X6_waysBetween ml_X6_211 (by decide) rfl rfl (Nat.le_of_ble_eq_true rfl) (gDec_at DX6_good_0 21 rfl) ?_
  refine g_ldc2 hC cl_X6_215 (v' := lN 10) (by decide) (gDec_at DX6_good_0 22 rfl) ?_
  refine g_iload_n hC (gDec_at DX6_good_0 23 rfl) rfl ?_
  refine g_callSd (w := wC q) hC (c_X6_power q (b := 10) (n := m) (by omega)) sf_X6_power ml_X6_217 (by decide) rfl rfl (Nat.le_of_ble_eq_true rfl) (gDec_at DX6_good_0 24 rfl) ?_
  refine g_iload hC (gDec_at DX6_good_0 25 rfl) rfl ?_
  refine g_callSd (w := wC q) hC (c_X6_fractionPart q (a := (sWay m t (fun h => k ≤ h))) (b := (10 ^ m)) (u := u) (by omega) (by omega) (by omega)) sf_X6_fractionPart ml_X6_130 (by decide) rfl rfl (Nat.le_of_ble_eq_true rfl) (gDec_at DX6_good_0 26 rfl) ?_
  refine g_lret hC (gDec_at DX6_good_0 27 rfl) ?_
  exact ⟨rfl, rfl⟩

set_option maxRecDepth 100000 in
set_option maxHeartbeats 4000000 in
theorem c_X6_count_0 (q : gQ3) {M : gM} {B : gB} (hI : cI M B) {tl : Nat} {tb : Nat → Nat} (hT : cT M tl tb) : gCt (wC q) yX6_count cX6_count 2 (some .int) 8 [.ref (q.2.2 0), .int (nI 0)] M (gR (some (.int (nI tl))) M) := by
  refine gMet RX6 (by decide +kernel) rfl (Nat.le_of_ble_eq_true rfl) (fun X hC => ?_)
  have hC : gC X (wC q) cX6_count 2 RX6 (some .int) 8 := hC
  show gG X (wC q) _ 2 M 0 [(0, .ref (q.2.2 0)), (1, .int (nI 0))] []
  refine g_iload_n hC (gDec_at DX6_count_0 0 rfl) rfl ?_
  refine g_tableIn hC (gDec_at DX6_count_0 1 rfl) 36 (by decide) (by decide) rfl (by decide) ?_
  refine g_aload_n hC (gDec_at DX6_count_0 2 rfl) rfl ?_
  refine g_get (w := wC q) hC 0 (v := .ref (q.2.2 1)) fl_X6_10 (show 0 < 63 from by decide) rfl rfl (gDec_at DX6_count_0 3 rfl) ?_
  refine g_get (w := wC q) hC 1 (v := .int (nI tl)) fl_X6_37 (show 1 < 63 from by decide) rfl (g_sv hT.1) (gDec_at DX6_count_0 4 rfl) ?_
  refine g_iret hC (gDec_at DX6_count_0 5 rfl) ?_
  exact ⟨rfl, rfl⟩

set_option maxRecDepth 100000 in
set_option maxHeartbeats 4000000 in
theorem c_X6_count_1 (q : gQ3) {M : gM} {B : gB} (hI : cI M B) {tl : Nat} {tb : Nat → Nat} (hT : cT M tl tb) : gCt (wC q) yX6_count cX6_count 2 (some .int) 8 [.ref (q.2.2 0), .int (nI 1)] M (gR (some (.int (nI (B 9 0)))) M) := by
  refine gMet RX6 (by decide +kernel) rfl (Nat.le_of_ble_eq_true rfl) (fun X hC => ?_)
  have hC : gC X (wC q) cX6_count 2 RX6 (some .int) 8 := hC
  show gG X (wC q) _ 2 M 0 [(0, .ref (q.2.2 0)), (1, .int (nI 1))] []
  refine g_iload_n hC (gDec_at DX6_count_0 0 rfl) rfl ?_
  refine g_tableIn hC (gDec_at DX6_count_0 1 rfl) 44 (by decide) (by decide) rfl (by decide) ?_
  refine g_aload_n hC (gDec_at DX6_count_0 6 rfl) rfl ?_
  refine g_get (w := wC q) hC 0 (v := .ref (q.2.2 9)) fl_X6_19 (show 0 < 63 from by decide) rfl rfl (gDec_at DX6_count_0 7 rfl) ?_
  refine g_get (w := wC q) hC 9 (v := .int (nI (B 9 0))) fl_X6_53 (show 9 < 63 from by decide) rfl (g_sv (ci_many hI)) (gDec_at DX6_count_0 8 rfl) ?_
  refine g_iret hC (gDec_at DX6_count_0 9 rfl) ?_
  exact ⟨rfl, rfl⟩

set_option maxRecDepth 100000 in
set_option maxHeartbeats 4000000 in
theorem c_X6_count_2 (q : gQ3) {M : gM} {B : gB} (hI : cI M B) {tl : Nat} {tb : Nat → Nat} (hT : cT M tl tb) : gCt (wC q) yX6_count cX6_count 2 (some .int) 8 [.ref (q.2.2 0), .int (nI 2)] M (gR (some (.int (nI (sKnots B)))) M) := by
  refine gMet RX6 (by decide +kernel) rfl (Nat.le_of_ble_eq_true rfl) (fun X hC => ?_)
  have hC : gC X (wC q) cX6_count 2 RX6 (some .int) 8 := hC
  show gG X (wC q) _ 2 M 0 [(0, .ref (q.2.2 0)), (1, .int (nI 2))] []
  refine g_iload_n hC (gDec_at DX6_count_0 0 rfl) rfl ?_
  refine g_tableIn hC (gDec_at DX6_count_0 1 rfl) 52 (by decide) (by decide) rfl (by decide) ?_
  refine g_aload_n hC (gDec_at DX6_count_0 10 rfl) rfl ?_
  refine g_get (w := wC q) hC 0 (v := .ref (q.2.2 9)) fl_X6_19 (show 0 < 63 from by decide) rfl rfl (gDec_at DX6_count_0 11 rfl) ?_
  refine g_callVd (w := wC q) hC 9 (c_X0_allKnots q hI) vf_X0_allKnots ml_X6_233 (by decide) (show 9 < 63 from by decide) rfl rfl rfl rfl rfl (Nat.le_of_ble_eq_true rfl) (gDec_at DX6_count_0 12 rfl) ?_
  refine g_iret hC (gDec_at DX6_count_0 13 rfl) ?_
  exact ⟨rfl, rfl⟩

set_option maxRecDepth 100000 in
set_option maxHeartbeats 4000000 in
theorem c_X6_count_3 (q : gQ3) {M : gM} {B : gB} (hI : cI M B) {tl : Nat} {tb : Nat → Nat} (hT : cT M tl tb) : gCt (wC q) yX6_count cX6_count 2 (some .int) 8 [.ref (q.2.2 0), .int (nI 3)] M (gR (some (.int (nI (sSets B)))) M) := by
  refine gMet RX6 (by decide +kernel) rfl (Nat.le_of_ble_eq_true rfl) (fun X hC => ?_)
  have hC : gC X (wC q) cX6_count 2 RX6 (some .int) 8 := hC
  show gG X (wC q) _ 2 M 0 [(0, .ref (q.2.2 0)), (1, .int (nI 3))] []
  refine g_iload_n hC (gDec_at DX6_count_0 0 rfl) rfl ?_
  refine g_tableIn hC (gDec_at DX6_count_0 1 rfl) 60 (by decide) (by decide) rfl (by decide) ?_
  refine g_aload_n hC (gDec_at DX6_count_0 14 rfl) rfl ?_
  refine g_get (w := wC q) hC 0 (v := .ref (q.2.2 9)) fl_X6_19 (show 0 < 63 from by decide) rfl rfl (gDec_at DX6_count_0 15 rfl) ?_
  refine g_callVd (w := wC q) hC 9 (c_X0_allSets q hI) vf_X0_allSets ml_X6_236 (by decide) (show 9 < 63 from by decide) rfl rfl rfl rfl rfl (Nat.le_of_ble_eq_true rfl) (gDec_at DX6_count_0 16 rfl) ?_
  refine g_iret hC (gDec_at DX6_count_0 17 rfl) ?_
  exact ⟨rfl, rfl⟩

set_option maxRecDepth 100000 in
set_option maxHeartbeats 4000000 in
theorem c_X6_count_4 (q : gQ3) {M : gM} {B : gB} (hI : cI M B) {tl : Nat} {tb : Nat → Nat} (hT : cT M tl tb) : gCt (wC q) yX6_count cX6_count 2 (some .int) 8 [.ref (q.2.2 0), .int (nI 4)] M (gR (some (.int (nI (sSeen B)))) M) := by
  refine gMet RX6 (by decide +kernel) rfl (Nat.le_of_ble_eq_true rfl) (fun X hC => ?_)
  have hC : gC X (wC q) cX6_count 2 RX6 (some .int) 8 := hC
  show gG X (wC q) _ 2 M 0 [(0, .ref (q.2.2 0)), (1, .int (nI 4))] []
  refine g_iload_n hC (gDec_at DX6_count_0 0 rfl) rfl ?_
  refine g_tableIn hC (gDec_at DX6_count_0 1 rfl) 68 (by decide) (by decide) rfl (by decide) ?_
  refine g_aload_n hC (gDec_at DX6_count_0 18 rfl) rfl ?_
  refine g_get (w := wC q) hC 0 (v := .ref (q.2.2 9)) fl_X6_19 (show 0 < 63 from by decide) rfl rfl (gDec_at DX6_count_0 19 rfl) ?_
  refine g_callVd (w := wC q) hC 9 (c_X0_allSeen q hI) vf_X0_allSeen ml_X6_201 (by decide) (show 9 < 63 from by decide) rfl rfl rfl rfl rfl (Nat.le_of_ble_eq_true rfl) (gDec_at DX6_count_0 20 rfl) ?_
  refine g_iret hC (gDec_at DX6_count_0 21 rfl) ?_
  exact ⟨rfl, rfl⟩

set_option maxRecDepth 100000 in
set_option maxHeartbeats 4000000 in
theorem c_X6_count_bad (q : gQ3) {M : gM} {B : gB} (hI : cI M B) {y : Int32} (hy : ¬ gin y 0 4) : gCt (wC q) yX6_count cX6_count 2 (some .int) 8 [.ref (q.2.2 0), .int y] M (gR (some (.int (-2))) M) := by
  refine gMet RX6 (by decide +kernel) rfl (Nat.le_of_ble_eq_true rfl) (fun X hC => ?_)
  have hC : gC X (wC q) cX6_count 2 RX6 (some .int) 8 := hC
  show gG X (wC q) _ 2 M 0 [(0, .ref (q.2.2 0)), (1, .int y)] []
  refine g_iload_n hC (gDec_at DX6_count_0 0 rfl) rfl ?_
  refine g_tableOut hC (gDec_at DX6_count_0 1 rfl) 76 (by unfold gin at hy; omega) (by decide) ?_
  refine g_bipush hC (gDec_at DX6_count_0 22 rfl) (v := -2) (by decide) ?_
  refine g_iret hC (gDec_at DX6_count_0 23 rfl) ?_
  exact ⟨rfl, rfl⟩
