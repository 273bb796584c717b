/-! Place, Wood, the text; a bow made anew, copied -/
section SW
variable {X : gX} {w : gW} {post : Option Value → gM → Prop} {nL : Nat} {M : gM} {pc : Nat} {L : List (Nat × Value)} {st : List Value} {cc : ByteArray} {own : String} {ret : Option FieldType} {d : Nat}
theorem g_tableIn (hC : gC X w cc nL own ret d) {dflt lo hi off : Int} {offs : Array Int} {len : Nat} {x : Int32} (hd : decode cc pc = .ok (.tableswitch dflt lo hi offs, len)) (tgt : Nat) (h1 : ¬ x.toInt < lo) (h2 : ¬ hi < x.toInt) (ho : offs[(x.toInt - lo).toNat]? = some off) (ht : (pc : Int) + off = (tgt : Int)) (k : gG X w post nL M tgt L st) : gG X w post nL M pc L (.int x :: st) := fun H locs ls hP hS hL => lv_tableIn hC.1 hC.2.1 hd h1 h2 ho ht (k H locs ls hP hS hL)
theorem g_tableOut (hC : gC X w cc nL own ret d) {dflt lo hi : Int} {offs : Array Int} {len : Nat} {x : Int32} (hd : decode cc pc = .ok (.tableswitch dflt lo hi offs, len)) (tgt : Nat) (h : x.toInt < lo ∨ hi < x.toInt) (ht : (pc : Int) + dflt = (tgt : Int)) (k : gG X w post nL M tgt L st) : gG X w post nL M pc L (.int x :: st) := fun H locs ls hP hS hL => lv_tableOut hC.1 hC.2.1 hd h ht (k H locs ls hP hS hL)
end SW
set_option maxRecDepth 100000 in
set_option maxHeartbeats 4000000 in
theorem c_X1_makeAnew (q : gQ3) {M : gM} {j : Nat} (hj : j < 12) (w d z : Int32) : gCt (wC q) yX1_makeAnew cX1_makeAnew 4 none 0 [.ref (q.2.2 (15 + j)), .int w, .int d, .int z] M (gR none (gupd (gupd (gupd (gupd (gupd (gupd M (15 + j) 3 w) (15 + j) 4 d) (15 + j) 5 z) (15 + j) 6 (nI 0)) (15 + j) 7 (nI 0)) (15 + j) 8 (nI 0))) := by
  refine gMet RX1 (by decide +kernel) rfl (Nat.le_of_ble_eq_true rfl) (fun X hC => ?_)
  have hC : gC X (wC q) cX1_makeAnew 4 RX1 none 0 := hC
  show gG X (wC q) _ 4 M 0 [(0, .ref (q.2.2 (15 + j))), (1, .int w), (2, .int d), (3, .int z)] []
  refine g_aload_n hC (gDec_at DX1_makeAnew_0 0 rfl) rfl ?_
  refine g_iload_n hC (gDec_at DX1_makeAnew_0 1 rfl) rfl ?_
  refine g_putI (w := wC q) hC (15 + j) fl_X1_21 fp_1_3 (show 15 + j < 63 from by have := hj; omega) (cC_p0 q _ _ hj) (Nat.le_of_ble_eq_true rfl) (cC_p0 q _ _ hj) rfl (gDec_at DX1_makeAnew_0 2 rfl) ?_
  refine g_aload_n hC (gDec_at DX1_makeAnew_0 3 rfl) rfl ?_
  refine g_iload_n hC (gDec_at DX1_makeAnew_0 4 rfl) rfl ?_
  refine g_putI (w := wC q) hC (15 + j) fl_X1_24 fp_1_4 (show 15 + j < 63 from by have := hj; omega) (cC_p0 q _ _ hj) (Nat.le_of_ble_eq_true rfl) (cC_p0 q _ _ hj) rfl (gDec_at DX1_makeAnew_0 5 rfl) ?_
  refine g_aload_n hC (gDec_at DX1_makeAnew_0 6 rfl) rfl ?_
  refine g_iload_n hC (gDec_at DX1_makeAnew_0 7 rfl) rfl ?_
  refine g_putI (w := wC q) hC (15 + j) fl_X1_27 fp_1_5 (show 15 + j < 63 from by have := hj; omega) (cC_p0 q _ _ hj) (Nat.le_of_ble_eq_true rfl) (cC_p0 q _ _ hj) rfl (gDec_at DX1_makeAnew_0 8 rfl) ?_
  refine g_aload_n hC (gDec_at DX1_makeAnew_0 9 rfl) rfl ?_
  refine g_iconst hC (gDec_at DX1_makeAnew_0 10 rfl) (v := nI 0) (by decide) ?_
  refine g_putI (w := wC q) hC (15 + j) fl_X1_30 fp_1_6 (show 15 + j < 63 from by have := hj; omega) (cC_p0 q _ _ hj) (Nat.le_of_ble_eq_true rfl) (cC_p0 q _ _ hj) rfl (gDec_at DX1_makeAnew_0 11 rfl) ?_
  refine g_aload_n hC (gDec_at DX1_makeAnew_0 12 rfl) rfl ?_
  refine g_iconst hC (gDec_at DX1_makeAnew_0 13 rfl) (v := nI 0) (by decide) ?_
  refine g_putI (w := wC q) hC (15 + j) fl_X1_33 fp_1_7 (show 15 + j < 63 from by have := hj; omega) (cC_p0 q _ _ hj) (Nat.le_of_ble_eq_true rfl) (cC_p0 q _ _ hj) rfl (gDec_at DX1_makeAnew_0 14 rfl) ?_
  refine g_aload_n hC (gDec_at DX1_makeAnew_0 15 rfl) rfl ?_
  refine g_iconst hC (gDec_at DX1_makeAnew_0 16 rfl) (v := nI 0) (by decide) ?_
  refine g_putZ (w := wC q) hC (15 + j) (Or.inl rfl) fl_X1_36 fp_1_8 (show 15 + j < 63 from by have := hj; omega) (cC_p0 q _ _ hj) (Nat.le_of_ble_eq_true rfl) (cC_p0 q _ _ hj) rfl (gDec_at DX1_makeAnew_0 17 rfl) ?_
  refine g_vret hC (gDec_at DX1_makeAnew_0 18 rfl) ?_
  exact ⟨rfl, rfl⟩

set_option maxRecDepth 100000 in
set_option maxHeartbeats 4000000 in
theorem c_X5_become (q : gQ3) {M : gM} {b k : Nat} (hb : b < 3) (hk : k < 3) (x y z : Int32) : gCt (wC q) yX5_become cX5_become 4 none 0 [.ref (q.2.2 (12 + 18 * b + k)), .int x, .int y, .int z] M (gR none (gupd (gupd (gupd M (12 + 18 * b + k) 0 x) (12 + 18 * b + k) 1 y) (12 + 18 * b + k) 2 z)) := by
  refine gMet RX5 (by decide +kernel) rfl (Nat.le_of_ble_eq_true rfl) (fun X hC => ?_)
  have hC : gC X (wC q) cX5_become 4 RX5 none 0 := hC
  show gG X (wC q) _ 4 M 0 [(0, .ref (q.2.2 (12 + 18 * b + k))), (1, .int x), (2, .int y), (3, .int z)] []
  refine g_aload_n hC (gDec_at DX5_become_0 0 rfl) rfl ?_
  refine g_iload_n hC (gDec_at DX5_become_0 1 rfl) rfl ?_
  refine g_putI (w := wC q) hC (12 + 18 * b + k) fl_X5_7 fp_5_0 (show 12 + 18 * b + k < 63 from by omega) (cC_wd q _ _ hk) (Nat.le_of_ble_eq_true rfl) (cC_wd q _ _ hk) rfl (gDec_at DX5_become_0 2 rfl) ?_
  refine g_aload_n hC (gDec_at DX5_become_0 3 rfl) rfl ?_
  refine g_iload_n hC (gDec_at DX5_become_0 4 rfl) rfl ?_
  refine g_putI (w := wC q) hC (12 + 18 * b + k) fl_X5_13 fp_5_1 (show 12 + 18 * b + k < 63 from by omega) (cC_wd q _ _ hk) (Nat.le_of_ble_eq_true rfl) (cC_wd q _ _ hk) rfl (gDec_at DX5_become_0 5 rfl) ?_
  refine g_aload_n hC (gDec_at DX5_become_0 6 rfl) rfl ?_
  refine g_iload_n hC (gDec_at DX5_become_0 7 rfl) rfl ?_
  refine g_putI (w := wC q) hC (12 + 18 * b + k) fl_X5_16 fp_5_2 (show 12 + 18 * b + k < 63 from by omega) (cC_wd q _ _ hk) (Nat.le_of_ble_eq_true rfl) (cC_wd q _ _ hk) rfl (gDec_at DX5_become_0 8 rfl) ?_
  refine g_vret hC (gDec_at DX5_become_0 9 rfl) ?_
  exact ⟨rfl, rfl⟩

set_option maxRecDepth 100000 in
set_option maxHeartbeats 4000000 in
theorem c_X1_copyFrom (q : gQ3) {M : gM} {b b2 j : Nat} (hb : b < 3) (hb2 : b2 < 3) (hne : b ≠ b2) (hj : j < 12) (h8 : M.1 (15 + 18 * b2 + j) 8 = 0 ∨ M.1 (15 + 18 * b2 + j) 8 = 1) : gCt (wC q) yX1_copyFrom cX1_copyFrom 2 none 0 [.ref (q.2.2 (15 + 18 * b + j)), .ref (q.2.2 (15 + 18 * b2 + j))] M (gR none (gupd (gupd (gupd (gupd (gupd (gupd M (15 + 18 * b + j) 3 (M.1 (15 + 18 * b2 + j) 3)) (15 + 18 * b + j) 4 (M.1 (15 + 18 * b2 + j) 4)) (15 + 18 * b + j) 5 (M.1 (15 + 18 * b2 + j) 5)) (15 + 18 * b + j) 6 (M.1 (15 + 18 * b2 + j) 6)) (15 + 18 * b + j) 7 (M.1 (15 + 18 * b2 + j) 7)) (15 + 18 * b + j) 8 (M.1 (15 + 18 * b2 + j) 8))) := by
  refine gMet RX1 (by decide +kernel) rfl (Nat.le_of_ble_eq_true rfl) (fun X hC => ?_)
  have hC : gC X (wC q) cX1_copyFrom 2 RX1 none 0 := hC
  show gG X (wC q) _ 2 M 0 [(0, .ref (q.2.2 (15 + 18 * b + j))), (1, .ref (q.2.2 (15 + 18 * b2 + j)))] []
  refine g_aload_n hC (gDec_at DX1_copyFrom_0 0 rfl) rfl ?_
  refine g_aload_n hC (gDec_at DX1_copyFrom_0 1 rfl) rfl ?_
  refine g_get (w := wC q) hC (15 + 18 * b2 + j) (v := .int (M.1 (15 + 18 * b2 + j) 3)) fl_X1_21 (show 15 + 18 * b2 + j < 63 from by omega) (cC_pl q _ _ hj) rfl (gDec_at DX1_copyFrom_0 2 rfl) ?_
  refine g_putI (w := wC q) hC (15 + 18 * b + j) fl_X1_21 fp_1_3 (show 15 + 18 * b + j < 63 from by omega) (cC_pl q _ _ hj) (Nat.le_of_ble_eq_true rfl) (cC_pl q _ _ hj) rfl (gDec_at DX1_copyFrom_0 3 rfl) ?_
  refine g_aload_n hC (gDec_at DX1_copyFrom_0 4 rfl) rfl ?_
  refine g_aload_n hC (gDec_at DX1_copyFrom_0 5 rfl) rfl ?_
  refine g_get (w := wC q) hC (15 + 18 * b2 + j) (v := .int (M.1 (15 + 18 * b2 + j) 4)) fl_X1_24 (show 15 + 18 * b2 + j < 63 from by omega) (cC_pl q _ _ hj) (g_sv (by rw [gupd_get, if_neg (by omega)])) (gDec_at DX1_copyFrom_0 6 rfl) ?_
  refine g_putI (w := wC q) hC (15 + 18 * b + j) fl_X1_24 fp_1_4 (show 15 + 18 * b + j < 63 from by omega) (cC_pl q _ _ hj) (Nat.le_of_ble_eq_true rfl) (cC_pl q _ _ hj) rfl (gDec_at DX1_copyFrom_0 7 rfl) ?_
  refine g_aload_n hC (gDec_at DX1_copyFrom_0 8 rfl) rfl ?_
  refine g_aload_n hC (gDec_at DX1_copyFrom_0 9 rfl) rfl ?_
  refine g_get (w := wC q) hC (15 + 18 * b2 + j) (v := .int (M.1 (15 + 18 * b2 + j) 5)) fl_X1_27 (show 15 + 18 * b2 + j < 63 from by omega) (cC_pl q _ _ hj) (g_sv (by rw [gupd_get, if_neg (by omega), gupd_get, if_neg (by omega)])) (gDec_at DX1_copyFrom_0 10 rfl) ?_
  refine g_putI (w := wC q) hC (15 + 18 * b + j) fl_X1_27 fp_1_5 (show 15 + 18 * b + j < 63 from by omega) (cC_pl q _ _ hj) (Nat.le_of_ble_eq_true rfl) (cC_pl q _ _ hj) rfl (gDec_at DX1_copyFrom_0 11 rfl) ?_
  refine g_aload_n hC (gDec_at DX1_copyFrom_0 12 rfl) rfl ?_
  refine g_aload_n hC (gDec_at DX1_copyFrom_0 13 rfl) rfl ?_
  refine g_get (w := wC q) hC (15 + 18 * b2 + j) (v := .int (M.1 (15 + 18 * b2 + j) 6)) fl_X1_30 (show 15 + 18 * b2 + j < 63 from by omega) (cC_pl q _ _ hj) (g_sv (by rw [gupd_get, if_neg (by omega), gupd_get, if_neg (by omega), gupd_get, if_neg (by omega)])) (gDec_at DX1_copyFrom_0 14 rfl) ?_
  refine g_putI (w := wC q) hC (15 + 18 * b + j) fl_X1_30 fp_1_6 (show 15 + 18 * b + j < 63 from by omega) (cC_pl q _ _ hj) (Nat.le_of_ble_eq_true rfl) (cC_pl q _ _ hj) rfl (gDec_at DX1_copyFrom_0 15 rfl) ?_
  refine g_aload_n hC (gDec_at DX1_copyFrom_0 16 rfl) rfl ?_
  refine g_aload_n hC (gDec_at DX1_copyFrom_0 17 rfl) rfl ?_
  refine g_get (w := wC q) hC (15 + 18 * b2 + j) (v := .int (M.1 (15 + 18 * b2 + j) 7)) fl_X1_33 (show 15 + 18 * b2 + j < 63 from by omega) (cC_pl q _ _ hj) (g_sv (by rw [gupd_get, if_neg (by omega), gupd_get, if_neg (by omega), gupd_get, if_neg (by omega), gupd_get, if_neg (by omega)])) (gDec_at DX1_copyFrom_0 18 rfl) ?_
  refine g_putI (w := wC q) hC (15 + 18 * b + j) fl_X1_33 fp_1_7 (show 15 + 18 * b + j < 63 from by omega) (cC_pl q _ _ hj) (Nat.le_of_ble_eq_true rfl) (cC_pl q _ _ hj) rfl (gDec_at DX1_copyFrom_0 19 rfl) ?_
  refine g_aload_n hC (gDec_at DX1_copyFrom_0 20 rfl) rfl ?_
  refine g_aload_n hC (gDec_at DX1_copyFrom_0 21 rfl) rfl ?_
  refine g_get (w := wC q) hC (15 + 18 * b2 + j) (v := .int (M.1 (15 + 18 * b2 + j) 8)) fl_X1_36 (show 15 + 18 * b2 + j < 63 from by omega) (cC_pl q _ _ hj) (g_sv (by rw [gupd_get, if_neg (by omega), gupd_get, if_neg (by omega), gupd_get, if_neg (by omega), gupd_get, if_neg (by omega), gupd_get, if_neg (by omega)])) (gDec_at DX1_copyFrom_0 22 rfl) ?_
  refine g_putZ (w := wC q) hC (15 + 18 * b + j) h8 fl_X1_36 fp_1_8 (show 15 + 18 * b + j < 63 from by omega) (cC_pl q _ _ hj) (Nat.le_of_ble_eq_true rfl) (cC_pl q _ _ hj) rfl (gDec_at DX1_copyFrom_0 23 rfl) ?_
  refine g_vret hC (gDec_at DX1_copyFrom_0 24 rfl) ?_
  exact ⟨rfl, rfl⟩

/-- the text: tl bytes tb -/
def cT (M : gM) (tl : Nat) (tb : Nat → Nat) : Prop := M.1 1 1 = nI tl ∧ tl ≤ 60 ∧ ∀ i, i < tl → M.1 2 i = nI (tb i) ∧ tb i < 256
def sgn (tl : Nat) (tb : Nat → Nat) (i : Nat) : Int32 := if i < tl then nI (tb i) else -9
def fg (b : Nat) : Int32 := nI b - nI 48
theorem fg_int {b : Nat} (hb : b < 256) : (fg b).toInt = (b : Int) - 48 := pk_sub_toInt (by omega) (by omega)
theorem fg_lt {b k : Nat} (hb : b < 256) (hk : k < 256) : fg b < nI k ↔ b < 48 + k := by
  rw [lt_I, fg_int hb, nI_toInt (by omega)]; omega
theorem fg_gt {b k : Nat} (hb : b < 256) (hk : k < 256) : nI k < fg b ↔ 48 + k < b := by
  rw [lt_I, fg_int hb, nI_toInt (by omega)]; omega
theorem fg_neg {b : Nat} (hb : b < 256) : fg b < 0 ↔ b < 48 := by
  rw [lt_I, fg_int hb, zI]; omega
theorem fg_dep {a b : Nat} (ha : a < 256) (hb : b < 256) : (nI 10 * fg a + fg b).toInt = 10 * (a : Int) + b - 528 := by
  have h1 := fg_int ha
  have h2 := fg_int hb
  have h3 : (nI 10).toInt = 10 := rfl
  rw [Int32.toInt_add, Int32.toInt_mul, h1, h2, h3]
  have e1 : ((10 : Int) * ((a : Int) - 48)).bmod (2 ^ 32) = 10 * ((a : Int) - 48) := by rw [Int.bmod_eq_of_le] <;> omega
  rw [e1, Int.bmod_eq_of_le] <;> omega
/-- a byte fits at its place w of a Place (width, depth, depth, wood), a before it -/
def ffit (w a b : Nat) : Prop := (w = 0 ∧ 49 ≤ b ∧ b ≤ 57) ∨ (w = 1 ∧ 48 ≤ b ∧ b ≤ 52) ∨ (w = 2 ∧ 48 ≤ b ∧ b ≤ 57 ∧ 532 ≤ 10 * a + b ∧ 10 * a + b ≤ 568) ∨ (w = 3 ∧ 48 ≤ b ∧ b ≤ 50)
set_option maxRecDepth 100000 in
set_option maxHeartbeats 4000000 in
theorem c_X4_signAt (q : gQ3) {M : gM} {tl : Nat} {tb : Nat → Nat} (hT : cT M tl tb) {i : Nat} (hi : i < 1000) : gCt (wC q) yX4_signAt cX4_signAt 2 (some .int) 0 [.ref (q.2.2 1), .int (nI i)] M (gR (some (.int (sgn tl tb i))) M) := by
  refine gMet RX4 (by decide +kernel) rfl (Nat.le_of_ble_eq_true rfl) (fun X hC => ?_)
  have hC : gC X (wC q) cX4_signAt 2 RX4 (some .int) 0 := hC
  show gG X (wC q) _ 2 M 0 [(0, .ref (q.2.2 1)), (1, .int (nI i))] []
  have ht := hT.2.1
  refine g_iload_n hC (gDec_at DX4_signAt_0 0 rfl) rfl ?_
  refine g_if_ltN hC (by omega) (gDec_at DX4_signAt_0 1 rfl) ?_ 30 (by decide)
  refine g_iload_n hC (gDec_at DX4_signAt_0 2 rfl) rfl ?_
  refine g_aload_n hC (gDec_at DX4_signAt_0 3 rfl) rfl ?_
  refine g_get (w := wC q) hC 1 (v := .int (nI tl)) fl_X4_15 (show 1 < 63 from by decide) rfl (g_sv hT.1) (gDec_at DX4_signAt_0 4 rfl) ?_
  refine g_icmp_geN hC (by omega) (by omega) (gDec_at DX4_signAt_0 5 rfl) 30 (by decide) (fun h9 => ?_) (fun h9 => ?_)
  · skip
    refine g_bipush hC (gDec_at DX4_signAt_0 16 rfl) (v := -9) (by decide) ?_
    refine g_iret hC (gDec_at DX4_signAt_0 17 rfl) ?_
    exact ⟨by unfold sgn; rw [if_neg (by omega)], rfl⟩
  · skip
    refine g_iload_n hC (gDec_at DX4_signAt_0 6 rfl) rfl ?_
    refine g_aload_n hC (gDec_at DX4_signAt_0 7 rfl) rfl ?_
    refine g_get (w := wC q) hC 1 (v := .ref (q.2.2 2)) fl_X4_9 (show 1 < 63 from by decide) rfl rfl (gDec_at DX4_signAt_0 8 rfl) ?_
    refine g_alen (w := wC q) hC 2 0 (show 2 < 63 from by decide) rfl rfl (gDec_at DX4_signAt_0 9 rfl) ?_
    refine g_icmp_geN hC (by omega) (by omega) (gDec_at DX4_signAt_0 10 rfl) 30 (by decide) (fun h18 => ?_) (fun h18 => ?_)
    · skip
      exact absurd h18 (by omega)
    · skip
      refine g_aload_n hC (gDec_at DX4_signAt_0 11 rfl) rfl ?_
      refine g_get (w := wC q) hC 1 (v := .ref (q.2.2 2)) fl_X4_9 (show 1 < 63 from by decide) rfl rfl (gDec_at DX4_signAt_0 12 rfl) ?_
      refine g_iload_n hC (gDec_at DX4_signAt_0 13 rfl) rfl ?_
      refine g_iald (w := wC q) hC 2 0 i (x := (nI (tb i))) (show 2 < 63 from by decide) rfl rfl (by omega) (by decide) (hT.2.2 _ (by omega)).1 (gDec_at DX4_signAt_0 14 rfl) ?_
      refine g_goto hC (gDec_at DX4_signAt_0 15 rfl) 32 (by decide) ?_
      refine g_iret hC (gDec_at DX4_signAt_0 17 rfl) ?_
      exact ⟨by unfold sgn; rw [if_pos (by omega)], rfl⟩

set_option maxRecDepth 100000 in
set_option maxHeartbeats 4000000 in
theorem c_X4_figureAt (q : gQ3) {M : gM} {tl : Nat} {tb : Nat → Nat} (hT : cT M tl tb) {i : Nat} (hi : i < tl) : gCt (wC q) yX4_figureAt cX4_figureAt 2 (some .int) 1 [.ref (q.2.2 1), .int (nI i)] M (gR (some (.int (fg (tb i)))) M) := by
  refine gMet RX4 (by decide +kernel) rfl (Nat.le_of_ble_eq_true rfl) (fun X hC => ?_)
  have hC : gC X (wC q) cX4_figureAt 2 RX4 (some .int) 1 := hC
  show gG X (wC q) _ 2 M 0 [(0, .ref (q.2.2 1)), (1, .int (nI i))] []
  have ht := hT.2.1
  refine g_aload_n hC (gDec_at DX4_figureAt_0 0 rfl) rfl ?_
  refine g_iload_n hC (gDec_at DX4_figureAt_0 1 rfl) rfl ?_
  refine g_callVd (w := wC q) hC 1 (c_X4_signAt q hT (i := i) (by omega)) vf_X4_signAt ml_X4_19 (by decide) (show 1 < 63 from by decide) rfl rfl rfl rfl rfl (Nat.le_of_ble_eq_true rfl) (gDec_at DX4_figureAt_0 2 rfl) ?_
  refine g_st (st' := [.int (nI (tb i))]) (congrArg (fun z => [Value.int z]) (if_pos hi)) ?_
  refine g_bipush hC (gDec_at DX4_figureAt_0 3 rfl) (v := nI 48) (by decide) ?_
  refine g_isub hC (gDec_at DX4_figureAt_0 4 rfl) (v := (fg (tb i))) rfl ?_
  refine g_iret hC (gDec_at DX4_figureAt_0 5 rfl) ?_
  exact ⟨rfl, rfl⟩

set_option maxRecDepth 100000 in
set_option maxHeartbeats 4000000 in
theorem c_X4_depthFits (q : gQ3) {M : gM} {x : Int32} : gCt (wC q) yX4_depthFits cX4_depthFits 2 (some .boolean) 0 [.ref (q.2.2 1), .int x] M (fun v M' => M' = M ∧ ((v = some (.int 1) ∧ gin x 4 40) ∨ (v = some (.int 0) ∧ ¬ gin x 4 40))) := by
  refine gMet RX4 (by decide +kernel) rfl (Nat.le_of_ble_eq_true rfl) (fun X hC => ?_)
  have hC : gC X (wC q) cX4_depthFits 2 RX4 (some .boolean) 0 := hC
  show gG X (wC q) _ 2 M 0 [(0, .ref (q.2.2 1)), (1, .int x)] []
  refine g_iload_n hC (gDec_at DX4_depthFits_0 0 rfl) rfl ?_
  refine g_iconst hC (gDec_at DX4_depthFits_0 1 rfl) (v := nI 4) (by decide) ?_
  refine g_icmp_lt hC (gDec_at DX4_depthFits_0 2 rfl) 15 (by decide) (fun h2 => ?_) (fun h2 => ?_)
  · skip
    refine g_iconst hC (gDec_at DX4_depthFits_0 8 rfl) (v := nI 0) (by decide) ?_
    refine g_zret hC (Or.inl rfl) (gDec_at DX4_depthFits_0 9 rfl) ?_
    exact ⟨rfl, Or.inr ⟨rfl, by rw [lt_I, nI_toInt (by omega)] at h2; unfold gin; omega⟩⟩
  · skip
    refine g_iload_n hC (gDec_at DX4_depthFits_0 3 rfl) rfl ?_
    refine g_bipush hC (gDec_at DX4_depthFits_0 4 rfl) (v := nI 40) (by decide) ?_
    refine g_icmp_gt hC (gDec_at DX4_depthFits_0 5 rfl) 15 (by decide) (fun h8 => ?_) (fun h8 => ?_)
    · skip
      refine g_iconst hC (gDec_at DX4_depthFits_0 8 rfl) (v := nI 0) (by decide) ?_
      refine g_zret hC (Or.inl rfl) (gDec_at DX4_depthFits_0 9 rfl) ?_
      exact ⟨rfl, Or.inr ⟨rfl, by rw [lt_I, nI_toInt (by omega)] at h2 h8; unfold gin; omega⟩⟩
    · skip
      refine g_iconst hC (gDec_at DX4_depthFits_0 6 rfl) (v := nI 1) (by decide) ?_
      refine g_goto hC (gDec_at DX4_depthFits_0 7 rfl) 16 (by decide) ?_
      refine g_zret hC (Or.inr rfl) (gDec_at DX4_depthFits_0 9 rfl) ?_
      exact ⟨rfl, Or.inl ⟨rfl, by rw [lt_I, nI_toInt (by omega)] at h2 h8; unfold gin; omega⟩⟩

set_option maxRecDepth 100000 in
set_option maxHeartbeats 4000000 in
theorem c_X4_figureFits_0 (q : gQ3) {M : gM} {tl : Nat} {tb : Nat → Nat} (hT : cT M tl tb) {i : Nat} (hi : i < tl) : gCt (wC q) yX4_figureFits cX4_figureFits 4 (some .boolean) 2 [.ref (q.2.2 1), .int (nI i), .int (nI 0)] M (fun v M' => M' = M ∧ ((v = some (.int 1) ∧ ffit 0 (tb (i - 1)) (tb i)) ∨ (v = some (.int 0) ∧ ¬ ffit 0 (tb (i - 1)) (tb i)))) := by
  refine gMet RX4 (by decide +kernel) rfl (Nat.le_of_ble_eq_true rfl) (fun X hC => ?_)
  have hC : gC X (wC q) cX4_figureFits 4 RX4 (some .boolean) 2 := hC
  show gG X (wC q) _ 4 M 0 [(0, .ref (q.2.2 1)), (1, .int (nI i)), (2, .int (nI 0))] []
  have ht := hT.2.1
  have hb := (hT.2.2 i hi).2
  refine g_aload_n hC (gDec_at DX4_figureFits_0 0 rfl) rfl ?_
  refine g_iload_n hC (gDec_at DX4_figureFits_0 1 rfl) rfl ?_
  refine g_callVd (w := wC q) hC 1 (c_X4_figureAt q hT (i := i) (by omega)) vf_X4_figureAt ml_X4_34 (by decide) (show 1 < 63 from by decide) rfl rfl rfl rfl rfl (Nat.le_of_ble_eq_true rfl) (gDec_at DX4_figureFits_0 2 rfl) ?_
  refine g_istore_n hC (gDec_at DX4_figureFits_0 3 rfl) (by decide) (L' := [(3, .int (fg (tb i))), (0, .ref (q.2.2 1)), (1, .int (nI i)), (2, .int (nI 0))]) rfl ?_
  refine g_iload_n hC (gDec_at DX4_figureFits_0 4 rfl) rfl ?_
  refine g_tableIn hC (gDec_at DX4_figureFits_0 5 rfl) 32 (by decide) (by decide) rfl (by decide) ?_
  refine g_iload_n hC (gDec_at DX4_figureFits_0 6 rfl) rfl ?_
  refine g_iconst hC (gDec_at DX4_figureFits_0 7 rfl) (v := nI 1) (by decide) ?_
  refine g_icmp_lt hC (gDec_at DX4_figureFits_0 8 rfl) 47 (by decide) (fun h34 => ?_) (fun h34 => ?_)
  · skip
    rw [fg_lt hb (by omega)] at h34
    refine g_iconst hC (gDec_at DX4_figureFits_0 14 rfl) (v := nI 0) (by decide) ?_
    refine g_zret hC (Or.inl rfl) (gDec_at DX4_figureFits_0 15 rfl) ?_
    exact ⟨rfl, Or.inr ⟨rfl, by unfold ffit; omega⟩⟩
  · skip
    rw [fg_lt hb (by omega)] at h34
    refine g_iload_n hC (gDec_at DX4_figureFits_0 9 rfl) rfl ?_
    refine g_bipush hC (gDec_at DX4_figureFits_0 10 rfl) (v := nI 9) (by decide) ?_
    refine g_icmp_gt hC (gDec_at DX4_figureFits_0 11 rfl) 47 (by decide) (fun h40 => ?_) (fun h40 => ?_)
    · skip
      rw [fg_gt hb (by omega)] at h40
      refine g_iconst hC (gDec_at DX4_figureFits_0 14 rfl) (v := nI 0) (by decide) ?_
      refine g_zret hC (Or.inl rfl) (gDec_at DX4_figureFits_0 15 rfl) ?_
      exact ⟨rfl, Or.inr ⟨rfl, by unfold ffit; omega⟩⟩
    · skip
      rw [fg_gt hb (by omega)] at h40
      refine g_iconst hC (gDec_at DX4_figureFits_0 12 rfl) (v := nI 1) (by decide) ?_
      refine g_goto hC (gDec_at DX4_figureFits_0 13 rfl) 48 (by decide) ?_
      refine g_zret hC (Or.inr rfl) (gDec_at DX4_figureFits_0 15 rfl) ?_
      exact ⟨rfl, Or.inl ⟨rfl, by unfold ffit; omega⟩⟩

set_option maxRecDepth 100000 in
set_option maxHeartbeats 4000000 in
theorem c_X4_figureFits_1 (q : gQ3) {M : gM} {tl : Nat} {tb : Nat → Nat} (hT : cT M tl tb) {i : Nat} (hi : i < tl) : gCt (wC q) yX4_figureFits cX4_figureFits 4 (some .boolean) 2 [.ref (q.2.2 1), .int (nI i), .int (nI 1)] M (fun v M' => M' = M ∧ ((v = some (.int 1) ∧ ffit 1 (tb (i - 1)) (tb i)) ∨ (v = some (.int 0) ∧ ¬ ffit 1 (tb (i - 1)) (tb i)))) := by
  refine gMet RX4 (by decide +kernel) rfl (Nat.le_of_ble_eq_true rfl) (fun X hC => ?_)
  have hC : gC X (wC q) cX4_figureFits 4 RX4 (some .boolean) 2 := hC
  show gG X (wC q) _ 4 M 0 [(0, .ref (q.2.2 1)), (1, .int (nI i)), (2, .int (nI 1))] []
  have ht := hT.2.1
  have hb := (hT.2.2 i hi).2
  refine g_aload_n hC (gDec_at DX4_figureFits_0 0 rfl) rfl ?_
  refine g_iload_n hC (gDec_at DX4_figureFits_0 1 rfl) rfl ?_
  refine g_callVd (w := wC q) hC 1 (c_X4_figureAt q hT (i := i) (by omega)) vf_X4_figureAt ml_X4_34 (by decide) (show 1 < 63 from by decide) rfl rfl rfl rfl rfl (Nat.le_of_ble_eq_true rfl) (gDec_at DX4_figureFits_0 2 rfl) ?_
  refine g_istore_n hC (gDec_at DX4_figureFits_0 3 rfl) (by decide) (L' := [(3, .int (fg (tb i))), (0, .ref (q.2.2 1)), (1, .int (nI i)), (2, .int (nI 1))]) rfl ?_
  refine g_iload_n hC (gDec_at DX4_figureFits_0 4 rfl) rfl ?_
  refine g_tableIn hC (gDec_at DX4_figureFits_0 5 rfl) 49 (by decide) (by decide) rfl (by decide) ?_
  refine g_iload_n hC (gDec_at DX4_figureFits_0 16 rfl) rfl ?_
  refine g_if_lt hC (gDec_at DX4_figureFits_0 17 rfl) 62 (by decide) (fun h50 => ?_) (fun h50 => ?_)
  · skip
    rw [fg_neg hb] at h50
    refine g_iconst hC (gDec_at DX4_figureFits_0 23 rfl) (v := nI 0) (by decide) ?_
    refine g_zret hC (Or.inl rfl) (gDec_at DX4_figureFits_0 24 rfl) ?_
    exact ⟨rfl, Or.inr ⟨rfl, by unfold ffit; omega⟩⟩
  · skip
    rw [fg_neg hb] at h50
    refine g_iload_n hC (gDec_at DX4_figureFits_0 18 rfl) rfl ?_
    refine g_iconst hC (gDec_at DX4_figureFits_0 19 rfl) (v := nI 4) (by decide) ?_
    refine g_icmp_gt hC (gDec_at DX4_figureFits_0 20 rfl) 62 (by decide) (fun h55 => ?_) (fun h55 => ?_)
    · skip
      rw [fg_gt hb (by omega)] at h55
      refine g_iconst hC (gDec_at DX4_figureFits_0 23 rfl) (v := nI 0) (by decide) ?_
      refine g_zret hC (Or.inl rfl) (gDec_at DX4_figureFits_0 24 rfl) ?_
      exact ⟨rfl, Or.inr ⟨rfl, by unfold ffit; omega⟩⟩
    · skip
      rw [fg_gt hb (by omega)] at h55
      refine g_iconst hC (gDec_at DX4_figureFits_0 21 rfl) (v := nI 1) (by decide) ?_
      refine g_goto hC (gDec_at DX4_figureFits_0 22 rfl) 63 (by decide) ?_
      refine g_zret hC (Or.inr rfl) (gDec_at DX4_figureFits_0 24 rfl) ?_
      exact ⟨rfl, Or.inl ⟨rfl, by unfold ffit; omega⟩⟩

set_option maxRecDepth 100000 in
set_option maxHeartbeats 4000000 in
theorem c_X4_figureFits_2 (q : gQ3) {M : gM} {tl : Nat} {tb : Nat → Nat} (hT : cT M tl tb) {i : Nat} (hi : i < tl) (h1 : 1 ≤ i) : gCt (wC q) yX4_figureFits cX4_figureFits 4 (some .boolean) 2 [.ref (q.2.2 1), .int (nI i), .int (nI 2)] M (fun v M' => M' = M ∧ ((v = some (.int 1) ∧ ffit 2 (tb (i - 1)) (tb i)) ∨ (v = some (.int 0) ∧ ¬ ffit 2 (tb (i - 1)) (tb i)))) := by
  refine gMet RX4 (by decide +kernel) rfl (Nat.le_of_ble_eq_true rfl) (fun X hC => ?_)
  have hC : gC X (wC q) cX4_figureFits 4 RX4 (some .boolean) 2 := hC
  show gG X (wC q) _ 4 M 0 [(0, .ref (q.2.2 1)), (1, .int (nI i)), (2, .int (nI 2))] []
  have ht := hT.2.1
  have hb := (hT.2.2 i hi).2
  refine g_aload_n hC (gDec_at DX4_figureFits_0 0 rfl) rfl ?_
  refine g_iload_n hC (gDec_at DX4_figureFits_0 1 rfl) rfl ?_
  refine g_callVd (w := wC q) hC 1 (c_X4_figureAt q hT (i := i) (by omega)) vf_X4_figureAt ml_X4_34 (by decide) (show 1 < 63 from by decide) rfl rfl rfl rfl rfl (Nat.le_of_ble_eq_true rfl) (gDec_at DX4_figureFits_0 2 rfl) ?_
  refine g_istore_n hC (gDec_at DX4_figureFits_0 3 rfl) (by decide) (L' := [(3, .int (fg (tb i))), (0, .ref (q.2.2 1)), (1, .int (nI i)), (2, .int (nI 2))]) rfl ?_
  refine g_iload_n hC (gDec_at DX4_figureFits_0 4 rfl) rfl ?_
  refine g_tableIn hC (gDec_at DX4_figureFits_0 5 rfl) 64 (by decide) (by decide) rfl (by decide) ?_
  refine g_iload_n hC (gDec_at DX4_figureFits_0 25 rfl) rfl ?_
  refine g_if_lt hC (gDec_at DX4_figureFits_0 26 rfl) 97 (by decide) (fun h65 => ?_) (fun h65 => ?_)
  · skip
    rw [fg_neg hb] at h65
    refine g_iconst hC (gDec_at DX4_figureFits_0 44 rfl) (v := nI 0) (by decide) ?_
    refine g_zret hC (Or.inl rfl) (gDec_at DX4_figureFits_0 45 rfl) ?_
    exact ⟨rfl, Or.inr ⟨rfl, by unfold ffit; omega⟩⟩
  · skip
    rw [fg_neg hb] at h65
    refine g_iload_n hC (gDec_at DX4_figureFits_0 27 rfl) rfl ?_
    refine g_bipush hC (gDec_at DX4_figureFits_0 28 rfl) (v := nI 9) (by decide) ?_
    refine g_icmp_gt hC (gDec_at DX4_figureFits_0 29 rfl) 97 (by decide) (fun h71 => ?_) (fun h71 => ?_)
    · skip
      rw [fg_gt hb (by omega)] at h71
      refine g_iconst hC (gDec_at DX4_figureFits_0 44 rfl) (v := nI 0) (by decide) ?_
      refine g_zret hC (Or.inl rfl) (gDec_at DX4_figureFits_0 45 rfl) ?_
      exact ⟨rfl, Or.inr ⟨rfl, by unfold ffit; omega⟩⟩
    · skip
      rw [fg_gt hb (by omega)] at h71
      refine g_aload_n hC (gDec_at DX4_figureFits_0 30 rfl) rfl ?_
      refine g_bipush hC (gDec_at DX4_figureFits_0 31 rfl) (v := nI 10) (by decide) ?_
      refine g_aload_n hC (gDec_at DX4_figureFits_0 32 rfl) rfl ?_
      refine g_iload_n hC (gDec_at DX4_figureFits_0 33 rfl) rfl ?_
      refine g_iconst hC (gDec_at DX4_figureFits_0 34 rfl) (v := nI 1) (by decide) ?_
      refine g_isubN hC (by omega) (gDec_at DX4_figureFits_0 35 rfl) ?_
      refine g_callVd (w := wC q) hC 1 (c_X4_figureAt q hT (i := (i - 1)) (by omega)) vf_X4_figureAt ml_X4_34 (by decide) (show 1 < 63 from by decide) rfl rfl rfl rfl rfl (Nat.le_of_ble_eq_true rfl) (gDec_at DX4_figureFits_0 36 rfl) ?_
      refine g_imul hC (gDec_at DX4_figureFits_0 37 rfl) rfl ?_
      refine g_iload_n hC (gDec_at DX4_figureFits_0 38 rfl) rfl ?_
      refine g_iadd hC (gDec_at DX4_figureFits_0 39 rfl) rfl ?_
      refine g_callV (w := wC q) hC (i := 1) (c_X4_depthFits q) vf_X4_depthFits ml_X4_37 (by decide) (show 1 < 63 from by decide) rfl rfl rfl rfl rfl (Nat.le_of_ble_eq_true rfl) (gDec_at DX4_figureFits_0 40 rfl) (fun v_87 M_87 hq_87 => ?_)
      obtain ⟨rfl, hq⟩ := hq_87
      rcases hq with ⟨rfl, hg⟩ | ⟨rfl, hg⟩
      · skip
        have hg2 := fg_dep (hT.2.2 (i - 1) (by omega)).2 hb
        unfold gin at hg
        refine g_if_eqN hC (by decide) (gDec_at DX4_figureFits_0 41 rfl) 97 (by decide) (fun h => absurd h (by decide)) (fun h => ?_)
        refine g_iconst hC (gDec_at DX4_figureFits_0 42 rfl) (v := nI 1) (by decide) ?_
        refine g_goto hC (gDec_at DX4_figureFits_0 43 rfl) 98 (by decide) ?_
        refine g_zret hC (Or.inr rfl) (gDec_at DX4_figureFits_0 45 rfl) ?_
        exact ⟨rfl, Or.inl ⟨rfl, by unfold ffit; omega⟩⟩
      · skip
        have hg2 := fg_dep (hT.2.2 (i - 1) (by omega)).2 hb
        unfold gin at hg
        refine g_if_eqN hC (by decide) (gDec_at DX4_figureFits_0 41 rfl) 97 (by decide) (fun h => ?_) (fun h => absurd h (by decide))
        refine g_iconst hC (gDec_at DX4_figureFits_0 44 rfl) (v := nI 0) (by decide) ?_
        refine g_zret hC (Or.inl rfl) (gDec_at DX4_figureFits_0 45 rfl) ?_
        exact ⟨rfl, Or.inr ⟨rfl, by unfold ffit; omega⟩⟩

set_option maxRecDepth 100000 in
set_option maxHeartbeats 4000000 in
theorem c_X4_figureFits_3 (q : gQ3) {M : gM} {tl : Nat} {tb : Nat → Nat} (hT : cT M tl tb) {i : Nat} (hi : i < tl) : gCt (wC q) yX4_figureFits cX4_figureFits 4 (some .boolean) 2 [.ref (q.2.2 1), .int (nI i), .int (nI 3)] M (fun v M' => M' = M ∧ ((v = some (.int 1) ∧ ffit 3 (tb (i - 1)) (tb i)) ∨ (v = some (.int 0) ∧ ¬ ffit 3 (tb (i - 1)) (tb i)))) := by
  refine gMet RX4 (by decide +kernel) rfl (Nat.le_of_ble_eq_true rfl) (fun X hC => ?_)
  have hC : gC X (wC q) cX4_figureFits 4 RX4 (some .boolean) 2 := hC
  show gG X (wC q) _ 4 M 0 [(0, .ref (q.2.2 1)), (1, .int (nI i)), (2, .int (nI 3))] []
  have ht := hT.2.1
  have hb := (hT.2.2 i hi).2
  refine g_aload_n hC (gDec_at DX4_figureFits_0 0 rfl) rfl ?_
  refine g_iload_n hC (gDec_at DX4_figureFits_0 1 rfl) rfl ?_
  refine g_callVd (w := wC q) hC 1 (c_X4_figureAt q hT (i := i) (by omega)) vf_X4_figureAt ml_X4_34 (by decide) (show 1 < 63 from by decide) rfl rfl rfl rfl rfl (Nat.le_of_ble_eq_true rfl) (gDec_at DX4_figureFits_0 2 rfl) ?_
  refine g_istore_n hC (gDec_at DX4_figureFits_0 3 rfl) (by decide) (L' := [(3, .int (fg (tb i))), (0, .ref (q.2.2 1)), (1, .int (nI i)), (2, .int (nI 3))]) rfl ?_
  refine g_iload_n hC (gDec_at DX4_figureFits_0 4 rfl) rfl ?_
  refine g_tableOut hC (gDec_at DX4_figureFits_0 5 rfl) 99 (by decide) (by decide) ?_
  refine g_iload_n hC (gDec_at DX4_figureFits_0 46 rfl) rfl ?_
  refine g_if_lt hC (gDec_at DX4_figureFits_0 47 rfl) 112 (by decide) (fun h100 => ?_) (fun h100 => ?_)
  · skip
    rw [fg_neg hb] at h100
    refine g_iconst hC (gDec_at DX4_figureFits_0 53 rfl) (v := nI 0) (by decide) ?_
    refine g_zret hC (Or.inl rfl) (gDec_at DX4_figureFits_0 54 rfl) ?_
    exact ⟨rfl, Or.inr ⟨rfl, by unfold ffit; omega⟩⟩
  · skip
    rw [fg_neg hb] at h100
    refine g_iload_n hC (gDec_at DX4_figureFits_0 48 rfl) rfl ?_
    refine g_iconst hC (gDec_at DX4_figureFits_0 49 rfl) (v := nI 2) (by decide) ?_
    refine g_icmp_gt hC (gDec_at DX4_figureFits_0 50 rfl) 112 (by decide) (fun h105 => ?_) (fun h105 => ?_)
    · skip
      rw [fg_gt hb (by omega)] at h105
      refine g_iconst hC (gDec_at DX4_figureFits_0 53 rfl) (v := nI 0) (by decide) ?_
      refine g_zret hC (Or.inl rfl) (gDec_at DX4_figureFits_0 54 rfl) ?_
      exact ⟨rfl, Or.inr ⟨rfl, by unfold ffit; omega⟩⟩
    · skip
      rw [fg_gt hb (by omega)] at h105
      refine g_iconst hC (gDec_at DX4_figureFits_0 51 rfl) (v := nI 1) (by decide) ?_
      refine g_goto hC (gDec_at DX4_figureFits_0 52 rfl) 113 (by decide) ?_
      refine g_zret hC (Or.inr rfl) (gDec_at DX4_figureFits_0 54 rfl) ?_
      exact ⟨rfl, Or.inl ⟨rfl, by unfold ffit; omega⟩⟩
