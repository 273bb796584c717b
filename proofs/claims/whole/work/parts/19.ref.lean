/-! THE REFERENCE: what it holds; its small helpers -/
/-- the reference holds B -/
def mC (M : gM) (B : gB) : Prop := M.1 0 4 = nI (B 9 0) ∧ M.1 0 11 = bk (B 9 1) ∧ (∀ k, k < 3 → M.1 11 (3 * k) = nI (B 6 k) ∧ M.1 11 (3 * k + 1) = nI (B 7 k) ∧ M.1 11 (3 * k + 2) = nI (B 8 k)) ∧ ∀ j, j < 12 → j % 6 < B 9 0 → M.1 2 j = nI (B 0 j) ∧ M.1 3 j = nI (B 1 j) ∧ M.1 4 j = nI (B 2 j) ∧ M.1 5 j = nI (B 3 j) ∧ M.1 6 j = nI (B 4 j) ∧ M.1 7 j = nI (B 5 j)
def mI (M : gM) (B : gB) : Prop := M.1 0 0 = nI 0 ∧ mC M B ∧ bV B
def mT (M : gM) (tl : Nat) (tb : Nat → Nat) : Prop := M.1 0 2 = nI tl ∧ tl ≤ 60 ∧ ∀ i, i < tl → M.1 1 i = nI (tb i) ∧ tb i < 256
theorem gupd_id {M : gM} {i k : Nat} {x : Int32} (h : M.1 i k = x) : gupd M i k x = M := by
  subst h
  unfold gupd
  refine Prod.ext (funext fun j => ?_) rfl
  show (if j = i then upd (M.1 i) k (M.1 i k) else M.1 j) = M.1 j
  by_cases e : j = i
  · subst e
    rw [if_pos rfl]
    funext c
    unfold upd
    by_cases e2 : c = k
    · rw [if_pos e2, e2]
    · rw [if_neg e2]
  · rw [if_neg e]
section MI
variable {M : gM} {B : gB}
theorem mi_0 (h : mI M B) : gupd M 0 0 (nI 0) = M := gupd_id h.1
theorem mi_many (h : mI M B) : M.1 0 4 = nI (B 9 0) := h.2.1.1
theorem mi_brk (h : mI M B) : M.1 0 11 = bk (B 9 1) := h.2.1.2.1
theorem mi_e (h : mI M B) {k : Nat} (hk : k < 3) : M.1 11 (3 * k) = nI (B 6 k) := (h.2.1.2.2.1 k hk).1
theorem mi_pull (h : mI M B) {k : Nat} (hk : k < 3) : M.1 11 (3 * k + 1) = nI (B 7 k) := (h.2.1.2.2.1 k hk).2.1
theorem mi_press (h : mI M B) {k : Nat} (hk : k < 3) : M.1 11 (3 * k + 2) = nI (B 8 k) := (h.2.1.2.2.1 k hk).2.2
theorem mi_f0 (h : mI M B) {j : Nat} (hj : j < 12) (ht : j % 6 < B 9 0) : M.1 2 j = nI (B 0 j) := (h.2.1.2.2.2 j hj ht).1
theorem mi_f1 (h : mI M B) {j : Nat} (hj : j < 12) (ht : j % 6 < B 9 0) : M.1 3 j = nI (B 1 j) := (h.2.1.2.2.2 j hj ht).2.1
theorem mi_f2 (h : mI M B) {j : Nat} (hj : j < 12) (ht : j % 6 < B 9 0) : M.1 4 j = nI (B 2 j) := (h.2.1.2.2.2 j hj ht).2.2.1
theorem mi_f3 (h : mI M B) {j : Nat} (hj : j < 12) (ht : j % 6 < B 9 0) : M.1 5 j = nI (B 3 j) := (h.2.1.2.2.2 j hj ht).2.2.2.1
theorem mi_f4 (h : mI M B) {j : Nat} (hj : j < 12) (ht : j % 6 < B 9 0) : M.1 6 j = nI (B 4 j) := (h.2.1.2.2.2 j hj ht).2.2.2.2.1
theorem mi_f5 (h : mI M B) {j : Nat} (hj : j < 12) (ht : j % 6 < B 9 0) : M.1 7 j = nI (B 5 j) := (h.2.1.2.2.2 j hj ht).2.2.2.2.2
end MI
theorem toL_int (x : Int32) : (Int32.toInt64 x).toInt = x.toInt := Int32.toInt_toInt64 x
theorem gsm_cut {f : Nat → Nat} {n : Nat} (h : ∀ k, n ≤ k → f k = 0) : ∀ m, n ≤ m → gsm f m = gsm f n
  | 0, hm => by rw [show n = 0 by omega]
  | m + 1, hm => by
    by_cases e : n = m + 1
    · rw [e]
    · rw [gsm_s0 (h m (by omega)), gsm_cut h m (by omega)]
set_option maxRecDepth 100000 in
set_option maxHeartbeats 4000000 in
theorem c_X7_in_yes (q : gQ3) {M : gM} {v a b : Nat} (h1 : a ≤ v) (h2 : v ≤ b) (h3 : b < 9223372036854775808) : gCt (wM q) yX7_in cX7_in 6 (some .boolean) 0 [.long (lN v), .long (lN a), .long (lN b)] M (gR (some (.int (nI 1))) M) := by
  refine gMet RX7 (by decide +kernel) rfl (Nat.le_of_ble_eq_true rfl) (fun X hC => ?_)
  have hC : gC X (wM q) cX7_in 6 RX7 (some .boolean) 0 := hC
  show gG X (wM q) _ 6 M 0 [(0, .long (lN v)), (2, .long (lN a)), (4, .long (lN b))] []
  refine g_lload_n hC (gDec_at DX7_in_0 0 rfl) rfl ?_
  refine g_lload_n hC (gDec_at DX7_in_0 1 rfl) rfl ?_
  refine g_lc_ltN hC (by omega) (by omega) (gDec_at DX7_in_0 2 rfl) (gDec_at DX7_in_0 3 rfl) 17 (by decide) (fun h2 => ?_) (fun h2 => ?_)
  · skip
    omega
  · skip
    refine g_lload_n hC (gDec_at DX7_in_0 4 rfl) rfl ?_
    refine g_lload hC (gDec_at DX7_in_0 5 rfl) rfl ?_
    refine g_lc_gtN hC (by omega) (by omega) (gDec_at DX7_in_0 6 rfl) (gDec_at DX7_in_0 7 rfl) 17 (by decide) (fun h9 => ?_) (fun h9 => ?_)
    · skip
      omega
    · skip
      refine g_iconst hC (gDec_at DX7_in_0 8 rfl) (v := nI 1) (by decide) ?_
      refine g_goto hC (gDec_at DX7_in_0 9 rfl) 18 (by decide) ?_
      refine g_zret hC (Or.inr rfl) (gDec_at DX7_in_0 11 rfl) ?_
      exact ⟨rfl, rfl⟩

set_option maxRecDepth 100000 in
set_option maxHeartbeats 4000000 in
theorem c_X7_in_no (q : gQ3) {M : gM} {x : Int32} {a b : Nat} (ha : a < 2147483648) (hb : b < 2147483648) (hx : ¬ gin x a b) : gCt (wM q) yX7_in cX7_in 6 (some .boolean) 0 [.long (Int32.toInt64 x), .long (lN a), .long (lN b)] M (gR (some (.int (nI 0))) M) := by
  refine gMet RX7 (by decide +kernel) rfl (Nat.le_of_ble_eq_true rfl) (fun X hC => ?_)
  have hC : gC X (wM q) cX7_in 6 RX7 (some .boolean) 0 := hC
  show gG X (wM q) _ 6 M 0 [(0, .long (Int32.toInt64 x)), (2, .long (lN a)), (4, .long (lN b))] []
  refine g_lload_n hC (gDec_at DX7_in_0 0 rfl) rfl ?_
  refine g_lload_n hC (gDec_at DX7_in_0 1 rfl) rfl ?_
  refine g_lc_lt hC (gDec_at DX7_in_0 2 rfl) (gDec_at DX7_in_0 3 rfl) 17 (by decide) (fun h2 => ?_) (fun h2 => ?_)
  · skip
    refine g_iconst hC (gDec_at DX7_in_0 10 rfl) (v := nI 0) (by decide) ?_
    refine g_zret hC (Or.inl rfl) (gDec_at DX7_in_0 11 rfl) ?_
    exact ⟨rfl, rfl⟩
  · skip
    refine g_lload_n hC (gDec_at DX7_in_0 4 rfl) rfl ?_
    refine g_lload hC (gDec_at DX7_in_0 5 rfl) rfl ?_
    refine g_lc_gt hC (gDec_at DX7_in_0 6 rfl) (gDec_at DX7_in_0 7 rfl) 17 (by decide) (fun h9 => ?_) (fun h9 => ?_)
    · skip
      refine g_iconst hC (gDec_at DX7_in_0 10 rfl) (v := nI 0) (by decide) ?_
      refine g_zret hC (Or.inl rfl) (gDec_at DX7_in_0 11 rfl) ?_
      exact ⟨rfl, rfl⟩
    · skip
      refine g_iconst hC (gDec_at DX7_in_0 8 rfl) (v := nI 1) (by decide) ?_
      refine g_goto hC (gDec_at DX7_in_0 9 rfl) 18 (by decide) ?_
      refine g_zret hC (Or.inr rfl) (gDec_at DX7_in_0 11 rfl) ?_
      exact absurd (show gin x a b from by rw [Int64.lt_iff_toInt_lt, toL_int, pk_lT (by omega)] at h2 h9; unfold gin; omega) hx

set_option maxRecDepth 100000 in
set_option maxHeartbeats 4000000 in
theorem c_X7_noPlace_in (q : gQ3) {M : gM} {B : gB} (hI : mI M B) {j : Nat} (hj : j < 12) (ht : j % 6 < B 9 0) : gCt (wM q) yX7_noPlace cX7_noPlace 2 (some .boolean) 0 [.ref (q.2.2 0), .int (nI (10 * (j / 6) + j % 6))] M (gR (some (.int (nI 0))) M) := by
  refine gMet RX7 (by decide +kernel) rfl (Nat.le_of_ble_eq_true rfl) (fun X hC => ?_)
  have hC : gC X (wM q) cX7_noPlace 2 RX7 (some .boolean) 0 := hC
  show gG X (wM q) _ 2 M 0 [(0, .ref (q.2.2 0)), (1, .int (nI (10 * (j / 6) + j % 6)))] []
  have hm := bv_many hI.2.2
  refine g_iload_n hC (gDec_at DX7_noPlace_0 0 rfl) rfl ?_
  refine g_if_ltN hC (by omega) (gDec_at DX7_noPlace_0 1 rfl) ?_ 23 (by decide)
  refine g_iload_n hC (gDec_at DX7_noPlace_0 2 rfl) rfl ?_
  refine g_bipush hC (gDec_at DX7_noPlace_0 3 rfl) (v := nI 10) (by decide) ?_
  refine g_idivN hC (by omega) (by omega) (by omega) (gDec_at DX7_noPlace_0 4 rfl) ?_
  refine g_iconst hC (gDec_at DX7_noPlace_0 5 rfl) (v := nI 1) (by decide) ?_
  refine g_icmp_gtN hC (by omega) (by omega) (gDec_at DX7_noPlace_0 6 rfl) 23 (by decide) (fun h9 => ?_) (fun h9 => ?_)
  · skip
    exact absurd h9 (by omega)
  · skip
    refine g_iload_n hC (gDec_at DX7_noPlace_0 7 rfl) rfl ?_
    refine g_bipush hC (gDec_at DX7_noPlace_0 8 rfl) (v := nI 10) (by decide) ?_
    refine g_iremN hC (by omega) (by omega) (by omega) (gDec_at DX7_noPlace_0 9 rfl) ?_
    refine g_aload_n hC (gDec_at DX7_noPlace_0 10 rfl) rfl ?_
    refine g_get (w := wM q) hC 0 (v := .int (nI (B 9 0))) fl_X7_13 (show 0 < 17 from by decide) rfl (g_sv (mi_many hI)) (gDec_at DX7_noPlace_0 11 rfl) ?_
    refine g_icmp_ltN hC (by omega) (by omega) (gDec_at DX7_noPlace_0 12 rfl) 27 (by decide) (fun h20 => ?_) (fun h20 => ?_)
    · skip
      refine g_iconst hC (gDec_at DX7_noPlace_0 15 rfl) (v := nI 0) (by decide) ?_
      refine g_zret hC (Or.inl rfl) (gDec_at DX7_noPlace_0 16 rfl) ?_
      exact ⟨rfl, rfl⟩
    · skip
      exact absurd h20 (by omega)

set_option maxRecDepth 100000 in
set_option maxHeartbeats 4000000 in
theorem c_X7_noPlace_out (q : gQ3) {M : gM} {B : gB} (hI : mI M B) {x0 : Int32} (hx0 : ¬ isPl B x0) : gCt (wM q) yX7_noPlace cX7_noPlace 2 (some .boolean) 0 [.ref (q.2.2 0), .int x0] M (gR (some (.int (nI 1))) M) := by
  refine gMet RX7 (by decide +kernel) rfl (Nat.le_of_ble_eq_true rfl) (fun X hC => ?_)
  have hC : gC X (wM q) cX7_noPlace 2 RX7 (some .boolean) 0 := hC
  show gG X (wM q) _ 2 M 0 [(0, .ref (q.2.2 0)), (1, .int x0)] []
  have hm := bv_many hI.2.2
  refine g_iload_n hC (gDec_at DX7_noPlace_0 0 rfl) rfl ?_
  refine g_if_lt hC (gDec_at DX7_noPlace_0 1 rfl) 23 (by decide) (fun h1 => ?_) (fun h1 => ?_)
  · skip
    refine g_iconst hC (gDec_at DX7_noPlace_0 13 rfl) (v := nI 1) (by decide) ?_
    refine g_goto hC (gDec_at DX7_noPlace_0 14 rfl) 28 (by decide) ?_
    refine g_zret hC (Or.inr rfl) (gDec_at DX7_noPlace_0 16 rfl) ?_
    exact ⟨rfl, rfl⟩
  · skip
    obtain ⟨k, -, hk, rfl⟩ := gin_ex (x := x0) (a := 0) (b := 2147483647) ⟨by rw [lt_I, zI] at h1; omega, by have := Int32.toInt_lt x0; omega⟩
    refine g_iload_n hC (gDec_at DX7_noPlace_0 2 rfl) rfl ?_
    refine g_bipush hC (gDec_at DX7_noPlace_0 3 rfl) (v := nI 10) (by decide) ?_
    refine g_idivN hC (by omega) (by omega) (by omega) (gDec_at DX7_noPlace_0 4 rfl) ?_
    refine g_iconst hC (gDec_at DX7_noPlace_0 5 rfl) (v := nI 1) (by decide) ?_
    refine g_icmp_gtN hC (by omega) (by omega) (gDec_at DX7_noPlace_0 6 rfl) 23 (by decide) (fun h9 => ?_) (fun h9 => ?_)
    · skip
      refine g_iconst hC (gDec_at DX7_noPlace_0 13 rfl) (v := nI 1) (by decide) ?_
      refine g_goto hC (gDec_at DX7_noPlace_0 14 rfl) 28 (by decide) ?_
      refine g_zret hC (Or.inr rfl) (gDec_at DX7_noPlace_0 16 rfl) ?_
      exact ⟨rfl, rfl⟩
    · skip
      refine g_iload_n hC (gDec_at DX7_noPlace_0 7 rfl) rfl ?_
      refine g_bipush hC (gDec_at DX7_noPlace_0 8 rfl) (v := nI 10) (by decide) ?_
      refine g_iremN hC (by omega) (by omega) (by omega) (gDec_at DX7_noPlace_0 9 rfl) ?_
      refine g_aload_n hC (gDec_at DX7_noPlace_0 10 rfl) rfl ?_
      refine g_get (w := wM q) hC 0 (v := .int (nI (B 9 0))) fl_X7_13 (show 0 < 17 from by decide) rfl (g_sv (mi_many hI)) (gDec_at DX7_noPlace_0 11 rfl) ?_
      refine g_icmp_ltN hC (by omega) (by omega) (gDec_at DX7_noPlace_0 12 rfl) 27 (by decide) (fun h20 => ?_) (fun h20 => ?_)
      · skip
        exact absurd ⟨6 * (k / 10) + k % 10, by omega, by omega, congrArg nI (by omega)⟩ hx0
      · skip
        refine g_iconst hC (gDec_at DX7_noPlace_0 13 rfl) (v := nI 1) (by decide) ?_
        refine g_goto hC (gDec_at DX7_noPlace_0 14 rfl) 28 (by decide) ?_
        refine g_zret hC (Or.inr rfl) (gDec_at DX7_noPlace_0 16 rfl) ?_
        exact ⟨rfl, rfl⟩

set_option maxRecDepth 100000 in
set_option maxHeartbeats 4000000 in
theorem c_X7_index (q : gQ3) {M : gM} {j : Nat} (hj : j < 12) : gCt (wM q) yX7_index cX7_index 1 (some .int) 0 [.int (nI (10 * (j / 6) + j % 6))] M (gR (some (.int (nI j))) M) := by
  refine gMet RX7 (by decide +kernel) rfl (Nat.le_of_ble_eq_true rfl) (fun X hC => ?_)
  have hC : gC X (wM q) cX7_index 1 RX7 (some .int) 0 := hC
  show gG X (wM q) _ 1 M 0 [(0, .int (nI (10 * (j / 6) + j % 6)))] []
  refine g_bipush hC (gDec_at DX7_index_0 0 rfl) (v := nI 6) (by decide) ?_
  refine g_iload_n hC (gDec_at DX7_index_0 1 rfl) rfl ?_
  refine g_bipush hC (gDec_at DX7_index_0 2 rfl) (v := nI 10) (by decide) ?_
  refine g_idivN hC (by omega) (by omega) (by omega) (gDec_at DX7_index_0 3 rfl) ?_
  refine g_imulN hC (gDec_at DX7_index_0 4 rfl) ?_
  refine g_iload_n hC (gDec_at DX7_index_0 5 rfl) rfl ?_
  refine g_bipush hC (gDec_at DX7_index_0 6 rfl) (v := nI 10) (by decide) ?_
  refine g_iremN hC (by omega) (by omega) (by omega) (gDec_at DX7_index_0 7 rfl) ?_
  refine g_iaddN hC (gDec_at DX7_index_0 8 rfl) ?_
  refine g_iret hC (gDec_at DX7_index_0 9 rfl) ?_
  exact ⟨congrArg (fun z => some (Value.int (nI z))) (by omega), rfl⟩

set_option maxRecDepth 100000 in
set_option maxHeartbeats 4000000 in
theorem c_X7_code (q : gQ3) {M : gM} {i : Nat} (hi : i < 12) : gCt (wM q) yX7_code cX7_code 1 (some .int) 0 [.int (nI i)] M (gR (some (.int (nI (sTold i)))) M) := by
  refine gMet RX7 (by decide +kernel) rfl (Nat.le_of_ble_eq_true rfl) (fun X hC => ?_)
  have hC : gC X (wM q) cX7_code 1 RX7 (some .int) 0 := hC
  show gG X (wM q) _ 1 M 0 [(0, .int (nI i))] []
  refine g_bipush hC (gDec_at DX7_code_0 0 rfl) (v := nI 10) (by decide) ?_
  refine g_iload_n hC (gDec_at DX7_code_0 1 rfl) rfl ?_
  refine g_bipush hC (gDec_at DX7_code_0 2 rfl) (v := nI 6) (by decide) ?_
  refine g_idivN hC (by omega) (by omega) (by omega) (gDec_at DX7_code_0 3 rfl) ?_
  refine g_imulN hC (gDec_at DX7_code_0 4 rfl) ?_
  refine g_iload_n hC (gDec_at DX7_code_0 5 rfl) rfl ?_
  refine g_bipush hC (gDec_at DX7_code_0 6 rfl) (v := nI 6) (by decide) ?_
  refine g_iremN hC (by omega) (by omega) (by omega) (gDec_at DX7_code_0 7 rfl) ?_
  refine g_iaddN hC (gDec_at DX7_code_0 8 rfl) ?_
  refine g_iret hC (gDec_at DX7_code_0 9 rfl) ?_
  exact ⟨rfl, rfl⟩

set_option maxRecDepth 100000 in
set_option maxHeartbeats 4000000 in
theorem c_X7_isThere (q : gQ3) {M : gM} {B : gB} (hI : mI M B) {i : Nat} (hi : i < 12) : gCt (wM q) yX7_isThere cX7_isThere 2 (some .boolean) 0 [.ref (q.2.2 0), .int (nI i)] M (gR (some (.int (gb (i % 6 < B 9 0)))) M) := by
  refine gMet RX7 (by decide +kernel) rfl (Nat.le_of_ble_eq_true rfl) (fun X hC => ?_)
  have hC : gC X (wM q) cX7_isThere 2 RX7 (some .boolean) 0 := hC
  show gG X (wM q) _ 2 M 0 [(0, .ref (q.2.2 0)), (1, .int (nI i))] []
  have hm := bv_many hI.2.2
  refine g_iload_n hC (gDec_at DX7_isThere_0 0 rfl) rfl ?_
  refine g_bipush hC (gDec_at DX7_isThere_0 1 rfl) (v := nI 6) (by decide) ?_
  refine g_iremN hC (by omega) (by omega) (by omega) (gDec_at DX7_isThere_0 2 rfl) ?_
  refine g_aload_n hC (gDec_at DX7_isThere_0 3 rfl) rfl ?_
  refine g_get (w := wM q) hC 0 (v := .int (nI (B 9 0))) fl_X7_13 (show 0 < 17 from by decide) rfl (g_sv (mi_many hI)) (gDec_at DX7_isThere_0 4 rfl) ?_
  refine g_icmp_geN hC (by omega) (by omega) (gDec_at DX7_isThere_0 5 rfl) 15 (by decide) (fun h8 => ?_) (fun h8 => ?_)
  · skip
    refine g_iconst hC (gDec_at DX7_isThere_0 8 rfl) (v := nI 0) (by decide) ?_
    refine g_zret hC (Or.inl rfl) (gDec_at DX7_isThere_0 9 rfl) ?_
    exact ⟨by rw [gb_f (show ¬ i % 6 < B 9 0 by omega)]; rfl, rfl⟩
  · skip
    refine g_iconst hC (gDec_at DX7_isThere_0 6 rfl) (v := nI 1) (by decide) ?_
    refine g_goto hC (gDec_at DX7_isThere_0 7 rfl) 16 (by decide) ?_
    refine g_zret hC (Or.inr rfl) (gDec_at DX7_isThere_0 9 rfl) ?_
    exact ⟨by rw [gb_t (show i % 6 < B 9 0 by omega)]; rfl, rfl⟩

set_option maxRecDepth 100000 in
set_option maxHeartbeats 4000000 in
theorem c_X7_noInches_in (q : gQ3) {M : gM} {k : Nat} (hk : k ≤ 40) : gCt (wM q) yX7_noInches cX7_noInches 1 (some .boolean) 1 [.int (nI k)] M (gR (some (.int (nI 0))) M) := by
  refine gMet RX7 (by decide +kernel) rfl (Nat.le_of_ble_eq_true rfl) (fun X hC => ?_)
  have hC : gC X (wM q) cX7_noInches 1 RX7 (some .boolean) 1 := hC
  show gG X (wM q) _ 1 M 0 [(0, .int (nI k))] []
  refine g_iload_n hC (gDec_at DX7_noInches_0 0 rfl) rfl ?_
  refine g_i2lN hC (by omega) (gDec_at DX7_noInches_0 1 rfl) ?_
  refine g_lconst hC (gDec_at DX7_noInches_0 2 rfl) (v := lN 0) (by decide) ?_
  refine g_ldc2 hC cl_X7_70 (v' := lN 40) (by decide) (gDec_at DX7_noInches_0 3 rfl) ?_
  refine g_callSd (w := wM q) hC (c_X7_in_yes q (v := k) (a := 0) (b := 40) (by omega) (by omega) (by omega)) sf_X7_in ml_X7_72 (by decide) rfl rfl (Nat.le_of_ble_eq_true rfl) (gDec_at DX7_noInches_0 4 rfl) ?_
  refine g_if_neN hC (by decide) (gDec_at DX7_noInches_0 5 rfl) 16 (by decide) (fun h => ?_) (fun h => absurd h (by decide))
  refine g_iconst hC (gDec_at DX7_noInches_0 8 rfl) (v := nI 0) (by decide) ?_
  refine g_zret hC (Or.inl rfl) (gDec_at DX7_noInches_0 9 rfl) ?_
  exact ⟨rfl, rfl⟩

set_option maxRecDepth 100000 in
set_option maxHeartbeats 4000000 in
theorem c_X7_noInches_out (q : gQ3) {M : gM} {x : Int32} (hx : ¬ gin x 0 40) : gCt (wM q) yX7_noInches cX7_noInches 1 (some .boolean) 1 [.int x] M (gR (some (.int (nI 1))) M) := by
  refine gMet RX7 (by decide +kernel) rfl (Nat.le_of_ble_eq_true rfl) (fun X hC => ?_)
  have hC : gC X (wM q) cX7_noInches 1 RX7 (some .boolean) 1 := hC
  show gG X (wM q) _ 1 M 0 [(0, .int x)] []
  refine g_iload_n hC (gDec_at DX7_noInches_0 0 rfl) rfl ?_
  refine g_i2l hC (gDec_at DX7_noInches_0 1 rfl) rfl ?_
  refine g_lconst hC (gDec_at DX7_noInches_0 2 rfl) (v := lN 0) (by decide) ?_
  refine g_ldc2 hC cl_X7_70 (v' := lN 40) (by decide) (gDec_at DX7_noInches_0 3 rfl) ?_
  refine g_callSd (w := wM q) hC (c_X7_in_no q (by omega) (by omega) hx) sf_X7_in ml_X7_72 (by decide) rfl rfl (Nat.le_of_ble_eq_true rfl) (gDec_at DX7_noInches_0 4 rfl) ?_
  refine g_if_neN hC (by decide) (gDec_at DX7_noInches_0 5 rfl) 16 (by decide) (fun h => absurd h (by decide)) (fun h => ?_)
  refine g_iconst hC (gDec_at DX7_noInches_0 6 rfl) (v := nI 1) (by decide) ?_
  refine g_goto hC (gDec_at DX7_noInches_0 7 rfl) 17 (by decide) ?_
  refine g_zret hC (Or.inr rfl) (gDec_at DX7_noInches_0 9 rfl) ?_
  exact ⟨rfl, rfl⟩

set_option maxRecDepth 100000 in
set_option maxHeartbeats 4000000 in
theorem c_X7_noWood_in (q : gQ3) {M : gM} {k : Nat} (hk : k ≤ 2) : gCt (wM q) yX7_noWood cX7_noWood 1 (some .boolean) 1 [.int (nI k)] M (gR (some (.int (nI 0))) M) := by
  refine gMet RX7 (by decide +kernel) rfl (Nat.le_of_ble_eq_true rfl) (fun X hC => ?_)
  have hC : gC X (wM q) cX7_noWood 1 RX7 (some .boolean) 1 := hC
  show gG X (wM q) _ 1 M 0 [(0, .int (nI k))] []
  refine g_iload_n hC (gDec_at DX7_noWood_0 0 rfl) rfl ?_
  refine g_i2lN hC (by omega) (gDec_at DX7_noWood_0 1 rfl) ?_
  refine g_lconst hC (gDec_at DX7_noWood_0 2 rfl) (v := lN 0) (by decide) ?_
  refine g_ldc2 hC cl_X7_76 (v' := lN 2) (by decide) (gDec_at DX7_noWood_0 3 rfl) ?_
  refine g_callSd (w := wM q) hC (c_X7_in_yes q (v := k) (a := 0) (b := 2) (by omega) (by omega) (by omega)) sf_X7_in ml_X7_72 (by decide) rfl rfl (Nat.le_of_ble_eq_true rfl) (gDec_at DX7_noWood_0 4 rfl) ?_
  refine g_if_neN hC (by decide) (gDec_at DX7_noWood_0 5 rfl) 16 (by decide) (fun h => ?_) (fun h => absurd h (by decide))
  refine g_iconst hC (gDec_at DX7_noWood_0 8 rfl) (v := nI 0) (by decide) ?_
  refine g_zret hC (Or.inl rfl) (gDec_at DX7_noWood_0 9 rfl) ?_
  exact ⟨rfl, rfl⟩

set_option maxRecDepth 100000 in
set_option maxHeartbeats 4000000 in
theorem c_X7_noWood_out (q : gQ3) {M : gM} {x : Int32} (hx : ¬ gin x 0 2) : gCt (wM q) yX7_noWood cX7_noWood 1 (some .boolean) 1 [.int x] M (gR (some (.int (nI 1))) M) := by
  refine gMet RX7 (by decide +kernel) rfl (Nat.le_of_ble_eq_true rfl) (fun X hC => ?_)
  have hC : gC X (wM q) cX7_noWood 1 RX7 (some .boolean) 1 := hC
  show gG X (wM q) _ 1 M 0 [(0, .int x)] []
  refine g_iload_n hC (gDec_at DX7_noWood_0 0 rfl) rfl ?_
  refine g_i2l hC (gDec_at DX7_noWood_0 1 rfl) rfl ?_
  refine g_lconst hC (gDec_at DX7_noWood_0 2 rfl) (v := lN 0) (by decide) ?_
  refine g_ldc2 hC cl_X7_76 (v' := lN 2) (by decide) (gDec_at DX7_noWood_0 3 rfl) ?_
  refine g_callSd (w := wM q) hC (c_X7_in_no q (by omega) (by omega) hx) sf_X7_in ml_X7_72 (by decide) rfl rfl (Nat.le_of_ble_eq_true rfl) (gDec_at DX7_noWood_0 4 rfl) ?_
  refine g_if_neN hC (by decide) (gDec_at DX7_noWood_0 5 rfl) 16 (by decide) (fun h => absurd h (by decide)) (fun h => ?_)
  refine g_iconst hC (gDec_at DX7_noWood_0 6 rfl) (v := nI 1) (by decide) ?_
  refine g_goto hC (gDec_at DX7_noWood_0 7 rfl) 17 (by decide) ?_
  refine g_zret hC (Or.inr rfl) (gDec_at DX7_noWood_0 9 rfl) ?_
  exact ⟨rfl, rfl⟩

set_option maxRecDepth 100000 in
set_option maxHeartbeats 4000000 in
theorem c_X7_giveBy (q : gQ3) {M : gM} {B : gB} (hI : mI M B) {j : Nat} (hj : j < 12) (ht : j % 6 < B 9 0) {d : Nat} (hd : 1 ≤ d) (hd2 : d ≤ 40) : gCt (wM q) yX7_giveBy cX7_giveBy 6 (some .long) 0 [.ref (q.2.2 0), .int (nI j), .long (lN d)] M (gR (some (.long (lN (sGive B j d)))) M) := by
  refine gMet RX7 (by decide +kernel) rfl (Nat.le_of_ble_eq_true rfl) (fun X hC => ?_)
  have hC : gC X (wM q) cX7_giveBy 6 RX7 (some .long) 0 := hC
  show gG X (wM q) _ 6 M 0 [(0, .ref (q.2.2 0)), (1, .int (nI j)), (2, .long (lN d))] []
  have h2 := bv_f2 hI.2.2 hj ht
  have he := bv_e hI.2.2 h2
  have h0 := bv_f0 hI.2.2 hj ht
  have hew : B 6 (B 2 j) * B 0 j ≤ 9 * 9 := mul_bd he.2 h0.2
  have hden := sDen_bd hI.2.2 hj ht hd2
  have hps := sDen_ps hI.2.2 hj ht hd
  have h3 : j % 6 + 1 ≤ 6 := by omega
  have hnum : 1000000000 * (j % 6 + 1) * (j % 6 + 1) ≤ 1000000000 * 6 * 6 := mul_bd (mul_bd (Nat.le_refl _) h3) h3
  refine g_iload_n hC (gDec_at DX7_giveBy_0 0 rfl) rfl ?_
  refine g_bipush hC (gDec_at DX7_giveBy_0 1 rfl) (v := nI 6) (by decide) ?_
  refine g_iremN hC (by omega) (by omega) (by omega) (gDec_at DX7_giveBy_0 2 rfl) ?_
  refine g_iconst hC (gDec_at DX7_giveBy_0 3 rfl) (v := nI 1) (by decide) ?_
  refine g_iaddN hC (gDec_at DX7_giveBy_0 4 rfl) ?_
  refine g_i2lN hC (by omega) (gDec_at DX7_giveBy_0 5 rfl) ?_
  refine g_lstore hC (gDec_at DX7_giveBy_0 6 rfl) (by decide) (L' := [(4, .long (lN ((j % 6) + 1))), (0, .ref (q.2.2 0)), (1, .int (nI j)), (2, .long (lN d))]) rfl ?_
  refine g_ldc2 hC cl_X7_115 (v' := lN 1000000000) (by decide) (gDec_at DX7_giveBy_0 7 rfl) ?_
  refine g_lload hC (gDec_at DX7_giveBy_0 8 rfl) rfl ?_
  refine g_lmulN hC (gDec_at DX7_giveBy_0 9 rfl) ?_
  refine g_lload hC (gDec_at DX7_giveBy_0 10 rfl) rfl ?_
  refine g_lmulN hC (gDec_at DX7_giveBy_0 11 rfl) ?_
  refine g_aload_n hC (gDec_at DX7_giveBy_0 12 rfl) rfl ?_
  refine g_get (w := wM q) hC 0 (v := .ref (q.2.2 11)) fl_X7_47 (show 0 < 17 from by decide) rfl rfl (gDec_at DX7_giveBy_0 13 rfl) ?_
  refine g_iconst hC (gDec_at DX7_giveBy_0 14 rfl) (v := nI 3) (by decide) ?_
  refine g_aload_n hC (gDec_at DX7_giveBy_0 15 rfl) rfl ?_
  refine g_get (w := wM q) hC 0 (v := .ref (q.2.2 4)) fl_X7_23 (show 0 < 17 from by decide) rfl rfl (gDec_at DX7_giveBy_0 16 rfl) ?_
  refine g_iload_n hC (gDec_at DX7_giveBy_0 17 rfl) rfl ?_
  refine g_iald (w := wM q) hC 4 0 j (x := (nI (B 2 j))) (show 4 < 17 from by decide) rfl rfl (by omega) (by decide) (mi_f2 hI hj ht) (gDec_at DX7_giveBy_0 18 rfl) ?_
  refine g_imulN hC (gDec_at DX7_giveBy_0 19 rfl) ?_
  refine g_iald (w := wM q) hC 11 0 (3 * (B 2 j)) (x := (nI (B 6 (B 2 j)))) (show 11 < 17 from by decide) rfl rfl (by omega) (by decide) (mi_e hI (k := (B 2 j)) h2) (gDec_at DX7_giveBy_0 20 rfl) ?_
  refine g_aload_n hC (gDec_at DX7_giveBy_0 21 rfl) rfl ?_
  refine g_get (w := wM q) hC 0 (v := .ref (q.2.2 2)) fl_X7_17 (show 0 < 17 from by decide) rfl rfl (gDec_at DX7_giveBy_0 22 rfl) ?_
  refine g_iload_n hC (gDec_at DX7_giveBy_0 23 rfl) rfl ?_
  refine g_iald (w := wM q) hC 2 0 j (x := (nI (B 0 j))) (show 2 < 17 from by decide) rfl rfl (by omega) (by decide) (mi_f0 hI hj ht) (gDec_at DX7_giveBy_0 24 rfl) ?_
  refine g_imulN hC (gDec_at DX7_giveBy_0 25 rfl) ?_
  refine g_i2lN hC (by omega) (gDec_at DX7_giveBy_0 26 rfl) ?_
  refine g_lload_n hC (gDec_at DX7_giveBy_0 27 rfl) rfl ?_
  refine g_lmulN hC (gDec_at DX7_giveBy_0 28 rfl) ?_
  refine g_lload_n hC (gDec_at DX7_giveBy_0 29 rfl) rfl ?_
  refine g_lmulN hC (gDec_at DX7_giveBy_0 30 rfl) ?_
  refine g_lload_n hC (gDec_at DX7_giveBy_0 31 rfl) rfl ?_
  refine g_lmulN hC (gDec_at DX7_giveBy_0 32 rfl) ?_
  refine g_ldivN hC (by omega) (by omega) (by omega) (gDec_at DX7_giveBy_0 33 rfl) ?_
  refine g_lret hC (gDec_at DX7_giveBy_0 34 rfl) ?_
  exact ⟨rfl, rfl⟩

set_option maxRecDepth 100000 in
set_option maxHeartbeats 4000000 in
theorem c_X7_giveOf (q : gQ3) {M : gM} {B : gB} (hI : mI M B) {j : Nat} (hj : j < 12) (ht : j % 6 < B 9 0) : gCt (wM q) yX7_giveOf cX7_giveOf 2 (some .long) 1 [.ref (q.2.2 0), .int (nI j)] M (gR (some (.long (lN (sGive B j (B 1 j))))) M) := by
  refine gMet RX7 (by decide +kernel) rfl (Nat.le_of_ble_eq_true rfl) (fun X hC => ?_)
  have hC : gC X (wM q) cX7_giveOf 2 RX7 (some .long) 1 := hC
  show gG X (wM q) _ 2 M 0 [(0, .ref (q.2.2 0)), (1, .int (nI j))] []
  have h1 := bv_f1 hI.2.2 hj ht
  refine g_aload_n hC (gDec_at DX7_giveOf_0 0 rfl) rfl ?_
  refine g_iload_n hC (gDec_at DX7_giveOf_0 1 rfl) rfl ?_
  refine g_aload_n hC (gDec_at DX7_giveOf_0 2 rfl) rfl ?_
  refine g_get (w := wM q) hC 0 (v := .ref (q.2.2 3)) fl_X7_20 (show 0 < 17 from by decide) rfl rfl (gDec_at DX7_giveOf_0 3 rfl) ?_
  refine g_iload_n hC (gDec_at DX7_giveOf_0 4 rfl) rfl ?_
  refine g_iald (w := wM q) hC 3 0 j (x := (nI (B 1 j))) (show 3 < 17 from by decide) rfl rfl (by omega) (by decide) (mi_f1 hI hj ht) (gDec_at DX7_giveOf_0 5 rfl) ?_
  refine g_i2lN hC (by omega) (gDec_at DX7_giveOf_0 6 rfl) ?_
  refine g_callVd (w := wM q) hC 0 (c_X7_giveBy q hI (j := j) hj ht (d := (B 1 j)) (by omega) (by omega)) vf_X7_giveBy ml_X7_117 (by decide) (show 0 < 17 from by decide) rfl rfl rfl rfl rfl (Nat.le_of_ble_eq_true rfl) (gDec_at DX7_giveOf_0 7 rfl) ?_
  refine g_lret hC (gDec_at DX7_giveOf_0 8 rfl) ?_
  exact ⟨rfl, rfl⟩

set_option maxRecDepth 100000 in
set_option maxHeartbeats 4000000 in
theorem c_X7_limbOf (q : gQ3) {M : gM} {B : gB} (hI : mI M B) {l : Nat} (hl : l < 2) : gCt (wM q) yX7_limbOf cX7_limbOf 5 (some .long) 2 [.ref (q.2.2 0), .int (nI l)] M (gR (some (.long (lN (sLimb B l)))) M) := by
  refine gMet RX7 (by decide +kernel) rfl (Nat.le_of_ble_eq_true rfl) (fun X hC => ?_)
  have hC : gC X (wM q) cX7_limbOf 5 RX7 (some .long) 2 := hC
  show gG X (wM q) _ 5 M 0 [(0, .ref (q.2.2 0)), (1, .int (nI l))] []
  have hm := bv_many hI.2.2
  refine g_lconst hC (gDec_at DX7_limbOf_0 0 rfl) (v := lN 0) (by decide) ?_
  refine g_lstore_n hC (gDec_at DX7_limbOf_0 1 rfl) (by decide) (L' := [(2, .long (lN 0)), (0, .ref (q.2.2 0)), (1, .int (nI l))]) rfl ?_
  refine g_iconst hC (gDec_at DX7_limbOf_0 2 rfl) (v := nI 0) (by decide) ?_
  refine g_istore hC (gDec_at DX7_limbOf_0 3 rfl) (by decide) (L' := [(4, .int (nI 0)), (2, .long (lN 0)), (0, .ref (q.2.2 0)), (1, .int (nI l))]) rfl ?_
  have loop5 : ∀ (fu i : Nat), i ≤ B 9 0 → B 9 0 - i < fu → gG X (wM q) (gR (some (.long (lN (sLimb B l)))) M) 5 M 5 [(0, .ref (q.2.2 0)), (1, .int (nI l)), (2, .long (lN (gsm (fun k => if k < B 9 0 then sGive B (6 * l + k) (B 1 (6 * l + k)) else 0) i))), (4, .int (nI i))] [] := by
    intro fu; induction fu with
    | zero => intro i h1 h2; omega
    | succ fu ih =>
      intro i hi hfu 
      refine g_iload hC (gDec_at DX7_limbOf_0 4 rfl) rfl ?_
      refine g_aload_n hC (gDec_at DX7_limbOf_0 5 rfl) rfl ?_
      refine g_get (w := wM q) hC 0 (v := .int (nI (B 9 0))) fl_X7_13 (show 0 < 17 from by decide) rfl (g_sv (mi_many hI)) (gDec_at DX7_limbOf_0 6 rfl) ?_
      refine g_icmp_geN hC (by omega) (by omega) (gDec_at DX7_limbOf_0 7 rfl) 34 (by decide) (fun h11 => ?_) (fun h11 => ?_)
      · skip
        obtain rfl : i = B 9 0 := by omega
        rw [← gsm_cut (f := (fun k => if k < B 9 0 then sGive B (6 * l + k) (B 1 (6 * l + k)) else 0)) (fun k hk => if_neg (by omega)) 6 hm.2]
        refine g_lload_n hC (gDec_at DX7_limbOf_0 20 rfl) rfl ?_
        refine g_lret hC (gDec_at DX7_limbOf_0 21 rfl) ?_
        exact ⟨rfl, rfl⟩
      · skip
        refine g_lload_n hC (gDec_at DX7_limbOf_0 8 rfl) rfl ?_
        refine g_aload_n hC (gDec_at DX7_limbOf_0 9 rfl) rfl ?_
        refine g_bipush hC (gDec_at DX7_limbOf_0 10 rfl) (v := nI 6) (by decide) ?_
        refine g_iload_n hC (gDec_at DX7_limbOf_0 11 rfl) rfl ?_
        refine g_imulN hC (gDec_at DX7_limbOf_0 12 rfl) ?_
        refine g_iload hC (gDec_at DX7_limbOf_0 13 rfl) rfl ?_
        refine g_iaddN hC (gDec_at DX7_limbOf_0 14 rfl) ?_
        refine g_callVd (w := wM q) hC 0 (c_X7_giveOf q hI (j := ((6 * l) + i)) (by omega) (by omega)) vf_X7_giveOf ml_X7_121 (by decide) (show 0 < 17 from by decide) rfl rfl rfl rfl rfl (Nat.le_of_ble_eq_true rfl) (gDec_at DX7_limbOf_0 15 rfl) ?_
        refine g_laddN hC (gDec_at DX7_limbOf_0 16 rfl) ?_
        refine g_lstore_n hC (gDec_at DX7_limbOf_0 17 rfl) (by decide) (L' := [(2, .long (lN ((gsm (fun k => if k < B 9 0 then sGive B (6 * l + k) (B 1 (6 * l + k)) else 0) i) + (sGive B ((6 * l) + i) (B 1 ((6 * l) + i)))))), (0, .ref (q.2.2 0)), (1, .int (nI l)), (4, .int (nI i))]) rfl ?_
        refine g_iincN hC (gDec_at DX7_limbOf_0 18 rfl) rfl (by decide) (L' := [(4, .int (nI (i + 1))), (2, .long (lN ((gsm (fun k => if k < B 9 0 then sGive B (6 * l + k) (B 1 (6 * l + k)) else 0) i) + (sGive B ((6 * l) + i) (B 1 ((6 * l) + i)))))), (0, .ref (q.2.2 0)), (1, .int (nI l))]) rfl ?_
        refine g_goto hC (gDec_at DX7_limbOf_0 19 rfl) 5 (by decide) ?_
        refine g_sub [2, 3, 1, 0] (L' := [(0, .ref (q.2.2 0)), (1, .int (nI l)), (2, .long (lN ((gsm (fun k => if k < B 9 0 then sGive B (6 * l + k) (B 1 (6 * l + k)) else 0) i) + (sGive B ((6 * l) + i) (B 1 ((6 * l) + i)))))), (4, .int (nI (i + 1)))]) rfl ?_
        have h9 := ih (i + 1) (by omega) (by omega)
        rw [gsm_s (f := (fun k => if k < B 9 0 then sGive B (6 * l + k) (B 1 (6 * l + k)) else 0)) (if_pos h11)] at h9
        exact h9
  exact g_sub [2, 3, 1, 0] rfl (loop5 (B 9 0 + 1 - 0) 0 (by omega) (by omega))

set_option maxRecDepth 100000 in
set_option maxHeartbeats 4000000 in
theorem c_X7_allGive (q : gQ3) {M : gM} {B : gB} (hI : mI M B) : gCt (wM q) yX7_allGive cX7_allGive 1 (some .long) 3 [.ref (q.2.2 0)] M (gR (some (.long (lN (sAll B)))) M) := by
  refine gMet RX7 (by decide +kernel) rfl (Nat.le_of_ble_eq_true rfl) (fun X hC => ?_)
  have hC : gC X (wM q) cX7_allGive 1 RX7 (some .long) 3 := hC
  show gG X (wM q) _ 1 M 0 [(0, .ref (q.2.2 0))] []
  refine g_aload_n hC (gDec_at DX7_allGive_0 0 rfl) rfl ?_
  refine g_iconst hC (gDec_at DX7_allGive_0 1 rfl) (v := nI 0) (by decide) ?_
  refine g_callVd (w := wM q) hC 0 (c_X7_limbOf q hI (l := 0) (by omega)) vf_X7_limbOf ml_X7_125 (by decide) (show 0 < 17 from by decide) rfl rfl rfl rfl rfl (Nat.le_of_ble_eq_true rfl) (gDec_at DX7_allGive_0 2 rfl) ?_
  refine g_aload_n hC (gDec_at DX7_allGive_0 3 rfl) rfl ?_
  refine g_iconst hC (gDec_at DX7_allGive_0 4 rfl) (v := nI 1) (by decide) ?_
  refine g_callVd (w := wM q) hC 0 (c_X7_limbOf q hI (l := 1) (by omega)) vf_X7_limbOf ml_X7_125 (by decide) (show 0 < 17 from by decide) rfl rfl rfl rfl rfl (Nat.le_of_ble_eq_true rfl) (gDec_at DX7_allGive_0 5 rfl) ?_
  refine g_laddN hC (gDec_at DX7_allGive_0 6 rfl) ?_
  refine g_lret hC (gDec_at DX7_allGive_0 7 rfl) ?_
  exact ⟨rfl, rfl⟩

set_option maxRecDepth 100000 in
set_option maxHeartbeats 4000000 in
theorem c_X7_allSets (q : gQ3) {M : gM} {B : gB} (hI : mI M B) : gCt (wM q) yX7_allSets cX7_allSets 3 (some .int) 1 [.ref (q.2.2 0)] M (gR (some (.int (nI (sSets B)))) M) := by
  refine gMet RX7 (by decide +kernel) rfl (Nat.le_of_ble_eq_true rfl) (fun X hC => ?_)
  have hC : gC X (wM q) cX7_allSets 3 RX7 (some .int) 1 := hC
  show gG X (wM q) _ 3 M 0 [(0, .ref (q.2.2 0))] []
  have hm := bv_many hI.2.2
  refine g_iconst hC (gDec_at DX7_allSets_0 0 rfl) (v := nI 0) (by decide) ?_
  refine g_istore_n hC (gDec_at DX7_allSets_0 1 rfl) (by decide) (L' := [(1, .int (nI 0)), (0, .ref (q.2.2 0))]) rfl ?_
  refine g_iconst hC (gDec_at DX7_allSets_0 2 rfl) (v := nI 0) (by decide) ?_
  refine g_istore_n hC (gDec_at DX7_allSets_0 3 rfl) (by decide) (L' := [(2, .int (nI 0)), (1, .int (nI 0)), (0, .ref (q.2.2 0))]) rfl ?_
  have loop4 : ∀ (fu i : Nat), i ≤ 12 → 12 - i < fu → gG X (wM q) (gR (some (.int (nI (sSets B)))) M) 3 M 4 [(0, .ref (q.2.2 0)), (1, .int (nI (gsm (fun j => if j % 6 < B 9 0 then B 3 j else 0) i))), (2, .int (nI i))] [] := by
    intro fu; induction fu with
    | zero => intro i h1 h2; omega
    | succ fu ih =>
      intro i hi hfu 
      refine g_iload_n hC (gDec_at DX7_allSets_0 4 rfl) rfl ?_
      refine g_bipush hC (gDec_at DX7_allSets_0 5 rfl) (v := nI 12) (by decide) ?_
      refine g_icmp_geN hC (by omega) (by omega) (gDec_at DX7_allSets_0 6 rfl) 37 (by decide) (fun h7 => ?_) (fun h7 => ?_)
      · skip
        obtain rfl : i = 12 := by omega
        refine g_iload_n hC (gDec_at DX7_allSets_0 22 rfl) rfl ?_
        refine g_iret hC (gDec_at DX7_allSets_0 23 rfl) ?_
        exact ⟨rfl, rfl⟩
      · skip
        refine g_iload_n hC (gDec_at DX7_allSets_0 7 rfl) rfl ?_
        refine g_aload_n hC (gDec_at DX7_allSets_0 8 rfl) rfl ?_
        refine g_iload_n hC (gDec_at DX7_allSets_0 9 rfl) rfl ?_
        refine g_callVd (w := wM q) hC 0 (c_X7_isThere q hI (i := i) (by omega)) vf_X7_isThere ml_X7_128 (by decide) (show 0 < 17 from by decide) rfl rfl rfl rfl rfl (Nat.le_of_ble_eq_true rfl) (gDec_at DX7_allSets_0 10 rfl) ?_
        refine g_if_eqB hC (gDec_at DX7_allSets_0 11 rfl) 28 (by decide) (fun h16 => ?_) (fun h16 => ?_)
        · skip
          refine g_iconst hC (gDec_at DX7_allSets_0 17 rfl) (v := nI 0) (by decide) ?_
          refine g_iaddN hC (gDec_at DX7_allSets_0 18 rfl) ?_
          refine g_istore_n hC (gDec_at DX7_allSets_0 19 rfl) (by decide) (L' := [(1, .int (nI ((gsm (fun j => if j % 6 < B 9 0 then B 3 j else 0) i) + 0))), (0, .ref (q.2.2 0)), (2, .int (nI i))]) rfl ?_
          refine g_iincN hC (gDec_at DX7_allSets_0 20 rfl) rfl (by decide) (L' := [(2, .int (nI (i + 1))), (1, .int (nI ((gsm (fun j => if j % 6 < B 9 0 then B 3 j else 0) i) + 0))), (0, .ref (q.2.2 0))]) rfl ?_
          refine g_goto hC (gDec_at DX7_allSets_0 21 rfl) 4 (by decide) ?_
          refine g_sub [2, 1, 0] (L' := [(0, .ref (q.2.2 0)), (1, .int (nI ((gsm (fun j => if j % 6 < B 9 0 then B 3 j else 0) i) + 0))), (2, .int (nI (i + 1)))]) rfl ?_
          have h9 := ih (i + 1) (by omega) (by omega)
          rw [gsm_s0 (f := (fun j => if j % 6 < B 9 0 then B 3 j else 0)) (if_neg h16)] at h9
          exact h9
        · skip
          refine g_aload_n hC (gDec_at DX7_allSets_0 12 rfl) rfl ?_
          refine g_get (w := wM q) hC 0 (v := .ref (q.2.2 5)) fl_X7_26 (show 0 < 17 from by decide) rfl rfl (gDec_at DX7_allSets_0 13 rfl) ?_
          refine g_iload_n hC (gDec_at DX7_allSets_0 14 rfl) rfl ?_
          refine g_iald (w := wM q) hC 5 0 i (x := (nI (B 3 i))) (show 5 < 17 from by decide) rfl rfl (by omega) (by decide) (mi_f3 hI (by omega) (by omega)) (gDec_at DX7_allSets_0 15 rfl) ?_
          refine g_goto hC (gDec_at DX7_allSets_0 16 rfl) 29 (by decide) ?_
          refine g_iaddN hC (gDec_at DX7_allSets_0 18 rfl) ?_
          refine g_istore_n hC (gDec_at DX7_allSets_0 19 rfl) (by decide) (L' := [(1, .int (nI ((gsm (fun j => if j % 6 < B 9 0 then B 3 j else 0) i) + (B 3 i)))), (0, .ref (q.2.2 0)), (2, .int (nI i))]) rfl ?_
          refine g_iincN hC (gDec_at DX7_allSets_0 20 rfl) rfl (by decide) (L' := [(2, .int (nI (i + 1))), (1, .int (nI ((gsm (fun j => if j % 6 < B 9 0 then B 3 j else 0) i) + (B 3 i)))), (0, .ref (q.2.2 0))]) rfl ?_
          refine g_goto hC (gDec_at DX7_allSets_0 21 rfl) 4 (by decide) ?_
          refine g_sub [2, 1, 0] (L' := [(0, .ref (q.2.2 0)), (1, .int (nI ((gsm (fun j => if j % 6 < B 9 0 then B 3 j else 0) i) + (B 3 i)))), (2, .int (nI (i + 1)))]) rfl ?_
          have h9 := ih (i + 1) (by omega) (by omega)
          rw [gsm_s (f := (fun j => if j % 6 < B 9 0 then B 3 j else 0)) (if_pos h16)] at h9
          exact h9
  exact g_sub [2, 1, 0] rfl (loop4 (12 + 1 - 0) 0 (by omega) (by omega))

set_option maxRecDepth 100000 in
set_option maxHeartbeats 4000000 in
theorem c_X7_pull (q : gQ3) {M : gM} {B : gB} (hI : mI M B) {x : Nat} (hx : x ≤ 40) : gCt (wM q) yX7_pull cX7_pull 3 (some .long) 2 [.ref (q.2.2 0), .int (nI x)] M (gR (some (.long (lN (sPull B x)))) M) := by
  refine gMet RX7 (by decide +kernel) rfl (Nat.le_of_ble_eq_true rfl) (fun X hC => ?_)
  have hC : gC X (wM q) cX7_pull 3 RX7 (some .long) 2 := hC
  show gG X (wM q) _ 3 M 0 [(0, .ref (q.2.2 0)), (1, .int (nI x))] []
  have hs := sSets_le hI.2.2
  refine g_iload_n hC (gDec_at DX7_pull_0 0 rfl) rfl ?_
  refine g_aload_n hC (gDec_at DX7_pull_0 1 rfl) rfl ?_
  refine g_callVd (w := wM q) hC 0 (c_X7_allSets q hI) vf_X7_allSets ml_X7_131 (by decide) (show 0 < 17 from by decide) rfl rfl rfl rfl rfl (Nat.le_of_ble_eq_true rfl) (gDec_at DX7_pull_0 2 rfl) ?_
  refine g_bipush hC (gDec_at DX7_pull_0 3 rfl) (v := nI 10) (by decide) ?_
  refine g_idivN hC (by omega) (by omega) (by omega) (gDec_at DX7_pull_0 4 rfl) ?_
  refine g_isub hC (gDec_at DX7_pull_0 5 rfl) (v := (nI x - nI (sSets B / 10))) rfl ?_
  refine g_istore_n hC (gDec_at DX7_pull_0 6 rfl) (by decide) (L' := [(2, .int (nI x - nI (sSets B / 10))), (0, .ref (q.2.2 0)), (1, .int (nI x))]) rfl ?_
  refine g_iload_n hC (gDec_at DX7_pull_0 7 rfl) rfl ?_
  refine g_if_le hC (gDec_at DX7_pull_0 8 rfl) 23 (by decide) (fun h11 => ?_) (fun h11 => ?_)
  · skip
    have hz : x ≤ sSets B / 10 := by rw [le_I, zI, pk_sub_toInt (by omega) (by omega)] at h11; omega
    refine g_lconst hC (gDec_at DX7_pull_0 14 rfl) (v := lN 0) (by decide) ?_
    refine g_lret hC (gDec_at DX7_pull_0 15 rfl) ?_
    exact ⟨by unfold sPull; rw [show x - sSets B / 10 = 0 by omega], rfl⟩
  · skip
    have hz : sSets B / 10 < x := by rw [le_I, zI, pk_sub_toInt (by omega) (by omega)] at h11; omega
    rw [pk_sub (show sSets B / 10 ≤ x by omega)]
    refine g_ldc2 hC cl_X7_134 (v' := lN 2000000) (by decide) (gDec_at DX7_pull_0 9 rfl) ?_
    refine g_iload_n hC (gDec_at DX7_pull_0 10 rfl) rfl ?_
    refine g_i2lN hC (by omega) (gDec_at DX7_pull_0 11 rfl) ?_
    refine g_lmulN hC (gDec_at DX7_pull_0 12 rfl) ?_
    refine g_goto hC (gDec_at DX7_pull_0 13 rfl) 24 (by decide) ?_
    refine g_lret hC (gDec_at DX7_pull_0 15 rfl) ?_
    exact ⟨rfl, rfl⟩

theorem gcd_step {big small a b : Nat} (h : Nat.gcd big small = Nat.gcd a b) : Nat.gcd small (big % small) = Nat.gcd a b := by
  rw [← h, Nat.gcd_comm big small, Nat.gcd_rec small big, Nat.gcd_comm]
set_option maxRecDepth 100000 in
set_option maxHeartbeats 4000000 in
theorem c_X7_told (q : gQ3) {M : gM} {a b u : Nat} (ha : a < 9223372036854775808) (hb0 : 0 < b) (hb : b < 9223372036854775808) (hu : u ≤ 1) : gCt (wM q) yX7_told cX7_told 11 (some .long) 0 [.long (lN a), .long (lN b), .int (nI u)] M (gR (some (.long (lN (sTo a b u)))) M) := by
  refine gMet RX7 (by decide +kernel) rfl (Nat.le_of_ble_eq_true rfl) (fun X hC => ?_)
  have hC : gC X (wM q) cX7_told 11 RX7 (some .long) 0 := hC
  show gG X (wM q) _ 11 M 0 [(0, .long (lN a)), (2, .long (lN b)), (4, .int (nI u))] []
  have hgl := gcd_lt ha hb
  have hgp := Nat.gcd_pos_of_pos_right a hb0
  refine g_lload_n hC (gDec_at DX7_told_0 0 rfl) rfl ?_
  refine g_lstore hC (gDec_at DX7_told_0 1 rfl) (by decide) (L' := [(5, .long (lN a)), (0, .long (lN a)), (2, .long (lN b)), (4, .int (nI u))]) rfl ?_
  refine g_lload_n hC (gDec_at DX7_told_0 2 rfl) rfl ?_
  refine g_lstore hC (gDec_at DX7_told_0 3 rfl) (by decide) (L' := [(7, .long (lN b)), (5, .long (lN a)), (0, .long (lN a)), (2, .long (lN b)), (4, .int (nI u))]) rfl ?_
  have loop6 : ∀ (fu i : Nat) (big small : Nat), i ≤ b → b - i < fu → Nat.gcd big small = Nat.gcd a b → big < 9223372036854775808 → small + i ≤ b → gG X (wM q) (gR (some (.long (lN (sTo a b u)))) M) 11 M 6 [(0, .long (lN a)), (2, .long (lN b)), (4, .int (nI u)), (5, .long (lN big)), (7, .long (lN small))] [] := by
    intro fu; induction fu with
    | zero => intro i big small h1 h2; omega
    | succ fu ih =>
      intro i big small hin hfu hg hg2 hg3
      refine g_lload hC (gDec_at DX7_told_0 4 rfl) rfl ?_
      refine g_lconst hC (gDec_at DX7_told_0 5 rfl) (v := lN 0) (by decide) ?_
      refine g_lc_eqN hC (by omega) (by omega) (gDec_at DX7_told_0 6 rfl) (gDec_at DX7_told_0 7 rfl) 31 (by decide) (fun h9 => ?_) (fun h9 => ?_)
      · skip
        obtain rfl : small = 0 := by omega
        rw [Nat.gcd_zero_right] at hg
        subst hg
        refine g_iload hC (gDec_at DX7_told_0 17 rfl) rfl ?_
        refine g_if_eqN hC (by omega) (gDec_at DX7_told_0 18 rfl) 43 (by decide) (fun h33 => ?_) (fun h33 => ?_)
        · skip
          refine g_lload_n hC (gDec_at DX7_told_0 23 rfl) rfl ?_
          refine g_lload hC (gDec_at DX7_told_0 24 rfl) rfl ?_
          refine g_ldivN hC (by omega) (by omega) (by omega) (gDec_at DX7_told_0 25 rfl) ?_
          refine g_lret hC (gDec_at DX7_told_0 26 rfl) ?_
          exact ⟨by unfold sTo; rw [if_pos (by omega)], rfl⟩
        · skip
          refine g_lload_n hC (gDec_at DX7_told_0 19 rfl) rfl ?_
          refine g_lload hC (gDec_at DX7_told_0 20 rfl) rfl ?_
          refine g_ldivN hC (by omega) (by omega) (by omega) (gDec_at DX7_told_0 21 rfl) ?_
          refine g_goto hC (gDec_at DX7_told_0 22 rfl) 47 (by decide) ?_
          refine g_lret hC (gDec_at DX7_told_0 26 rfl) ?_
          exact ⟨by unfold sTo; rw [if_neg (by omega)], rfl⟩
      · skip
        refine g_lload hC (gDec_at DX7_told_0 8 rfl) rfl ?_
        refine g_lload hC (gDec_at DX7_told_0 9 rfl) rfl ?_
        refine g_lremN hC (by omega) (by omega) (by omega) (gDec_at DX7_told_0 10 rfl) ?_
        refine g_lstore hC (gDec_at DX7_told_0 11 rfl) (by decide) (L' := [(9, .long (lN (big % small))), (0, .long (lN a)), (2, .long (lN b)), (4, .int (nI u)), (5, .long (lN big)), (7, .long (lN small))]) rfl ?_
        refine g_lload hC (gDec_at DX7_told_0 12 rfl) rfl ?_
        refine g_lstore hC (gDec_at DX7_told_0 13 rfl) (by decide) (L' := [(5, .long (lN small)), (9, .long (lN (big % small))), (0, .long (lN a)), (2, .long (lN b)), (4, .int (nI u)), (7, .long (lN small))]) rfl ?_
        refine g_lload hC (gDec_at DX7_told_0 14 rfl) rfl ?_
        refine g_lstore hC (gDec_at DX7_told_0 15 rfl) (by decide) (L' := [(7, .long (lN (big % small))), (5, .long (lN small)), (9, .long (lN (big % small))), (0, .long (lN a)), (2, .long (lN b)), (4, .int (nI u))]) rfl ?_
        refine g_goto hC (gDec_at DX7_told_0 16 rfl) 6 (by decide) ?_
        refine g_sub [3, 4, 5, 1, 0] (L' := [(0, .long (lN a)), (2, .long (lN b)), (4, .int (nI u)), (5, .long (lN small)), (7, .long (lN (big % small)))]) rfl ?_
        have hmd := Nat.mod_lt big (show 0 < small by omega)
        have h9 := ih (i + 1) small (big % small) (by omega) (by omega) (gcd_step hg) (by omega) (by omega)
        exact h9
  exact g_sub [2, 3, 4, 1, 0] rfl (loop6 (b + 1 - 0) 0 a b (by omega) (by omega) rfl ha (Nat.le_refl _))

set_option maxRecDepth 100000 in
set_option maxHeartbeats 4000000 in
theorem c_X7_strainOf (q : gQ3) {M : gM} {B : gB} (hI : mI M B) {j : Nat} (hj : j < 12) (ht : j % 6 < B 9 0) {x : Nat} (hx : x ≤ 40) : gCt (wM q) yX7_strainOf cX7_strainOf 5 (some .long) 4 [.ref (q.2.2 0), .int (nI j), .int (nI x)] M (gR (some (.long (lN (sStr B (sPull B x) (sAll B) j)))) M) := by
  refine gMet RX7 (by decide +kernel) rfl (Nat.le_of_ble_eq_true rfl) (fun X hC => ?_)
  have hC : gC X (wM q) cX7_strainOf 5 RX7 (some .long) 4 := hC
  show gG X (wM q) _ 5 M 0 [(0, .ref (q.2.2 0)), (1, .int (nI j)), (2, .int (nI x))] []
  have hp := sPull_le B hx
  have hg := sAll_le B
  have hgp := sAll_ps hI.2.2
  have h2 := bv_f2 hI.2.2 hj ht
  have he := bv_e hI.2.2 h2
  have h1 := bv_f1 hI.2.2 hj ht
  have h0 := bv_f0 hI.2.2 hj ht
  have hbe := sBears_bd hI.2.2 hj ht
  have h6 : j % 6 + 1 ≤ 6 := by omega
  have hn := mul_bd (mul_bd hp h6) (Nat.le_refl 1000000)
  have hdn : sAll B * (B 6 (B 2 j) * B 0 j * B 1 j * B 1 j) ≤ 432000000000 * 129600 := mul_bd hg hbe.2
  have hdp : 0 < sAll B * (B 6 (B 2 j) * B 0 j * B 1 j * B 1 j) := mul_ps hgp hbe.1
  refine g_aload_n hC (gDec_at DX7_strainOf_0 0 rfl) rfl ?_
  refine g_get (w := wM q) hC 0 (v := .ref (q.2.2 11)) fl_X7_47 (show 0 < 17 from by decide) rfl rfl (gDec_at DX7_strainOf_0 1 rfl) ?_
  refine g_iconst hC (gDec_at DX7_strainOf_0 2 rfl) (v := nI 3) (by decide) ?_
  refine g_aload_n hC (gDec_at DX7_strainOf_0 3 rfl) rfl ?_
  refine g_get (w := wM q) hC 0 (v := .ref (q.2.2 4)) fl_X7_23 (show 0 < 17 from by decide) rfl rfl (gDec_at DX7_strainOf_0 4 rfl) ?_
  refine g_iload_n hC (gDec_at DX7_strainOf_0 5 rfl) rfl ?_
  refine g_iald (w := wM q) hC 4 0 j (x := (nI (B 2 j))) (show 4 < 17 from by decide) rfl rfl (by omega) (by decide) (mi_f2 hI hj ht) (gDec_at DX7_strainOf_0 6 rfl) ?_
  refine g_imulN hC (gDec_at DX7_strainOf_0 7 rfl) ?_
  refine g_iald (w := wM q) hC 11 0 (3 * (B 2 j)) (x := (nI (B 6 (B 2 j)))) (show 11 < 17 from by decide) rfl rfl (by omega) (by decide) (mi_e hI (k := (B 2 j)) h2) (gDec_at DX7_strainOf_0 8 rfl) ?_
  refine g_i2lN hC (by omega) (gDec_at DX7_strainOf_0 9 rfl) ?_
  refine g_aload_n hC (gDec_at DX7_strainOf_0 10 rfl) rfl ?_
  refine g_get (w := wM q) hC 0 (v := .ref (q.2.2 2)) fl_X7_17 (show 0 < 17 from by decide) rfl rfl (gDec_at DX7_strainOf_0 11 rfl) ?_
  refine g_iload_n hC (gDec_at DX7_strainOf_0 12 rfl) rfl ?_
  refine g_iald (w := wM q) hC 2 0 j (x := (nI (B 0 j))) (show 2 < 17 from by decide) rfl rfl (by omega) (by decide) (mi_f0 hI hj ht) (gDec_at DX7_strainOf_0 13 rfl) ?_
  refine g_i2lN hC (by omega) (gDec_at DX7_strainOf_0 14 rfl) ?_
  refine g_lmulN hC (gDec_at DX7_strainOf_0 15 rfl) ?_
  refine g_aload_n hC (gDec_at DX7_strainOf_0 16 rfl) rfl ?_
  refine g_get (w := wM q) hC 0 (v := .ref (q.2.2 3)) fl_X7_20 (show 0 < 17 from by decide) rfl rfl (gDec_at DX7_strainOf_0 17 rfl) ?_
  refine g_iload_n hC (gDec_at DX7_strainOf_0 18 rfl) rfl ?_
  refine g_iald (w := wM q) hC 3 0 j (x := (nI (B 1 j))) (show 3 < 17 from by decide) rfl rfl (by omega) (by decide) (mi_f1 hI hj ht) (gDec_at DX7_strainOf_0 19 rfl) ?_
  refine g_i2lN hC (by omega) (gDec_at DX7_strainOf_0 20 rfl) ?_
  refine g_lmulN hC (gDec_at DX7_strainOf_0 21 rfl) ?_
  refine g_aload_n hC (gDec_at DX7_strainOf_0 22 rfl) rfl ?_
  refine g_get (w := wM q) hC 0 (v := .ref (q.2.2 3)) fl_X7_20 (show 0 < 17 from by decide) rfl rfl (gDec_at DX7_strainOf_0 23 rfl) ?_
  refine g_iload_n hC (gDec_at DX7_strainOf_0 24 rfl) rfl ?_
  refine g_iald (w := wM q) hC 3 0 j (x := (nI (B 1 j))) (show 3 < 17 from by decide) rfl rfl (by omega) (by decide) (mi_f1 hI hj ht) (gDec_at DX7_strainOf_0 25 rfl) ?_
  refine g_i2lN hC (by omega) (gDec_at DX7_strainOf_0 26 rfl) ?_
  refine g_lmulN hC (gDec_at DX7_strainOf_0 27 rfl) ?_
  refine g_lstore_n hC (gDec_at DX7_strainOf_0 28 rfl) (by decide) (L' := [(3, .long (lN ((((B 6 (B 2 j)) * (B 0 j)) * (B 1 j)) * (B 1 j)))), (0, .ref (q.2.2 0)), (1, .int (nI j)), (2, .int (nI x))]) rfl ?_
  refine g_aload_n hC (gDec_at DX7_strainOf_0 29 rfl) rfl ?_
  refine g_iload_n hC (gDec_at DX7_strainOf_0 30 rfl) rfl ?_
  refine g_callVd (w := wM q) hC 0 (c_X7_pull q hI (x := x) (by omega)) vf_X7_pull ml_X7_136 (by decide) (show 0 < 17 from by decide) rfl rfl rfl rfl rfl (Nat.le_of_ble_eq_true rfl) (gDec_at DX7_strainOf_0 31 rfl) ?_
  refine g_iload_n hC (gDec_at DX7_strainOf_0 32 rfl) rfl ?_
  refine g_bipush hC (gDec_at DX7_strainOf_0 33 rfl) (v := nI 6) (by decide) ?_
  refine g_iremN hC (by omega) (by omega) (by omega) (gDec_at DX7_strainOf_0 34 rfl) ?_
  refine g_iconst hC (gDec_at DX7_strainOf_0 35 rfl) (v := nI 1) (by decide) ?_
  refine g_iaddN hC (gDec_at DX7_strainOf_0 36 rfl) ?_
  refine g_i2lN hC (by omega) (gDec_at DX7_strainOf_0 37 rfl) ?_
  refine g_lmulN hC (gDec_at DX7_strainOf_0 38 rfl) ?_
  refine g_ldc2 hC cl_X7_139 (v' := lN 1000000) (by decide) (gDec_at DX7_strainOf_0 39 rfl) ?_
  refine g_lmulN hC (gDec_at DX7_strainOf_0 40 rfl) ?_
  refine g_aload_n hC (gDec_at DX7_strainOf_0 41 rfl) rfl ?_
  refine g_callVd (w := wM q) hC 0 (c_X7_allGive q hI) vf_X7_allGive ml_X7_141 (by decide) (show 0 < 17 from by decide) rfl rfl rfl rfl rfl (Nat.le_of_ble_eq_true rfl) (gDec_at DX7_strainOf_0 42 rfl) ?_
  refine g_lload_n hC (gDec_at DX7_strainOf_0 43 rfl) rfl ?_
  refine g_lmulN hC (gDec_at DX7_strainOf_0 44 rfl) ?_
  refine g_ldivN hC (by omega) (by omega) (by omega) (gDec_at DX7_strainOf_0 45 rfl) ?_
  refine g_lret hC (gDec_at DX7_strainOf_0 46 rfl) ?_
  exact ⟨rfl, rfl⟩
