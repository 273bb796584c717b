/-! BOW: form taken, off; Place, Wood; the text -/
def fmB (B : gB) (f s n : Nat) : gB := fun r j => if r = 1 ∧ j < n ∧ j % 6 < B 9 0 then sForm B j f s else B r j
theorem fmB_0 (B : gB) (f s : Nat) : fmB B f s 0 = B := by
  funext r j; unfold fmB; rw [if_neg (by omega)]
theorem fmB_s (B : gB) (f s n : Nat) (ht : n % 6 < B 9 0) : upB (fmB B f s n) 1 n (sForm B n f s) = fmB B f s (n + 1) := by
  funext r j
  unfold upB fmB
  by_cases h : r = 1 ∧ j = n
  · obtain ⟨rfl, rfl⟩ := h
    rw [if_pos ⟨rfl, rfl⟩, if_pos ⟨rfl, by omega, ht⟩]
  · rw [if_neg h]
    by_cases h2 : r = 1 ∧ j < n ∧ j % 6 < B 9 0
    · rw [if_pos h2, if_pos ⟨h2.1, by omega, h2.2.2⟩]
    · rw [if_neg h2, if_neg (by omega)]
theorem fmB_k (B : gB) (f s n : Nat) (ht : ¬ n % 6 < B 9 0) : fmB B f s (n + 1) = fmB B f s n := by
  funext r j
  unfold fmB
  by_cases h2 : r = 1 ∧ j < n ∧ j % 6 < B 9 0
  · rw [if_pos h2, if_pos ⟨h2.1, by omega, h2.2.2⟩]
  · rw [if_neg h2, if_neg]
    rintro ⟨a, b, c⟩
    by_cases e : j = n
    · subst e; exact ht c
    · omega
theorem fmB_i (B : gB) (f s n : Nat) : fmB B f s n 1 n = B 1 n := by
  unfold fmB; rw [if_neg (by omega)]
theorem fmB_V {B : gB} (hV : bV B) {f s : Nat} (hh : sHas B f s) (n : Nat) : bV (fmB B f s n) := by
  obtain ⟨h1, h2, h3, h4, h5⟩ := hV
  refine ⟨h1, h2, h3, h4, fun j hj ht => ?_⟩
  obtain ⟨a0, a1, a2, a3, a4, a5⟩ := h5 j hj ht
  have h6 := hh j hj ht
  have h7 := sForm_in B j f s
  refine ⟨a0, ?_, a2, a3, a4, a5⟩
  show 4 ≤ (if 1 = 1 ∧ j < n ∧ j % 6 < B 9 0 then sForm B j f s else B 1 j) ∧ (if 1 = 1 ∧ j < n ∧ j % 6 < B 9 0 then sForm B j f s else B 1 j) ≤ 40
  split <;> omega
def sFmN (B : gB) (f s n : Nat) : Nat := gsm (fun j => if j % 6 < B 9 0 ∧ ¬ sForm B j f s = B 1 j then 1 else 0) n
theorem fk_p {n : Nat} (h : ¬ n = 0) : fk n = nI n := if_neg h
set_option maxRecDepth 100000 in
set_option maxHeartbeats 4000000 in
theorem c_X0_takeForm (q : gQ3) {M : gM} {B : gB} (hI : cI M B) {f s : Nat} (hf : f ≤ 999) (hs : s ≤ 99) (hh : sHas B f s) : gCt (wC q) yX0_takeForm cX0_takeForm 9 (some .int) 2 [.ref (q.2.2 9), .int (nI f), .int (nI s)] M (fun v M' => v = some (.int (nI (sFmN B f s 12))) ∧ cI M' (fmB B f s 12) ∧ sameO (fun i => 15 ≤ i ∧ i < 27) M M') := by
  refine gMet RX0 (by decide +kernel) rfl (Nat.le_of_ble_eq_true rfl) (fun X hC => ?_)
  have hC : gC X (wC q) cX0_takeForm 9 RX0 (some .int) 2 := hC
  show gG X (wC q) _ 9 M 0 [(0, .ref (q.2.2 9)), (1, .int (nI f)), (2, .int (nI s))] []
  have hm := bv_many hI.2.2
  refine g_iconst hC (gDec_at DX0_takeForm_0 0 rfl) (v := nI 0) (by decide) ?_
  refine g_istore_n hC (gDec_at DX0_takeForm_0 1 rfl) (by decide) (L' := [(3, .int (nI 0)), (0, .ref (q.2.2 9)), (1, .int (nI f)), (2, .int (nI s))]) rfl ?_
  refine g_aload_n hC (gDec_at DX0_takeForm_0 2 rfl) rfl ?_
  refine g_get (w := wC q) hC 9 (v := .ref (q.2.2 11)) fl_X0_22 (show 9 < 63 from by decide) rfl rfl (gDec_at DX0_takeForm_0 3 rfl) ?_
  refine g_astore hC (gDec_at DX0_takeForm_0 4 rfl) (by decide) (L' := [(4, .ref (q.2.2 11)), (3, .int (nI 0)), (0, .ref (q.2.2 9)), (1, .int (nI f)), (2, .int (nI s))]) rfl ?_
  refine g_aload hC (gDec_at DX0_takeForm_0 5 rfl) rfl ?_
  refine g_alen (w := wC q) hC 11 3 (show 11 < 63 from by decide) rfl rfl (gDec_at DX0_takeForm_0 6 rfl) ?_
  refine g_istore hC (gDec_at DX0_takeForm_0 7 rfl) (by decide) (L' := [(5, .int (nI 12)), (4, .ref (q.2.2 11)), (3, .int (nI 0)), (0, .ref (q.2.2 9)), (1, .int (nI f)), (2, .int (nI s))]) rfl ?_
  refine g_iconst hC (gDec_at DX0_takeForm_0 8 rfl) (v := nI 0) (by decide) ?_
  refine g_istore hC (gDec_at DX0_takeForm_0 9 rfl) (by decide) (L' := [(6, .int (nI 0)), (5, .int (nI 12)), (4, .ref (q.2.2 11)), (3, .int (nI 0)), (0, .ref (q.2.2 9)), (1, .int (nI f)), (2, .int (nI s))]) rfl ?_
  have loop16 : ∀ (fu i : Nat) (M1 : gM), i ≤ 12 → 12 - i < fu → cI M1 (fmB B f s i) → sameO (fun i => 15 ≤ i ∧ i < 27) M M1 → gG X (wC q) (fun v M' => v = some (.int (nI (sFmN B f s 12))) ∧ cI M' (fmB B f s 12) ∧ sameO (fun i => 15 ≤ i ∧ i < 27) M M') 9 M1 16 [(0, .ref (q.2.2 9)), (1, .int (nI f)), (2, .int (nI s)), (3, .int (nI (sFmN B f s i))), (4, .ref (q.2.2 11)), (5, .int (nI 12)), (6, .int (nI i))] [] := by
    intro fu; induction fu with
    | zero => intro i M1 h1 h2; omega
    | succ fu ih =>
      intro i M1 hi hfu hI1 hs1
      refine g_iload hC (gDec_at DX0_takeForm_0 10 rfl) rfl ?_
      refine g_iload hC (gDec_at DX0_takeForm_0 11 rfl) rfl ?_
      refine g_icmp_geN hC (by omega) (by omega) (gDec_at DX0_takeForm_0 12 rfl) 75 (by decide) (fun h20 => ?_) (fun h20 => ?_)
      · skip
        obtain rfl : i = 12 := by omega
        refine g_iload_n hC (gDec_at DX0_takeForm_0 37 rfl) rfl ?_
        refine g_iret hC (gDec_at DX0_takeForm_0 38 rfl) ?_
        exact ⟨rfl, hI1, hs1⟩
      · skip
        refine g_aload hC (gDec_at DX0_takeForm_0 13 rfl) rfl ?_
        refine g_iload hC (gDec_at DX0_takeForm_0 14 rfl) rfl ?_
        refine g_aald (w := wC q) hC 11 3 i (a := q.2.2 (15 + i)) (show 11 < 63 from by decide) rfl rfl (by omega) (by decide) rfl (gDec_at DX0_takeForm_0 15 rfl) ?_
        refine g_astore hC (gDec_at DX0_takeForm_0 16 rfl) (by decide) (L' := [(7, .ref (q.2.2 (15 + i))), (0, .ref (q.2.2 9)), (1, .int (nI f)), (2, .int (nI s)), (3, .int (nI (sFmN B f s i))), (4, .ref (q.2.2 11)), (5, .int (nI 12)), (6, .int (nI i))]) rfl ?_
        refine g_aload_n hC (gDec_at DX0_takeForm_0 17 rfl) rfl ?_
        refine g_aload hC (gDec_at DX0_takeForm_0 18 rfl) rfl ?_
        refine g_callVd (w := wC q) hC 9 (c_X0_has q hI1 (by omega)) vf_X0_has ml_X0_42 (by decide) (show 9 < 63 from by decide) rfl rfl rfl rfl rfl (Nat.le_of_ble_eq_true rfl) (gDec_at DX0_takeForm_0 19 rfl) ?_
        refine g_if_eqB hC (gDec_at DX0_takeForm_0 20 rfl) 69 (by decide) (fun h36 => ?_) (fun h36 => ?_)
        · skip
          have h36 : ¬ i % 6 < B 9 0 := h36
          refine g_iincN hC (gDec_at DX0_takeForm_0 35 rfl) rfl (by decide) (L' := [(6, .int (nI (i + 1))), (7, .ref (q.2.2 (15 + i))), (0, .ref (q.2.2 9)), (1, .int (nI f)), (2, .int (nI s)), (3, .int (nI (sFmN B f s i))), (4, .ref (q.2.2 11)), (5, .int (nI 12))]) rfl ?_
          refine g_goto hC (gDec_at DX0_takeForm_0 36 rfl) 16 (by decide) ?_
          refine g_sub [2, 3, 4, 5, 6, 7, 0] (L' := [(0, .ref (q.2.2 9)), (1, .int (nI f)), (2, .int (nI s)), (3, .int (nI (sFmN B f s i))), (4, .ref (q.2.2 11)), (5, .int (nI 12)), (6, .int (nI (i + 1)))]) rfl ?_
          have h9 := ih (i + 1) M1 (by omega) (by omega) (by rw [fmB_k _ _ _ _ h36]; exact hI1) (hs1)
          rw [show sFmN B f s (i + 1) = sFmN B f s i from gsm_s0 (if_neg (fun z => h36 z.1))] at h9
          exact h9
        · skip
          have h36 : i % 6 < B 9 0 := h36
          have hfi := sForm_in B i f s
          have hs1i := bv_f1 hI.2.2 (by omega : i < 12) h36
          have e3 := fmB_i B f s i
          refine g_aload_n hC (gDec_at DX0_takeForm_0 21 rfl) rfl ?_
          refine g_aload hC (gDec_at DX0_takeForm_0 22 rfl) rfl ?_
          refine g_iload_n hC (gDec_at DX0_takeForm_0 23 rfl) rfl ?_
          refine g_iload_n hC (gDec_at DX0_takeForm_0 24 rfl) rfl ?_
          refine g_callVd (w := wC q) hC 9 (c_X0_formDepth q hI1 (by omega) (by omega) (f := f) (s := s) (by omega) (by omega)) vf_X0_formDepth ml_X0_165 (by decide) (show 9 < 63 from by decide) rfl rfl rfl rfl rfl (Nat.le_of_ble_eq_true rfl) (gDec_at DX0_takeForm_0 25 rfl) ?_
          refine g_st (st' := [.int (nI (sForm B i f s))]) (congrArg (fun z => [Value.int z]) (fk_p (hh i (by omega) (by omega)))) ?_
          refine g_istore hC (gDec_at DX0_takeForm_0 26 rfl) (by decide) (L' := [(8, .int (nI (sForm B i f s))), (7, .ref (q.2.2 (15 + i))), (0, .ref (q.2.2 9)), (1, .int (nI f)), (2, .int (nI s)), (3, .int (nI (sFmN B f s i))), (4, .ref (q.2.2 11)), (5, .int (nI 12)), (6, .int (nI i))]) rfl ?_
          refine g_iload hC (gDec_at DX0_takeForm_0 27 rfl) rfl ?_
          refine g_aload hC (gDec_at DX0_takeForm_0 28 rfl) rfl ?_
          refine g_get (w := wC q) hC (15 + i) (v := .int (nI (B 1 i))) fl_X0_89 (show 15 + i < 63 from by omega) (cC_p0 q _ _ (by omega)) (g_sv ((ci_f1 hI1 (by omega) (by omega)).trans (congrArg nI e3))) (gDec_at DX0_takeForm_0 29 rfl) ?_
          refine g_icmp_eqN hC (by omega) (by omega) (gDec_at DX0_takeForm_0 30 rfl) 62 (by decide) (fun h56 => ?_) (fun h56 => ?_)
          · skip
            refine g_aload hC (gDec_at DX0_takeForm_0 32 rfl) rfl ?_
            refine g_iload hC (gDec_at DX0_takeForm_0 33 rfl) rfl ?_
            refine g_putI (w := wC q) hC (15 + i) fl_X0_89 fp_1_4 (show 15 + i < 63 from by have := (by omega); omega) (cC_p0 q _ _ (by omega)) (Nat.le_of_ble_eq_true rfl) (cC_p0 q _ _ (by omega)) rfl (gDec_at DX0_takeForm_0 34 rfl) ?_
            refine g_iincN hC (gDec_at DX0_takeForm_0 35 rfl) rfl (by decide) (L' := [(6, .int (nI (i + 1))), (8, .int (nI (sForm B i f s))), (7, .ref (q.2.2 (15 + i))), (0, .ref (q.2.2 9)), (1, .int (nI f)), (2, .int (nI s)), (3, .int (nI (sFmN B f s i))), (4, .ref (q.2.2 11)), (5, .int (nI 12))]) rfl ?_
            refine g_goto hC (gDec_at DX0_takeForm_0 36 rfl) 16 (by decide) ?_
            refine g_sub [3, 4, 5, 6, 7, 8, 0] (L' := [(0, .ref (q.2.2 9)), (1, .int (nI f)), (2, .int (nI s)), (3, .int (nI (sFmN B f s i))), (4, .ref (q.2.2 11)), (5, .int (nI 12)), (6, .int (nI (i + 1)))]) rfl ?_
            have e1 := fmB_s B f s i h36
            have hI2 : cI (gupd M1 (15 + i) 4 (nI (sForm B i f s))) (fmB B f s (i + 1)) := by rw [← e1]; exact cI_set hI1 (by unfold fldOf; omega) (by rw [e1]; exact fmB_V hI.2.2 hh _)
            have h9 := ih (i + 1) _ (by omega) (by omega) (hI2) (sameO_up hs1 (by omega))
            rw [show sFmN B f s (i + 1) = sFmN B f s i from gsm_s0 (if_neg (by omega))] at h9
            exact h9
          · skip
            refine g_iincN hC (gDec_at DX0_takeForm_0 31 rfl) rfl (by decide) (L' := [(3, .int (nI (sFmN B f s i + 1))), (8, .int (nI (sForm B i f s))), (7, .ref (q.2.2 (15 + i))), (0, .ref (q.2.2 9)), (1, .int (nI f)), (2, .int (nI s)), (4, .ref (q.2.2 11)), (5, .int (nI 12)), (6, .int (nI i))]) rfl ?_
            refine g_aload hC (gDec_at DX0_takeForm_0 32 rfl) rfl ?_
            refine g_iload hC (gDec_at DX0_takeForm_0 33 rfl) rfl ?_
            refine g_putI (w := wC q) hC (15 + i) fl_X0_89 fp_1_4 (show 15 + i < 63 from by have := (by omega); omega) (cC_p0 q _ _ (by omega)) (Nat.le_of_ble_eq_true rfl) (cC_p0 q _ _ (by omega)) rfl (gDec_at DX0_takeForm_0 34 rfl) ?_
            refine g_iincN hC (gDec_at DX0_takeForm_0 35 rfl) rfl (by decide) (L' := [(6, .int (nI (i + 1))), (3, .int (nI (sFmN B f s i + 1))), (8, .int (nI (sForm B i f s))), (7, .ref (q.2.2 (15 + i))), (0, .ref (q.2.2 9)), (1, .int (nI f)), (2, .int (nI s)), (4, .ref (q.2.2 11)), (5, .int (nI 12))]) rfl ?_
            refine g_goto hC (gDec_at DX0_takeForm_0 36 rfl) 16 (by decide) ?_
            refine g_sub [4, 5, 6, 1, 7, 8, 0] (L' := [(0, .ref (q.2.2 9)), (1, .int (nI f)), (2, .int (nI s)), (3, .int (nI (sFmN B f s i + 1))), (4, .ref (q.2.2 11)), (5, .int (nI 12)), (6, .int (nI (i + 1)))]) rfl ?_
            have e1 := fmB_s B f s i h36
            have hI2 : cI (gupd M1 (15 + i) 4 (nI (sForm B i f s))) (fmB B f s (i + 1)) := by rw [← e1]; exact cI_set hI1 (by unfold fldOf; omega) (by rw [e1]; exact fmB_V hI.2.2 hh _)
            have h9 := ih (i + 1) _ (by omega) (by omega) (hI2) (sameO_up hs1 (by omega))
            rw [show sFmN B f s (i + 1) = sFmN B f s i + 1 from gsm_s (if_pos ⟨h36, by omega⟩)] at h9
            exact h9
  exact g_sub [4, 5, 6, 3, 2, 1, 0] rfl (loop16 (12 + 1 - 0) 0 M (by omega) (by omega) (by rw [fmB_0]; exact hI) sameO_rf)

def oI (n : Nat) : Int32 := nI n - nI 1000
theorem off_eq {a b : Nat} (hb : b ≤ 1000) : (lN a - lN b).toInt32 = oI (a + 1000 - b) := by
  rw [lg_l2i_sub, lN_i, lN_i]
  unfold oI
  have h1 : nI (a + 1000 - b) + nI b = nI a + nI 1000 := by rw [nI_add, nI_add, Nat.sub_add_cancel (by omega)]
  have h2 : nI (a + 1000 - b) = nI a + nI 1000 - nI b := by rw [← h1, Int32.add_sub_cancel]
  rw [h2, Int32.sub_eq_add_neg, Int32.sub_eq_add_neg, Int32.sub_eq_add_neg]
  rw [Int32.add_assoc, Int32.add_assoc]
  have h3 : ∀ x y : Int32, x + (y + -x) = y := fun x y => by rw [Int32.add_comm y (-x), ← Int32.add_assoc, Int32.add_right_neg, Int32.zero_add]
  rw [h3]
theorem oI_lt {a b : Nat} (ha : a < 1073741824) (hb : b < 1073741824) : oI a < oI b ↔ a < b := by
  have h1 := pk_sub_toInt ha (show 1000 < 2 ^ 30 by decide)
  have h2 := pk_sub_toInt hb (show 1000 < 2 ^ 30 by decide)
  unfold oI
  rw [lt_I, h1, h2]
  omega
def sOf (B : gB) (j : Nat) : Nat := 1000 * B 5 j / sSeen B + 1000 - 1000 * sGive B j (B 1 j) / sAll B
theorem sSeen_le {B : gB} (h : bV B) : sSeen B ≤ 1188 := gsm_le (n := 12) (c := 99) (fun k hk => by
  split
  · rename_i ht; exact bv_f5 h hk ht
  · omega)
theorem sSeen_at {B : gB} {j : Nat} (hj : j < 12) (ht : j % 6 < B 9 0) : B 5 j ≤ sSeen B := by
  have h := gsm_part (f := fun j => if j % 6 < B 9 0 then B 5 j else 0) (n := 12) hj
  rw [if_pos ht] at h
  exact h
theorem sAll_at {B : gB} {j : Nat} (hj : j < 12) (ht : j % 6 < B 9 0) : sGive B j (B 1 j) ≤ sAll B := by
  have e : 6 * (j / 6) + j % 6 = j := by omega
  have h := gsm_part (f := fun k => if k < B 9 0 then sGive B (6 * (j / 6) + k) (B 1 (6 * (j / 6) + k)) else 0) (n := 6) (i := j % 6) (by omega)
  rw [if_pos ht, e] at h
  have h2 : sGive B j (B 1 j) ≤ sLimb B (j / 6) := h
  unfold sAll
  rcases (show j / 6 = 0 ∨ j / 6 = 1 by omega) with q | q <;> rw [q] at h2 <;> omega
theorem div_1000 {a b : Nat} (h : a ≤ b) : 1000 * a / b ≤ 1000 := by
  refine Nat.div_le_of_le_mul ?_
  rw [Nat.mul_comm]
  exact Nat.mul_le_mul h (Nat.le_refl _)
theorem sOf_le {B : gB} {j : Nat} (hj : j < 12) (ht : j % 6 < B 9 0) : sOf B j ≤ 2000 := by
  have h1 := div_1000 (sSeen_at hj ht)
  unfold sOf
  exact Nat.le_trans (Nat.sub_le _ _) (Nat.add_le_add h1 (Nat.le_refl 1000))
set_option maxRecDepth 100000 in
set_option maxHeartbeats 4000000 in
theorem c_X0_offBy (q : gQ3) {M : gM} {B : gB} (hI : cI M B) {j : Nat} (hj : j < 12) (ht : j % 6 < B 9 0) : gCt (wC q) yX0_offBy cX0_offBy 5 (some .int) 3 [.ref (q.2.2 9), .ref (q.2.2 (15 + j)), .int (nI (sSeen B)), .long (lN (sAll B))] M (gR (some (.int (oI (sOf B j)))) M) := by
  refine gMet RX0 (by decide +kernel) rfl (Nat.le_of_ble_eq_true rfl) (fun X hC => ?_)
  have hC : gC X (wC q) cX0_offBy 5 RX0 (some .int) 3 := hC
  show gG X (wC q) _ 5 M 0 [(0, .ref (q.2.2 9)), (1, .ref (q.2.2 (15 + j))), (2, .int (nI (sSeen B))), (3, .long (lN (sAll B)))] []
  have hse := sSeen_le hI.2.2
  have h5 := bv_f5 hI.2.2 hj ht
  have hal := sAll_le B
  have hg := sAll_at hj ht
  have hd := div_1000 hg
  refine g_ldc2 hC cl_X0_136 (v' := lN 1000) (by decide) (gDec_at DX0_offBy_0 0 rfl) ?_
  refine g_aload_n hC (gDec_at DX0_offBy_0 1 rfl) rfl ?_
  refine g_get (w := wC q) hC (15 + j) (v := .int (nI (B 5 j))) fl_X0_171 (show 15 + j < 63 from by have := hj; omega) (cC_p0 q _ _ hj) (g_sv (ci_f5 hI hj ht)) (gDec_at DX0_offBy_0 2 rfl) ?_
  refine g_i2lN hC (by omega) (gDec_at DX0_offBy_0 3 rfl) ?_
  refine g_lmulN hC (gDec_at DX0_offBy_0 4 rfl) ?_
  refine g_iload_n hC (gDec_at DX0_offBy_0 5 rfl) rfl ?_
  refine g_i2lN hC (by omega) (gDec_at DX0_offBy_0 6 rfl) ?_
  refine g_callSNd (w := wC q) hC (c_X6_quotient q (by omega) (by omega)) sf_X6_quotient ml_X0_105 (by decide) rfl rfl (Nat.le_of_ble_eq_true rfl) (gDec_at DX0_offBy_0 7 rfl) ?_
  refine g_ldc2 hC cl_X0_136 (v' := lN 1000) (by decide) (gDec_at DX0_offBy_0 8 rfl) ?_
  refine g_aload_n hC (gDec_at DX0_offBy_0 9 rfl) rfl ?_
  refine g_aload_n hC (gDec_at DX0_offBy_0 10 rfl) rfl ?_
  refine g_callVd (w := wC q) hC 9 (c_X0_giveOf q hI hj ht) vf_X0_giveOf ml_X0_109 (by decide) (show 9 < 63 from by decide) rfl rfl rfl rfl rfl (Nat.le_of_ble_eq_true rfl) (gDec_at DX0_offBy_0 11 rfl) ?_
  refine g_lmulN hC (gDec_at DX0_offBy_0 12 rfl) ?_
  refine g_lload_n hC (gDec_at DX0_offBy_0 13 rfl) rfl ?_
  refine g_callSNd (w := wC q) hC (c_X6_quotient q (by omega) (by omega)) sf_X6_quotient ml_X0_105 (by decide) rfl rfl (Nat.le_of_ble_eq_true rfl) (gDec_at DX0_offBy_0 14 rfl) ?_
  refine g_lsub hC (gDec_at DX0_offBy_0 15 rfl) (v := (lN (1000 * B 5 j / sSeen B) - lN (1000 * sGive B j (B 1 j) / sAll B))) rfl ?_
  refine g_l2i hC (gDec_at DX0_offBy_0 16 rfl) (v := (oI (sOf B j))) (off_eq hd) ?_
  refine g_iret hC (gDec_at DX0_offBy_0 17 rfl) ?_
  exact ⟨rfl, rfl⟩

set_option maxRecDepth 100000 in
set_option maxHeartbeats 4000000 in
theorem c_X0_leastOffPlace_no (q : gQ3) {M : gM} {B : gB} (hI : cI M B) (hz : sSeen B = 0) : gCt (wC q) yX0_leastOffPlace cX0_leastOffPlace 11 (some .int) 5 [.ref (q.2.2 9)] M (gR (some (.int (-9))) M) := by
  refine gMet RX0 (by decide +kernel) rfl (Nat.le_of_ble_eq_true rfl) (fun X hC => ?_)
  have hC : gC X (wC q) cX0_leastOffPlace 11 RX0 (some .int) 5 := hC
  show gG X (wC q) _ 11 M 0 [(0, .ref (q.2.2 9))] []
  have hm := bv_many hI.2.2
  have hse := sSeen_le hI.2.2
  refine g_aload_n hC (gDec_at DX0_leastOffPlace_0 0 rfl) rfl ?_
  refine g_callVd (w := wC q) hC 9 (c_X0_allSeen q hI) vf_X0_allSeen ml_X0_174 (by decide) (show 9 < 63 from by decide) rfl rfl rfl rfl rfl (Nat.le_of_ble_eq_true rfl) (gDec_at DX0_leastOffPlace_0 1 rfl) ?_
  refine g_istore_n hC (gDec_at DX0_leastOffPlace_0 2 rfl) (by decide) (L' := [(1, .int (nI (sSeen B))), (0, .ref (q.2.2 9))]) rfl ?_
  refine g_aload_n hC (gDec_at DX0_leastOffPlace_0 3 rfl) rfl ?_
  refine g_callVd (w := wC q) hC 9 (c_X0_allGives q hI) vf_X0_allGives ml_X0_157 (by decide) (show 9 < 63 from by decide) rfl rfl rfl rfl rfl (Nat.le_of_ble_eq_true rfl) (gDec_at DX0_leastOffPlace_0 4 rfl) ?_
  refine g_lstore_n hC (gDec_at DX0_leastOffPlace_0 5 rfl) (by decide) (L' := [(2, .long (lN (sAll B))), (1, .int (nI (sSeen B))), (0, .ref (q.2.2 9))]) rfl ?_
  refine g_bipush hC (gDec_at DX0_leastOffPlace_0 6 rfl) (v := -9) (by decide) ?_
  refine g_istore hC (gDec_at DX0_leastOffPlace_0 7 rfl) (by decide) (L' := [(4, .int (-9)), (2, .long (lN (sAll B))), (1, .int (nI (sSeen B))), (0, .ref (q.2.2 9))]) rfl ?_
  refine g_iconst hC (gDec_at DX0_leastOffPlace_0 8 rfl) (v := nI 0) (by decide) ?_
  refine g_istore hC (gDec_at DX0_leastOffPlace_0 9 rfl) (by decide) (L' := [(5, .int (nI 0)), (4, .int (-9)), (2, .long (lN (sAll B))), (1, .int (nI (sSeen B))), (0, .ref (q.2.2 9))]) rfl ?_
  refine g_aload_n hC (gDec_at DX0_leastOffPlace_0 10 rfl) rfl ?_
  refine g_get (w := wC q) hC 9 (v := .ref (q.2.2 11)) fl_X0_22 (show 9 < 63 from by decide) rfl rfl (gDec_at DX0_leastOffPlace_0 11 rfl) ?_
  refine g_astore hC (gDec_at DX0_leastOffPlace_0 12 rfl) (by decide) (L' := [(6, .ref (q.2.2 11)), (5, .int (nI 0)), (4, .int (-9)), (2, .long (lN (sAll B))), (1, .int (nI (sSeen B))), (0, .ref (q.2.2 9))]) rfl ?_
  refine g_aload hC (gDec_at DX0_leastOffPlace_0 13 rfl) rfl ?_
  refine g_alen (w := wC q) hC 11 3 (show 11 < 63 from by decide) rfl rfl (gDec_at DX0_leastOffPlace_0 14 rfl) ?_
  refine g_istore hC (gDec_at DX0_leastOffPlace_0 15 rfl) (by decide) (L' := [(7, .int (nI 12)), (6, .ref (q.2.2 11)), (5, .int (nI 0)), (4, .int (-9)), (2, .long (lN (sAll B))), (1, .int (nI (sSeen B))), (0, .ref (q.2.2 9))]) rfl ?_
  refine g_iconst hC (gDec_at DX0_leastOffPlace_0 16 rfl) (v := nI 0) (by decide) ?_
  refine g_istore hC (gDec_at DX0_leastOffPlace_0 17 rfl) (by decide) (L' := [(8, .int (nI 0)), (7, .int (nI 12)), (6, .ref (q.2.2 11)), (5, .int (nI 0)), (4, .int (-9)), (2, .long (lN (sAll B))), (1, .int (nI (sSeen B))), (0, .ref (q.2.2 9))]) rfl ?_
  have loop31 : ∀ (fu i : Nat), i ≤ 12 → 12 - i < fu → gG X (wC q) (gR (some (.int (-9))) M) 11 M 31 [(0, .ref (q.2.2 9)), (1, .int (nI (sSeen B))), (2, .long (lN (sAll B))), (4, .int (-9)), (6, .ref (q.2.2 11)), (7, .int (nI 12)), (8, .int (nI i))] [] := by
    intro fu; induction fu with
    | zero => intro i h1 h2; omega
    | succ fu ih =>
      intro i hi hfu 
      refine g_iload hC (gDec_at DX0_leastOffPlace_0 18 rfl) rfl ?_
      refine g_iload hC (gDec_at DX0_leastOffPlace_0 19 rfl) rfl ?_
      refine g_icmp_geN hC (by omega) (by omega) (gDec_at DX0_leastOffPlace_0 20 rfl) 99 (by decide) (fun h35 => ?_) (fun h35 => ?_)
      · skip
        refine g_iload hC (gDec_at DX0_leastOffPlace_0 50 rfl) rfl ?_
        refine g_iret hC (gDec_at DX0_leastOffPlace_0 51 rfl) ?_
        exact ⟨rfl, rfl⟩
      · skip
        refine g_aload hC (gDec_at DX0_leastOffPlace_0 21 rfl) rfl ?_
        refine g_iload hC (gDec_at DX0_leastOffPlace_0 22 rfl) rfl ?_
        refine g_aald (w := wC q) hC 11 3 i (a := q.2.2 (15 + i)) (show 11 < 63 from by decide) rfl rfl (by omega) (by decide) rfl (gDec_at DX0_leastOffPlace_0 23 rfl) ?_
        refine g_astore hC (gDec_at DX0_leastOffPlace_0 24 rfl) (by decide) (L' := [(9, .ref (q.2.2 (15 + i))), (0, .ref (q.2.2 9)), (1, .int (nI (sSeen B))), (2, .long (lN (sAll B))), (4, .int (-9)), (6, .ref (q.2.2 11)), (7, .int (nI 12)), (8, .int (nI i))]) rfl ?_
        refine g_aload_n hC (gDec_at DX0_leastOffPlace_0 25 rfl) rfl ?_
        refine g_aload hC (gDec_at DX0_leastOffPlace_0 26 rfl) rfl ?_
        refine g_callVd (w := wC q) hC 9 (c_X0_has q hI (by omega)) vf_X0_has ml_X0_42 (by decide) (show 9 < 63 from by decide) rfl rfl rfl rfl rfl (Nat.le_of_ble_eq_true rfl) (gDec_at DX0_leastOffPlace_0 27 rfl) ?_
        refine g_if_eqB hC (gDec_at DX0_leastOffPlace_0 28 rfl) 93 (by decide) (fun h51 => ?_) (fun h51 => ?_)
        · skip
          refine g_iincN hC (gDec_at DX0_leastOffPlace_0 48 rfl) rfl (by decide) (L' := [(8, .int (nI (i + 1))), (9, .ref (q.2.2 (15 + i))), (0, .ref (q.2.2 9)), (1, .int (nI (sSeen B))), (2, .long (lN (sAll B))), (4, .int (-9)), (6, .ref (q.2.2 11)), (7, .int (nI 12))]) rfl ?_
          refine g_goto hC (gDec_at DX0_leastOffPlace_0 49 rfl) 31 (by decide) ?_
          refine g_sub [2, 3, 4, 5, 6, 7, 0] (L' := [(0, .ref (q.2.2 9)), (1, .int (nI (sSeen B))), (2, .long (lN (sAll B))), (4, .int (-9)), (6, .ref (q.2.2 11)), (7, .int (nI 12)), (8, .int (nI (i + 1)))]) rfl ?_
          have h9 := ih (i + 1) (by omega) (by omega)
          exact h9
        · skip
          refine g_iload_n hC (gDec_at DX0_leastOffPlace_0 29 rfl) rfl ?_
          refine g_if_leN hC (by omega) (gDec_at DX0_leastOffPlace_0 30 rfl) 93 (by decide) (fun h55 => ?_) (fun h55 => ?_)
          · skip
            refine g_iincN hC (gDec_at DX0_leastOffPlace_0 48 rfl) rfl (by decide) (L' := [(8, .int (nI (i + 1))), (9, .ref (q.2.2 (15 + i))), (0, .ref (q.2.2 9)), (1, .int (nI (sSeen B))), (2, .long (lN (sAll B))), (4, .int (-9)), (6, .ref (q.2.2 11)), (7, .int (nI 12))]) rfl ?_
            refine g_goto hC (gDec_at DX0_leastOffPlace_0 49 rfl) 31 (by decide) ?_
            refine g_sub [2, 3, 4, 5, 6, 7, 0] (L' := [(0, .ref (q.2.2 9)), (1, .int (nI (sSeen B))), (2, .long (lN (sAll B))), (4, .int (-9)), (6, .ref (q.2.2 11)), (7, .int (nI 12)), (8, .int (nI (i + 1)))]) rfl ?_
            have h9 := ih (i + 1) (by omega) (by omega)
            exact h9
          · skip
            exact absurd hz (by omega)
  exact g_sub [7, 6, 5, 4, 2, 1, 0] rfl (loop31 (12 + 1 - 0) 0 (by omega) (by omega))

set_option maxRecDepth 100000 in
set_option maxHeartbeats 4000000 in
theorem c_X0_leastOffPlace (q : gQ3) {M : gM} {B : gB} (hI : cI M B) (hz : 0 < sSeen B) : gCt (wC q) yX0_leastOffPlace cX0_leastOffPlace 11 (some .int) 5 [.ref (q.2.2 9)] M (gR (some (.int (nI (sTold (sExt B (sOf B) 0 12))))) M) := by
  refine gMet RX0 (by decide +kernel) rfl (Nat.le_of_ble_eq_true rfl) (fun X hC => ?_)
  have hC : gC X (wC q) cX0_leastOffPlace 11 RX0 (some .int) 5 := hC
  show gG X (wC q) _ 11 M 0 [(0, .ref (q.2.2 9))] []
  have hm := bv_many hI.2.2
  have hse := sSeen_le hI.2.2
  refine g_aload_n hC (gDec_at DX0_leastOffPlace_0 0 rfl) rfl ?_
  refine g_callVd (w := wC q) hC 9 (c_X0_allSeen q hI) vf_X0_allSeen ml_X0_174 (by decide) (show 9 < 63 from by decide) rfl rfl rfl rfl rfl (Nat.le_of_ble_eq_true rfl) (gDec_at DX0_leastOffPlace_0 1 rfl) ?_
  refine g_istore_n hC (gDec_at DX0_leastOffPlace_0 2 rfl) (by decide) (L' := [(1, .int (nI (sSeen B))), (0, .ref (q.2.2 9))]) rfl ?_
  refine g_aload_n hC (gDec_at DX0_leastOffPlace_0 3 rfl) rfl ?_
  refine g_callVd (w := wC q) hC 9 (c_X0_allGives q hI) vf_X0_allGives ml_X0_157 (by decide) (show 9 < 63 from by decide) rfl rfl rfl rfl rfl (Nat.le_of_ble_eq_true rfl) (gDec_at DX0_leastOffPlace_0 4 rfl) ?_
  refine g_lstore_n hC (gDec_at DX0_leastOffPlace_0 5 rfl) (by decide) (L' := [(2, .long (lN (sAll B))), (1, .int (nI (sSeen B))), (0, .ref (q.2.2 9))]) rfl ?_
  refine g_bipush hC (gDec_at DX0_leastOffPlace_0 6 rfl) (v := -9) (by decide) ?_
  refine g_istore hC (gDec_at DX0_leastOffPlace_0 7 rfl) (by decide) (L' := [(4, .int (-9)), (2, .long (lN (sAll B))), (1, .int (nI (sSeen B))), (0, .ref (q.2.2 9))]) rfl ?_
  refine g_iconst hC (gDec_at DX0_leastOffPlace_0 8 rfl) (v := nI 0) (by decide) ?_
  refine g_istore hC (gDec_at DX0_leastOffPlace_0 9 rfl) (by decide) (L' := [(5, .int (nI 0)), (4, .int (-9)), (2, .long (lN (sAll B))), (1, .int (nI (sSeen B))), (0, .ref (q.2.2 9))]) rfl ?_
  refine g_aload_n hC (gDec_at DX0_leastOffPlace_0 10 rfl) rfl ?_
  refine g_get (w := wC q) hC 9 (v := .ref (q.2.2 11)) fl_X0_22 (show 9 < 63 from by decide) rfl rfl (gDec_at DX0_leastOffPlace_0 11 rfl) ?_
  refine g_astore hC (gDec_at DX0_leastOffPlace_0 12 rfl) (by decide) (L' := [(6, .ref (q.2.2 11)), (5, .int (nI 0)), (4, .int (-9)), (2, .long (lN (sAll B))), (1, .int (nI (sSeen B))), (0, .ref (q.2.2 9))]) rfl ?_
  refine g_aload hC (gDec_at DX0_leastOffPlace_0 13 rfl) rfl ?_
  refine g_alen (w := wC q) hC 11 3 (show 11 < 63 from by decide) rfl rfl (gDec_at DX0_leastOffPlace_0 14 rfl) ?_
  refine g_istore hC (gDec_at DX0_leastOffPlace_0 15 rfl) (by decide) (L' := [(7, .int (nI 12)), (6, .ref (q.2.2 11)), (5, .int (nI 0)), (4, .int (-9)), (2, .long (lN (sAll B))), (1, .int (nI (sSeen B))), (0, .ref (q.2.2 9))]) rfl ?_
  refine g_iconst hC (gDec_at DX0_leastOffPlace_0 16 rfl) (v := nI 0) (by decide) ?_
  refine g_istore hC (gDec_at DX0_leastOffPlace_0 17 rfl) (by decide) (L' := [(8, .int (nI 0)), (7, .int (nI 12)), (6, .ref (q.2.2 11)), (5, .int (nI 0)), (4, .int (-9)), (2, .long (lN (sAll B))), (1, .int (nI (sSeen B))), (0, .ref (q.2.2 9))]) rfl ?_
  have loop31 : ∀ (fu i : Nat) (fnd fo : Int32), i ≤ 12 → 12 - i < fu → (i = 0 ∧ fnd = -9 ∧ fo = nI 0 ∨ 0 < i ∧ fnd = nI (sTold (sExt B (sOf B) 0 i)) ∧ fo = oI (sOf B (sExt B (sOf B) 0 i))) → gG X (wC q) (gR (some (.int (nI (sTold (sExt B (sOf B) 0 12))))) M) 11 M 31 [(0, .ref (q.2.2 9)), (1, .int (nI (sSeen B))), (2, .long (lN (sAll B))), (4, .int fnd), (5, .int fo), (6, .ref (q.2.2 11)), (7, .int (nI 12)), (8, .int (nI i))] [] := by
    intro fu; induction fu with
    | zero => intro i fnd fo h1 h2; omega
    | succ fu ih =>
      intro i fnd fo hi hfu hf
      rcases hf with ⟨h0, rfl, rfl⟩ | ⟨h0, rfl, rfl⟩
      · skip
        refine g_iload hC (gDec_at DX0_leastOffPlace_0 18 rfl) rfl ?_
        refine g_iload hC (gDec_at DX0_leastOffPlace_0 19 rfl) rfl ?_
        refine g_icmp_geN hC (by omega) (by omega) (gDec_at DX0_leastOffPlace_0 20 rfl) 99 (by decide) (fun h35 => ?_) (fun h35 => ?_)
        · skip
          omega
        · skip
          refine g_aload hC (gDec_at DX0_leastOffPlace_0 21 rfl) rfl ?_
          refine g_iload hC (gDec_at DX0_leastOffPlace_0 22 rfl) rfl ?_
          refine g_aald (w := wC q) hC 11 3 i (a := q.2.2 (15 + i)) (show 11 < 63 from by decide) rfl rfl (by omega) (by decide) rfl (gDec_at DX0_leastOffPlace_0 23 rfl) ?_
          refine g_astore hC (gDec_at DX0_leastOffPlace_0 24 rfl) (by decide) (L' := [(9, .ref (q.2.2 (15 + i))), (0, .ref (q.2.2 9)), (1, .int (nI (sSeen B))), (2, .long (lN (sAll B))), (4, .int (-9)), (5, .int (nI 0)), (6, .ref (q.2.2 11)), (7, .int (nI 12)), (8, .int (nI i))]) rfl ?_
          refine g_aload_n hC (gDec_at DX0_leastOffPlace_0 25 rfl) rfl ?_
          refine g_aload hC (gDec_at DX0_leastOffPlace_0 26 rfl) rfl ?_
          refine g_callVd (w := wC q) hC 9 (c_X0_has q hI (by omega)) vf_X0_has ml_X0_42 (by decide) (show 9 < 63 from by decide) rfl rfl rfl rfl rfl (Nat.le_of_ble_eq_true rfl) (gDec_at DX0_leastOffPlace_0 27 rfl) ?_
          refine g_if_eqB hC (gDec_at DX0_leastOffPlace_0 28 rfl) 93 (by decide) (fun h51 => ?_) (fun h51 => ?_)
          · skip
            exact absurd h51 (by subst h0; omega)
          · skip
            have hoi := sOf_le (by omega : i < 12) h51
            refine g_iload_n hC (gDec_at DX0_leastOffPlace_0 29 rfl) rfl ?_
            refine g_if_leN hC (by omega) (gDec_at DX0_leastOffPlace_0 30 rfl) 93 (by decide) (fun h55 => ?_) (fun h55 => ?_)
            · skip
              exact absurd hz (by omega)
            · skip
              refine g_aload_n hC (gDec_at DX0_leastOffPlace_0 31 rfl) rfl ?_
              refine g_aload hC (gDec_at DX0_leastOffPlace_0 32 rfl) rfl ?_
              refine g_iload_n hC (gDec_at DX0_leastOffPlace_0 33 rfl) rfl ?_
              refine g_lload_n hC (gDec_at DX0_leastOffPlace_0 34 rfl) rfl ?_
              refine g_callVd (w := wC q) hC 9 (c_X0_offBy q hI (by omega) (by omega)) vf_X0_offBy ml_X0_177 (by decide) (show 9 < 63 from by decide) rfl rfl rfl rfl rfl (Nat.le_of_ble_eq_true rfl) (gDec_at DX0_leastOffPlace_0 35 rfl) ?_
              refine g_istore hC (gDec_at DX0_leastOffPlace_0 36 rfl) (by decide) (L' := [(10, .int (oI (sOf B i))), (9, .ref (q.2.2 (15 + i))), (0, .ref (q.2.2 9)), (1, .int (nI (sSeen B))), (2, .long (lN (sAll B))), (4, .int (-9)), (5, .int (nI 0)), (6, .ref (q.2.2 11)), (7, .int (nI 12)), (8, .int (nI i))]) rfl ?_
              refine g_iload hC (gDec_at DX0_leastOffPlace_0 37 rfl) rfl ?_
              refine g_bipush hC (gDec_at DX0_leastOffPlace_0 38 rfl) (v := -9) (by decide) ?_
              refine g_icmp_eq hC (gDec_at DX0_leastOffPlace_0 39 rfl) 82 (by decide) (fun h => ?_) (fun h => absurd rfl h)
              refine g_aload hC (gDec_at DX0_leastOffPlace_0 43 rfl) rfl ?_
              refine g_get (w := wC q) hC (15 + i) (v := .int (nI (10 * (i / 6) + i % 6))) fl_X0_75 (show 15 + i < 63 from by have := (by omega); omega) (cC_p0 q _ _ (by omega)) (g_sv (ci_told hI (by omega))) (gDec_at DX0_leastOffPlace_0 44 rfl) ?_
              refine g_istore hC (gDec_at DX0_leastOffPlace_0 45 rfl) (by decide) (L' := [(4, .int (nI (10 * (i / 6) + i % 6))), (10, .int (oI (sOf B i))), (9, .ref (q.2.2 (15 + i))), (0, .ref (q.2.2 9)), (1, .int (nI (sSeen B))), (2, .long (lN (sAll B))), (5, .int (nI 0)), (6, .ref (q.2.2 11)), (7, .int (nI 12)), (8, .int (nI i))]) rfl ?_
              refine g_iload hC (gDec_at DX0_leastOffPlace_0 46 rfl) rfl ?_
              refine g_istore hC (gDec_at DX0_leastOffPlace_0 47 rfl) (by decide) (L' := [(5, .int (oI (sOf B i))), (4, .int (nI (10 * (i / 6) + i % 6))), (10, .int (oI (sOf B i))), (9, .ref (q.2.2 (15 + i))), (0, .ref (q.2.2 9)), (1, .int (nI (sSeen B))), (2, .long (lN (sAll B))), (6, .ref (q.2.2 11)), (7, .int (nI 12)), (8, .int (nI i))]) rfl ?_
              refine g_iincN hC (gDec_at DX0_leastOffPlace_0 48 rfl) rfl (by decide) (L' := [(8, .int (nI (i + 1))), (5, .int (oI (sOf B i))), (4, .int (nI (10 * (i / 6) + i % 6))), (10, .int (oI (sOf B i))), (9, .ref (q.2.2 (15 + i))), (0, .ref (q.2.2 9)), (1, .int (nI (sSeen B))), (2, .long (lN (sAll B))), (6, .ref (q.2.2 11)), (7, .int (nI 12))]) rfl ?_
              refine g_goto hC (gDec_at DX0_leastOffPlace_0 49 rfl) 31 (by decide) ?_
              refine g_sub [5, 6, 7, 2, 1, 8, 9, 0] (L' := [(0, .ref (q.2.2 9)), (1, .int (nI (sSeen B))), (2, .long (lN (sAll B))), (4, .int (nI (10 * (i / 6) + i % 6))), (5, .int (oI (sOf B i))), (6, .ref (q.2.2 11)), (7, .int (nI 12)), (8, .int (nI (i + 1)))]) rfl ?_
              have h9 := ih (i + 1) (nI (10 * (i / 6) + i % 6)) (oI (sOf B i)) (by omega) (by omega) (Or.inr ⟨by omega, by subst h0; rw [sExt_1]; rfl, by subst h0; rw [sExt_1]⟩)
              exact h9
      · skip
        refine g_iload hC (gDec_at DX0_leastOffPlace_0 18 rfl) rfl ?_
        refine g_iload hC (gDec_at DX0_leastOffPlace_0 19 rfl) rfl ?_
        refine g_icmp_geN hC (by omega) (by omega) (gDec_at DX0_leastOffPlace_0 20 rfl) 99 (by decide) (fun h35_1 => ?_) (fun h35_1 => ?_)
        · skip
          obtain rfl : i = 12 := by omega
          refine g_iload hC (gDec_at DX0_leastOffPlace_0 50 rfl) rfl ?_
          refine g_iret hC (gDec_at DX0_leastOffPlace_0 51 rfl) ?_
          exact ⟨rfl, rfl⟩
        · skip
          refine g_aload hC (gDec_at DX0_leastOffPlace_0 21 rfl) rfl ?_
          refine g_iload hC (gDec_at DX0_leastOffPlace_0 22 rfl) rfl ?_
          refine g_aald (w := wC q) hC 11 3 i (a := q.2.2 (15 + i)) (show 11 < 63 from by decide) rfl rfl (by omega) (by decide) rfl (gDec_at DX0_leastOffPlace_0 23 rfl) ?_
          refine g_astore hC (gDec_at DX0_leastOffPlace_0 24 rfl) (by decide) (L' := [(9, .ref (q.2.2 (15 + i))), (0, .ref (q.2.2 9)), (1, .int (nI (sSeen B))), (2, .long (lN (sAll B))), (4, .int (nI (sTold (sExt B (sOf B) 0 i)))), (5, .int (oI (sOf B (sExt B (sOf B) 0 i)))), (6, .ref (q.2.2 11)), (7, .int (nI 12)), (8, .int (nI i))]) rfl ?_
          refine g_aload_n hC (gDec_at DX0_leastOffPlace_0 25 rfl) rfl ?_
          refine g_aload hC (gDec_at DX0_leastOffPlace_0 26 rfl) rfl ?_
          refine g_callVd (w := wC q) hC 9 (c_X0_has q hI (by omega)) vf_X0_has ml_X0_42 (by decide) (show 9 < 63 from by decide) rfl rfl rfl rfl rfl (Nat.le_of_ble_eq_true rfl) (gDec_at DX0_leastOffPlace_0 27 rfl) ?_
          refine g_if_eqB hC (gDec_at DX0_leastOffPlace_0 28 rfl) 93 (by decide) (fun h51_1 => ?_) (fun h51_1 => ?_)
          · skip
            refine g_iincN hC (gDec_at DX0_leastOffPlace_0 48 rfl) rfl (by decide) (L' := [(8, .int (nI (i + 1))), (9, .ref (q.2.2 (15 + i))), (0, .ref (q.2.2 9)), (1, .int (nI (sSeen B))), (2, .long (lN (sAll B))), (4, .int (nI (sTold (sExt B (sOf B) 0 i)))), (5, .int (oI (sOf B (sExt B (sOf B) 0 i)))), (6, .ref (q.2.2 11)), (7, .int (nI 12))]) rfl ?_
            refine g_goto hC (gDec_at DX0_leastOffPlace_0 49 rfl) 31 (by decide) ?_
            refine g_sub [2, 3, 4, 5, 6, 7, 8, 0] (L' := [(0, .ref (q.2.2 9)), (1, .int (nI (sSeen B))), (2, .long (lN (sAll B))), (4, .int (nI (sTold (sExt B (sOf B) 0 i)))), (5, .int (oI (sOf B (sExt B (sOf B) 0 i)))), (6, .ref (q.2.2 11)), (7, .int (nI 12)), (8, .int (nI (i + 1)))]) rfl ?_
            have h9 := ih (i + 1) (nI (sTold (sExt B (sOf B) 0 i))) (oI (sOf B (sExt B (sOf B) 0 i))) (by omega) (by omega) (Or.inr ⟨by omega, by rw [show (sExt B (sOf B) 0 (i + 1)) = (sExt B (sOf B) 0 i) from if_neg (fun z => h51_1 z.1)], by rw [show (sExt B (sOf B) 0 (i + 1)) = (sExt B (sOf B) 0 i) from if_neg (fun z => h51_1 z.1)]⟩)
            exact h9
          · skip
            have hoi := sOf_le (by omega : i < 12) h51_1
            have hex := sExt_lt (B := B) (f := sOf B) (g := 0) hm.1 i h0
            have hoe := sOf_le (B := B) (j := (sExt B (sOf B) 0 i)) (by omega) hex.2
            refine g_iload_n hC (gDec_at DX0_leastOffPlace_0 29 rfl) rfl ?_
            refine g_if_leN hC (by omega) (gDec_at DX0_leastOffPlace_0 30 rfl) 93 (by decide) (fun h55_1 => ?_) (fun h55_1 => ?_)
            · skip
              exact absurd hz (by omega)
            · skip
              refine g_aload_n hC (gDec_at DX0_leastOffPlace_0 31 rfl) rfl ?_
              refine g_aload hC (gDec_at DX0_leastOffPlace_0 32 rfl) rfl ?_
              refine g_iload_n hC (gDec_at DX0_leastOffPlace_0 33 rfl) rfl ?_
              refine g_lload_n hC (gDec_at DX0_leastOffPlace_0 34 rfl) rfl ?_
              refine g_callVd (w := wC q) hC 9 (c_X0_offBy q hI (by omega) (by omega)) vf_X0_offBy ml_X0_177 (by decide) (show 9 < 63 from by decide) rfl rfl rfl rfl rfl (Nat.le_of_ble_eq_true rfl) (gDec_at DX0_leastOffPlace_0 35 rfl) ?_
              refine g_istore hC (gDec_at DX0_leastOffPlace_0 36 rfl) (by decide) (L' := [(10, .int (oI (sOf B i))), (9, .ref (q.2.2 (15 + i))), (0, .ref (q.2.2 9)), (1, .int (nI (sSeen B))), (2, .long (lN (sAll B))), (4, .int (nI (sTold (sExt B (sOf B) 0 i)))), (5, .int (oI (sOf B (sExt B (sOf B) 0 i)))), (6, .ref (q.2.2 11)), (7, .int (nI 12)), (8, .int (nI i))]) rfl ?_
              refine g_iload hC (gDec_at DX0_leastOffPlace_0 37 rfl) rfl ?_
              refine g_bipush hC (gDec_at DX0_leastOffPlace_0 38 rfl) (v := -9) (by decide) ?_
              refine g_icmp_eq hC (gDec_at DX0_leastOffPlace_0 39 rfl) 82 (by decide) (fun h => absurd h (nI_n9 (by have := (sExt_lt (B := B) (f := sOf B) (g := 0) hm.1 i h0).1; unfold sTold; omega))) (fun h => ?_)
              refine g_iload hC (gDec_at DX0_leastOffPlace_0 40 rfl) rfl ?_
              refine g_iload hC (gDec_at DX0_leastOffPlace_0 41 rfl) rfl ?_
              refine g_icmp_ge hC (gDec_at DX0_leastOffPlace_0 42 rfl) 93 (by decide) (fun h79 => ?_) (fun h79 => ?_)
              · skip
                have h79 : sOf B (sExt B (sOf B) 0 i) ≤ sOf B i := Nat.le_of_not_lt (fun z => absurd ((oI_lt (by omega) (by omega)).mpr z) (Int32.not_lt.mpr h79))
                refine g_iincN hC (gDec_at DX0_leastOffPlace_0 48 rfl) rfl (by decide) (L' := [(8, .int (nI (i + 1))), (10, .int (oI (sOf B i))), (9, .ref (q.2.2 (15 + i))), (0, .ref (q.2.2 9)), (1, .int (nI (sSeen B))), (2, .long (lN (sAll B))), (4, .int (nI (sTold (sExt B (sOf B) 0 i)))), (5, .int (oI (sOf B (sExt B (sOf B) 0 i)))), (6, .ref (q.2.2 11)), (7, .int (nI 12))]) rfl ?_
                refine g_goto hC (gDec_at DX0_leastOffPlace_0 49 rfl) 31 (by decide) ?_
                refine g_sub [3, 4, 5, 6, 7, 8, 9, 0] (L' := [(0, .ref (q.2.2 9)), (1, .int (nI (sSeen B))), (2, .long (lN (sAll B))), (4, .int (nI (sTold (sExt B (sOf B) 0 i)))), (5, .int (oI (sOf B (sExt B (sOf B) 0 i)))), (6, .ref (q.2.2 11)), (7, .int (nI 12)), (8, .int (nI (i + 1)))]) rfl ?_
                have h9 := ih (i + 1) (nI (sTold (sExt B (sOf B) 0 i))) (oI (sOf B (sExt B (sOf B) 0 i))) (by omega) (by omega) (Or.inr ⟨by omega, by rw [show (sExt B (sOf B) 0 (i + 1)) = (sExt B (sOf B) 0 i) from if_neg (fun z => by have := z.2; omega)], by rw [show (sExt B (sOf B) 0 (i + 1)) = (sExt B (sOf B) 0 i) from if_neg (fun z => by have := z.2; omega)]⟩)
                exact h9
              · skip
                have h79 : sOf B i < sOf B (sExt B (sOf B) 0 i) :=  (oI_lt (by omega) (by omega)).mp (Int32.not_le.mp h79)
                refine g_aload hC (gDec_at DX0_leastOffPlace_0 43 rfl) rfl ?_
                refine g_get (w := wC q) hC (15 + i) (v := .int (nI (10 * (i / 6) + i % 6))) fl_X0_75 (show 15 + i < 63 from by have := (by omega); omega) (cC_p0 q _ _ (by omega)) (g_sv (ci_told hI (by omega))) (gDec_at DX0_leastOffPlace_0 44 rfl) ?_
                refine g_istore hC (gDec_at DX0_leastOffPlace_0 45 rfl) (by decide) (L' := [(4, .int (nI (10 * (i / 6) + i % 6))), (10, .int (oI (sOf B i))), (9, .ref (q.2.2 (15 + i))), (0, .ref (q.2.2 9)), (1, .int (nI (sSeen B))), (2, .long (lN (sAll B))), (5, .int (oI (sOf B (sExt B (sOf B) 0 i)))), (6, .ref (q.2.2 11)), (7, .int (nI 12)), (8, .int (nI i))]) rfl ?_
                refine g_iload hC (gDec_at DX0_leastOffPlace_0 46 rfl) rfl ?_
                refine g_istore hC (gDec_at DX0_leastOffPlace_0 47 rfl) (by decide) (L' := [(5, .int (oI (sOf B i))), (4, .int (nI (10 * (i / 6) + i % 6))), (10, .int (oI (sOf B i))), (9, .ref (q.2.2 (15 + i))), (0, .ref (q.2.2 9)), (1, .int (nI (sSeen B))), (2, .long (lN (sAll B))), (6, .ref (q.2.2 11)), (7, .int (nI 12)), (8, .int (nI i))]) rfl ?_
                refine g_iincN hC (gDec_at DX0_leastOffPlace_0 48 rfl) rfl (by decide) (L' := [(8, .int (nI (i + 1))), (5, .int (oI (sOf B i))), (4, .int (nI (10 * (i / 6) + i % 6))), (10, .int (oI (sOf B i))), (9, .ref (q.2.2 (15 + i))), (0, .ref (q.2.2 9)), (1, .int (nI (sSeen B))), (2, .long (lN (sAll B))), (6, .ref (q.2.2 11)), (7, .int (nI 12))]) rfl ?_
                refine g_goto hC (gDec_at DX0_leastOffPlace_0 49 rfl) 31 (by decide) ?_
                refine g_sub [5, 6, 7, 2, 1, 8, 9, 0] (L' := [(0, .ref (q.2.2 9)), (1, .int (nI (sSeen B))), (2, .long (lN (sAll B))), (4, .int (nI (10 * (i / 6) + i % 6))), (5, .int (oI (sOf B i))), (6, .ref (q.2.2 11)), (7, .int (nI 12)), (8, .int (nI (i + 1)))]) rfl ?_
                have h9 := ih (i + 1) (nI (10 * (i / 6) + i % 6)) (oI (sOf B i)) (by omega) (by omega) (Or.inr ⟨by omega, by rw [show (sExt B (sOf B) 0 (i + 1)) = i from if_pos ⟨h51_1, by omega⟩]; rfl, by rw [show (sExt B (sOf B) 0 (i + 1)) = i from if_pos ⟨h51_1, by omega⟩]⟩)
                exact h9
  exact g_sub [7, 6, 5, 4, 3, 2, 1, 0] rfl (loop31 (12 + 1 - 0) 0 (-9) (nI 0) (by omega) (by omega) (Or.inl ⟨rfl, rfl, rfl⟩))
