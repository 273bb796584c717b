/-! BowBend, the methods that only ask, and those that change one thing -/
def sCh (n : Nat) : Nat → Nat
  | 0 => 1
  | k + 1 => sCh n k * (n - k) / (k + 1)
theorem sCh_le : ∀ n, n < 13 → ∀ k, k < 14 → sCh n k ≤ 1000 := by decide
def sTerm (n t h : Nat) : Nat := sCh n h * t ^ h * (10 - t) ^ (n - h)
theorem pow_le10 {t : Nat} (h : t ≤ 10) (n : Nat) : t ^ n ≤ 10 ^ n := Nat.pow_le_pow_left h n
theorem sTerm_le {n t h : Nat} (hn : n ≤ 12) (ht : t ≤ 10) (hh : h ≤ n) : sTerm n t h ≤ 1000000000000000 := by
  have h1 := sCh_le n (by omega) h (by omega)
  have h2 := pow_le10 ht h
  have h3 := pow_le10 (show 10 - t ≤ 10 by omega) (n - h)
  have h4 : sTerm n t h ≤ 1000 * 10 ^ h * 10 ^ (n - h) := mul_bd (mul_bd h1 h2) h3
  have h5 : 1000 * 10 ^ h * 10 ^ (n - h) = 1000 * 10 ^ n := by rw [Nat.mul_assoc, ← Nat.pow_add, show h + (n - h) = n by omega]
  have h6 : (10 : Nat) ^ n ≤ 10 ^ 12 := Nat.pow_le_pow_right (by omega) hn
  have h7 : 1000 * 10 ^ n ≤ 1000 * 10 ^ 12 := Nat.mul_le_mul (Nat.le_refl _) h6
  have h8 : (1000 : Nat) * 10 ^ 12 = 1000000000000000 := by decide
  omega
def sWay (n t : Nat) (P : Nat → Prop) [DecidablePred P] : Nat := gsm (fun h => if P h then sTerm n t h else 0) (n + 1)
theorem sWay_le {n t : Nat} (hn : n ≤ 12) (ht : t ≤ 10) (P : Nat → Prop) [DecidablePred P] : sWay n t P ≤ 13000000000000000 := by
  have h := gsm_le (f := fun h => if P h then sTerm n t h else 0) (n := n + 1) (c := 1000000000000000) (fun k hk => by
    split
    · exact sTerm_le hn ht (by omega)
    · omega)
  have h2 : (n + 1) * 1000000000000000 ≤ 13 * 1000000000000000 := Nat.mul_le_mul (by omega) (Nat.le_refl _)
  unfold sWay
  omega
set_option maxRecDepth 100000 in
set_option maxHeartbeats 4000000 in
theorem c_X6_waysBetween (q : gQ3) {M : gM} {n t a : Nat} {to : Int32} {P : Nat → Prop} [DecidablePred P] (hn : n ≤ 12) (ht : t ≤ 10) (ha : a ≤ 12) (hP : ∀ h, h ≤ n → (a ≤ h ∧ ¬ to < nI h ↔ P h)) : gCt (wC q) yX6_waysBetween cX6_waysBetween 9 (some .long) 1 [.int (nI n), .int (nI t), .int (nI a), .int to] M (gR (some (.long (lN (sWay n t P)))) M) := by
  refine gMet RX6 (by decide +kernel) rfl (Nat.le_of_ble_eq_true rfl) (fun X hC => ?_)
  have hC : gC X (wC q) cX6_waysBetween 9 RX6 (some .long) 1 := hC
  show gG X (wC q) _ 9 M 0 [(0, .int (nI n)), (1, .int (nI t)), (2, .int (nI a)), (3, .int to)] []
  refine g_lconst hC (gDec_at DX6_waysBetween_0 0 rfl) (v := lN 0) (by decide) ?_
  refine g_lstore hC (gDec_at DX6_waysBetween_0 1 rfl) (by decide) (L' := [(4, .long (lN 0)), (0, .int (nI n)), (1, .int (nI t)), (2, .int (nI a)), (3, .int to)]) rfl ?_
  refine g_lconst hC (gDec_at DX6_waysBetween_0 2 rfl) (v := lN 1) (by decide) ?_
  refine g_lstore hC (gDec_at DX6_waysBetween_0 3 rfl) (by decide) (L' := [(6, .long (lN 1)), (4, .long (lN 0)), (0, .int (nI n)), (1, .int (nI t)), (2, .int (nI a)), (3, .int to)]) rfl ?_
  refine g_iconst hC (gDec_at DX6_waysBetween_0 4 rfl) (v := nI 0) (by decide) ?_
  refine g_istore hC (gDec_at DX6_waysBetween_0 5 rfl) (by decide) (L' := [(8, .int (nI 0)), (6, .long (lN 1)), (4, .long (lN 0)), (0, .int (nI n)), (1, .int (nI t)), (2, .int (nI a)), (3, .int to)]) rfl ?_
  have loop9 : ∀ (fu i : Nat), i ≤ (n + 1) → (n + 1) - i < fu → gG X (wC q) (gR (some (.long (lN (sWay n t P)))) M) 9 M 9 [(0, .int (nI n)), (1, .int (nI t)), (2, .int (nI a)), (3, .int to), (4, .long (lN (gsm (fun h => if P h then sTerm n t h else 0) i))), (6, .long (lN (sCh n i))), (8, .int (nI i))] [] := by
    intro fu; induction fu with
    | zero => intro i h1 h2; omega
    | succ fu ih =>
      intro i hi hfu 
      have hcl : i ≤ n → sCh n i ≤ 1000 := fun z => sCh_le n (by omega) i (by omega)
      refine g_iload hC (gDec_at DX6_waysBetween_0 6 rfl) rfl ?_
      refine g_iload_n hC (gDec_at DX6_waysBetween_0 7 rfl) rfl ?_
      refine g_icmp_gtN hC (by omega) (by omega) (gDec_at DX6_waysBetween_0 8 rfl) 79 (by decide) (fun h12 => ?_) (fun h12 => ?_)
      · skip
        obtain rfl : i = n + 1 := by omega
        refine g_lload hC (gDec_at DX6_waysBetween_0 47 rfl) rfl ?_
        refine g_lret hC (gDec_at DX6_waysBetween_0 48 rfl) ?_
        exact ⟨rfl, rfl⟩
      · skip
        refine g_iload hC (gDec_at DX6_waysBetween_0 9 rfl) rfl ?_
        refine g_iload_n hC (gDec_at DX6_waysBetween_0 10 rfl) rfl ?_
        refine g_icmp_ltN hC (by omega) (by omega) (gDec_at DX6_waysBetween_0 11 rfl) 55 (by decide) (fun h18 => ?_) (fun h18 => ?_)
        · skip
          refine g_lload hC (gDec_at DX6_waysBetween_0 33 rfl) rfl ?_
          refine g_iload_n hC (gDec_at DX6_waysBetween_0 34 rfl) rfl ?_
          refine g_iload hC (gDec_at DX6_waysBetween_0 35 rfl) rfl ?_
          refine g_isubN hC (by omega) (gDec_at DX6_waysBetween_0 36 rfl) ?_
          refine g_i2lN hC (by omega) (gDec_at DX6_waysBetween_0 37 rfl) ?_
          refine g_lmulN hC (gDec_at DX6_waysBetween_0 38 rfl) ?_
          refine g_iload hC (gDec_at DX6_waysBetween_0 39 rfl) rfl ?_
          refine g_iconst hC (gDec_at DX6_waysBetween_0 40 rfl) (v := nI 1) (by decide) ?_
          refine g_iaddN hC (gDec_at DX6_waysBetween_0 41 rfl) ?_
          refine g_i2lN hC (by omega) (gDec_at DX6_waysBetween_0 42 rfl) ?_
          refine g_callSd (w := wC q) hC (c_X6_quotient q (by have z1 := mul_bd (hcl (by omega)) (by omega : n - i ≤ 12); omega) (by omega)) sf_X6_quotient ml_X6_243 (by decide) rfl rfl (Nat.le_of_ble_eq_true rfl) (gDec_at DX6_waysBetween_0 43 rfl) ?_
          refine g_lstore hC (gDec_at DX6_waysBetween_0 44 rfl) (by decide) (L' := [(6, .long (lN (sCh n (i + 1)))), (0, .int (nI n)), (1, .int (nI t)), (2, .int (nI a)), (3, .int to), (4, .long (lN (gsm (fun h => if P h then sTerm n t h else 0) i))), (8, .int (nI i))]) rfl ?_
          refine g_iincN hC (gDec_at DX6_waysBetween_0 45 rfl) rfl (by decide) (L' := [(8, .int (nI (i + 1))), (6, .long (lN (sCh n (i + 1)))), (0, .int (nI n)), (1, .int (nI t)), (2, .int (nI a)), (3, .int to), (4, .long (lN (gsm (fun h => if P h then sTerm n t h else 0) i)))]) rfl ?_
          refine g_goto hC (gDec_at DX6_waysBetween_0 46 rfl) 9 (by decide) ?_
          refine g_sub [2, 3, 4, 5, 6, 1, 0] (L' := [(0, .int (nI n)), (1, .int (nI t)), (2, .int (nI a)), (3, .int to), (4, .long (lN (gsm (fun h => if P h then sTerm n t h else 0) i))), (6, .long (lN (sCh n (i + 1)))), (8, .int (nI (i + 1)))]) rfl ?_
          have h9 := ih (i + 1) (by omega) (by omega)
          rw [show gsm (fun h => if P h then sTerm n t h else 0) (i + 1) = gsm (fun h => if P h then sTerm n t h else 0) i from gsm_s0 (if_neg (fun z => by have z1 := ((hP i (by omega)).mpr z).1; omega))] at h9
          exact h9
        · skip
          refine g_iload hC (gDec_at DX6_waysBetween_0 12 rfl) rfl ?_
          refine g_iload_n hC (gDec_at DX6_waysBetween_0 13 rfl) rfl ?_
          refine g_icmp_gt hC (gDec_at DX6_waysBetween_0 14 rfl) 55 (by decide) (fun h24 => ?_) (fun h24 => ?_)
          · skip
            refine g_lload hC (gDec_at DX6_waysBetween_0 33 rfl) rfl ?_
            refine g_iload_n hC (gDec_at DX6_waysBetween_0 34 rfl) rfl ?_
            refine g_iload hC (gDec_at DX6_waysBetween_0 35 rfl) rfl ?_
            refine g_isubN hC (by omega) (gDec_at DX6_waysBetween_0 36 rfl) ?_
            refine g_i2lN hC (by omega) (gDec_at DX6_waysBetween_0 37 rfl) ?_
            refine g_lmulN hC (gDec_at DX6_waysBetween_0 38 rfl) ?_
            refine g_iload hC (gDec_at DX6_waysBetween_0 39 rfl) rfl ?_
            refine g_iconst hC (gDec_at DX6_waysBetween_0 40 rfl) (v := nI 1) (by decide) ?_
            refine g_iaddN hC (gDec_at DX6_waysBetween_0 41 rfl) ?_
            refine g_i2lN hC (by omega) (gDec_at DX6_waysBetween_0 42 rfl) ?_
            refine g_callSd (w := wC q) hC (c_X6_quotient q (by have z1 := mul_bd (hcl (by omega)) (by omega : n - i ≤ 12); omega) (by omega)) sf_X6_quotient ml_X6_243 (by decide) rfl rfl (Nat.le_of_ble_eq_true rfl) (gDec_at DX6_waysBetween_0 43 rfl) ?_
            refine g_lstore hC (gDec_at DX6_waysBetween_0 44 rfl) (by decide) (L' := [(6, .long (lN (sCh n (i + 1)))), (0, .int (nI n)), (1, .int (nI t)), (2, .int (nI a)), (3, .int to), (4, .long (lN (gsm (fun h => if P h then sTerm n t h else 0) i))), (8, .int (nI i))]) rfl ?_
            refine g_iincN hC (gDec_at DX6_waysBetween_0 45 rfl) rfl (by decide) (L' := [(8, .int (nI (i + 1))), (6, .long (lN (sCh n (i + 1)))), (0, .int (nI n)), (1, .int (nI t)), (2, .int (nI a)), (3, .int to), (4, .long (lN (gsm (fun h => if P h then sTerm n t h else 0) i)))]) rfl ?_
            refine g_goto hC (gDec_at DX6_waysBetween_0 46 rfl) 9 (by decide) ?_
            refine g_sub [2, 3, 4, 5, 6, 1, 0] (L' := [(0, .int (nI n)), (1, .int (nI t)), (2, .int (nI a)), (3, .int to), (4, .long (lN (gsm (fun h => if P h then sTerm n t h else 0) i))), (6, .long (lN (sCh n (i + 1)))), (8, .int (nI (i + 1)))]) rfl ?_
            have h9 := ih (i + 1) (by omega) (by omega)
            rw [show gsm (fun h => if P h then sTerm n t h else 0) (i + 1) = gsm (fun h => if P h then sTerm n t h else 0) i from gsm_s0 (if_neg (fun z => ((hP i (by omega)).mpr z).2 h24))] at h9
            exact h9
          · skip
            refine g_lload hC (gDec_at DX6_waysBetween_0 15 rfl) rfl ?_
            refine g_lload hC (gDec_at DX6_waysBetween_0 16 rfl) rfl ?_
            refine g_iload_n hC (gDec_at DX6_waysBetween_0 17 rfl) rfl ?_
            refine g_i2lN hC (by omega) (gDec_at DX6_waysBetween_0 18 rfl) ?_
            refine g_iload hC (gDec_at DX6_waysBetween_0 19 rfl) rfl ?_
            refine g_callSd (w := wC q) hC (c_X6_power q (b := t) (n := i) (by omega)) sf_X6_power ml_X6_217 (by decide) rfl rfl (Nat.le_of_ble_eq_true rfl) (gDec_at DX6_waysBetween_0 20 rfl) ?_
            refine g_lmulN hC (gDec_at DX6_waysBetween_0 21 rfl) ?_
            refine g_bipush hC (gDec_at DX6_waysBetween_0 22 rfl) (v := nI 10) (by decide) ?_
            refine g_iload_n hC (gDec_at DX6_waysBetween_0 23 rfl) rfl ?_
            refine g_isubN hC (by omega) (gDec_at DX6_waysBetween_0 24 rfl) ?_
            refine g_i2lN hC (by omega) (gDec_at DX6_waysBetween_0 25 rfl) ?_
            refine g_iload_n hC (gDec_at DX6_waysBetween_0 26 rfl) rfl ?_
            refine g_iload hC (gDec_at DX6_waysBetween_0 27 rfl) rfl ?_
            refine g_isubN hC (by omega) (gDec_at DX6_waysBetween_0 28 rfl) ?_
            refine g_callSd (w := wC q) hC (c_X6_power q (b := (10 - t)) (n := (n - i)) (by omega)) sf_X6_power ml_X6_217 (by decide) rfl rfl (Nat.le_of_ble_eq_true rfl) (gDec_at DX6_waysBetween_0 29 rfl) ?_
            refine g_lmulN hC (gDec_at DX6_waysBetween_0 30 rfl) ?_
            refine g_laddN hC (gDec_at DX6_waysBetween_0 31 rfl) ?_
            refine g_lstore hC (gDec_at DX6_waysBetween_0 32 rfl) (by decide) (L' := [(4, .long (lN ((gsm (fun h => if P h then sTerm n t h else 0) i) + (((sCh n i) * (t ^ i)) * ((10 - t) ^ (n - i)))))), (0, .int (nI n)), (1, .int (nI t)), (2, .int (nI a)), (3, .int to), (6, .long (lN (sCh n i))), (8, .int (nI i))]) rfl ?_
            refine g_lload hC (gDec_at DX6_waysBetween_0 33 rfl) rfl ?_
            refine g_iload_n hC (gDec_at DX6_waysBetween_0 34 rfl) rfl ?_
            refine g_iload hC (gDec_at DX6_waysBetween_0 35 rfl) rfl ?_
            refine g_isubN hC (by omega) (gDec_at DX6_waysBetween_0 36 rfl) ?_
            refine g_i2lN hC (by omega) (gDec_at DX6_waysBetween_0 37 rfl) ?_
            refine g_lmulN hC (gDec_at DX6_waysBetween_0 38 rfl) ?_
            refine g_iload hC (gDec_at DX6_waysBetween_0 39 rfl) rfl ?_
            refine g_iconst hC (gDec_at DX6_waysBetween_0 40 rfl) (v := nI 1) (by decide) ?_
            refine g_iaddN hC (gDec_at DX6_waysBetween_0 41 rfl) ?_
            refine g_i2lN hC (by omega) (gDec_at DX6_waysBetween_0 42 rfl) ?_
            refine g_callSd (w := wC q) hC (c_X6_quotient q (by have z1 := mul_bd (hcl (by omega)) (by omega : n - i ≤ 12); omega) (by omega)) sf_X6_quotient ml_X6_243 (by decide) rfl rfl (Nat.le_of_ble_eq_true rfl) (gDec_at DX6_waysBetween_0 43 rfl) ?_
            refine g_lstore hC (gDec_at DX6_waysBetween_0 44 rfl) (by decide) (L' := [(6, .long (lN (sCh n (i + 1)))), (4, .long (lN ((gsm (fun h => if P h then sTerm n t h else 0) i) + (((sCh n i) * (t ^ i)) * ((10 - t) ^ (n - i)))))), (0, .int (nI n)), (1, .int (nI t)), (2, .int (nI a)), (3, .int to), (8, .int (nI i))]) rfl ?_
            refine g_iincN hC (gDec_at DX6_waysBetween_0 45 rfl) rfl (by decide) (L' := [(8, .int (nI (i + 1))), (6, .long (lN (sCh n (i + 1)))), (4, .long (lN ((gsm (fun h => if P h then sTerm n t h else 0) i) + (((sCh n i) * (t ^ i)) * ((10 - t) ^ (n - i)))))), (0, .int (nI n)), (1, .int (nI t)), (2, .int (nI a)), (3, .int to)]) rfl ?_
            refine g_goto hC (gDec_at DX6_waysBetween_0 46 rfl) 9 (by decide) ?_
            refine g_sub [3, 4, 5, 6, 2, 1, 0] (L' := [(0, .int (nI n)), (1, .int (nI t)), (2, .int (nI a)), (3, .int to), (4, .long (lN ((gsm (fun h => if P h then sTerm n t h else 0) i) + (((sCh n i) * (t ^ i)) * ((10 - t) ^ (n - i)))))), (6, .long (lN (sCh n (i + 1)))), (8, .int (nI (i + 1)))]) rfl ?_
            have h9 := ih (i + 1) (by omega) (by omega)
            rw [show gsm (fun h => if P h then sTerm n t h else 0) (i + 1) = gsm (fun h => if P h then sTerm n t h else 0) i + sCh n i * t ^ i * (10 - t) ^ (n - i) from gsm_s (if_pos ((hP i (by omega)).mp ⟨h18, h24⟩))] at h9
            exact h9
  exact g_sub [3, 4, 5, 6, 2, 1, 0] rfl (loop9 ((n + 1) + 1 - 0) 0 (by omega) (by omega))

set_option maxRecDepth 100000 in
set_option maxHeartbeats 4000000 in
theorem c_X6_give_out (q : gQ3) {M : gM} {B : gB} (hI : cI M B) {x0 : Int32} (hx0 : ¬ isPl B x0) : gCt (wC q) yX6_give cX6_give 3 (some .long) 8 [.ref (q.2.2 0), .int x0] M (gR (some (.long (-1))) M) := by
  refine gMet RX6 (by decide +kernel) rfl (Nat.le_of_ble_eq_true rfl) (fun X hC => ?_)
  have hC : gC X (wC q) cX6_give 3 RX6 (some .long) 8 := hC
  show gG X (wC q) _ 3 M 0 [(0, .ref (q.2.2 0)), (1, .int x0)] []
  refine g_aload_n hC (gDec_at DX6_give_0 0 rfl) rfl ?_
  refine g_get (w := wC q) hC 0 (v := .ref (q.2.2 9)) fl_X6_19 (show 0 < 63 from by decide) rfl rfl (gDec_at DX6_give_0 1 rfl) ?_
  refine g_iload_n hC (gDec_at DX6_give_0 2 rfl) rfl ?_
  refine g_callVd (w := wC q) hC 9 (c_X0_placeTold_out q hI hx0) vf_X0_placeTold ml_X6_79 (by decide) (show 9 < 63 from by decide) rfl rfl rfl rfl rfl (Nat.le_of_ble_eq_true rfl) (gDec_at DX6_give_0 3 rfl) ?_
  refine g_astore_nN hC (gDec_at DX6_give_0 4 rfl) (by decide) (L' := [(2, .null), (0, .ref (q.2.2 0)), (1, .int x0)]) rfl ?_
  refine g_aload_nN hC (gDec_at DX6_give_0 5 rfl) rfl ?_
  refine g_ifnonnullN hC (gDec_at DX6_give_0 6 rfl) ?_ 19 (by decide)
  refine g_ldc2 hC cl_X6_104 (v' := -1) rfl (gDec_at DX6_give_0 7 rfl) ?_
  refine g_goto hC (gDec_at DX6_give_0 8 rfl) 27 (by decide) ?_
  refine g_lret hC (gDec_at DX6_give_0 13 rfl) ?_
  exact ⟨rfl, rfl⟩

set_option maxRecDepth 100000 in
set_option maxHeartbeats 4000000 in
theorem c_X6_give_ok (q : gQ3) {M : gM} {B : gB} (hI : cI M B) {j : Nat} (hj : j < 12) (ht : j % 6 < B 9 0) : gCt (wC q) yX6_give cX6_give 3 (some .long) 8 [.ref (q.2.2 0), .int (nI (10 * (j / 6) + j % 6))] M (gR (some (.long (lN (sGive B j (B 1 j))))) M) := by
  refine gMet RX6 (by decide +kernel) rfl (Nat.le_of_ble_eq_true rfl) (fun X hC => ?_)
  have hC : gC X (wC q) cX6_give 3 RX6 (some .long) 8 := hC
  show gG X (wC q) _ 3 M 0 [(0, .ref (q.2.2 0)), (1, .int (nI (10 * (j / 6) + j % 6)))] []
  refine g_aload_n hC (gDec_at DX6_give_0 0 rfl) rfl ?_
  refine g_get (w := wC q) hC 0 (v := .ref (q.2.2 9)) fl_X6_19 (show 0 < 63 from by decide) rfl rfl (gDec_at DX6_give_0 1 rfl) ?_
  refine g_iload_n hC (gDec_at DX6_give_0 2 rfl) rfl ?_
  refine g_callVd (w := wC q) hC 9 (c_X0_placeTold q hI hj ht) vf_X0_placeTold ml_X6_79 (by decide) (show 9 < 63 from by decide) rfl rfl rfl rfl rfl (Nat.le_of_ble_eq_true rfl) (gDec_at DX6_give_0 3 rfl) ?_
  refine g_astore_n hC (gDec_at DX6_give_0 4 rfl) (by decide) (L' := [(2, .ref (q.2.2 (15 + j))), (0, .ref (q.2.2 0)), (1, .int (nI (10 * (j / 6) + j % 6)))]) rfl ?_
  refine g_aload_n hC (gDec_at DX6_give_0 5 rfl) rfl ?_
  refine g_ifnonnull hC (gDec_at DX6_give_0 6 rfl) 19 (by decide) ?_
  refine g_aload_n hC (gDec_at DX6_give_0 9 rfl) rfl ?_
  refine g_get (w := wC q) hC 0 (v := .ref (q.2.2 9)) fl_X6_19 (show 0 < 63 from by decide) rfl rfl (gDec_at DX6_give_0 10 rfl) ?_
  refine g_aload_n hC (gDec_at DX6_give_0 11 rfl) rfl ?_
  refine g_callVd (w := wC q) hC 9 (c_X0_giveOf q hI hj ht) vf_X0_giveOf ml_X6_106 (by decide) (show 9 < 63 from by decide) rfl rfl rfl rfl rfl (Nat.le_of_ble_eq_true rfl) (gDec_at DX6_give_0 12 rfl) ?_
  refine g_lret hC (gDec_at DX6_give_0 13 rfl) ?_
  exact ⟨rfl, rfl⟩

set_option maxRecDepth 100000 in
set_option maxHeartbeats 4000000 in
theorem c_X6_limb_out (q : gQ3) {M : gM} {B : gB} (hI : cI M B) {x0 : Int32} (hx0 : ¬ gin x0 0 1) : gCt (wC q) yX6_limb cX6_limb 2 (some .long) 8 [.ref (q.2.2 0), .int x0] M (gR (some (.long (-1))) M) := by
  refine gMet RX6 (by decide +kernel) rfl (Nat.le_of_ble_eq_true rfl) (fun X hC => ?_)
  have hC : gC X (wC q) cX6_limb 2 RX6 (some .long) 8 := hC
  show gG X (wC q) _ 2 M 0 [(0, .ref (q.2.2 0)), (1, .int x0)] []
  refine g_iload_n hC (gDec_at DX6_limb_0 0 rfl) rfl ?_
  refine g_iconst hC (gDec_at DX6_limb_0 1 rfl) (v := nI 0) (by decide) ?_
  refine g_iconst hC (gDec_at DX6_limb_0 2 rfl) (v := nI 1) (by decide) ?_
  refine g_callSd (w := wC q) hC (c_X6_isOutside_out q (by omega) (by omega) hx0) sf_X6_isOutside ml_X6_60 (by decide) rfl rfl (Nat.le_of_ble_eq_true rfl) (gDec_at DX6_limb_0 3 rfl) ?_
  refine g_if_eqN hC (by decide) (gDec_at DX6_limb_0 4 rfl) 15 (by decide) (fun h => absurd h (by decide)) (fun h => ?_)
  refine g_ldc2 hC cl_X6_104 (v' := -1) rfl (gDec_at DX6_limb_0 5 rfl) ?_
  refine g_goto hC (gDec_at DX6_limb_0 6 rfl) 23 (by decide) ?_
  refine g_lret hC (gDec_at DX6_limb_0 11 rfl) ?_
  exact ⟨rfl, rfl⟩

set_option maxRecDepth 100000 in
set_option maxHeartbeats 4000000 in
theorem c_X6_limb_ok (q : gQ3) {M : gM} {B : gB} (hI : cI M B) {l : Nat} (hl : l < 2) : gCt (wC q) yX6_limb cX6_limb 2 (some .long) 8 [.ref (q.2.2 0), .int (nI l)] M (gR (some (.long (lN (sLimb B l)))) M) := by
  refine gMet RX6 (by decide +kernel) rfl (Nat.le_of_ble_eq_true rfl) (fun X hC => ?_)
  have hC : gC X (wC q) cX6_limb 2 RX6 (some .long) 8 := hC
  show gG X (wC q) _ 2 M 0 [(0, .ref (q.2.2 0)), (1, .int (nI l))] []
  refine g_iload_n hC (gDec_at DX6_limb_0 0 rfl) rfl ?_
  refine g_iconst hC (gDec_at DX6_limb_0 1 rfl) (v := nI 0) (by decide) ?_
  refine g_iconst hC (gDec_at DX6_limb_0 2 rfl) (v := nI 1) (by decide) ?_
  refine g_callSd (w := wC q) hC (c_X6_isOutside_in q (by omega) (by omega) (nI_gin (k := l) (a := 0) (b := 1) (by omega) (by omega) (by omega))) sf_X6_isOutside ml_X6_60 (by decide) rfl rfl (Nat.le_of_ble_eq_true rfl) (gDec_at DX6_limb_0 3 rfl) ?_
  refine g_if_eqN hC (by decide) (gDec_at DX6_limb_0 4 rfl) 15 (by decide) (fun h => ?_) (fun h => absurd h (by decide))
  refine g_aload_n hC (gDec_at DX6_limb_0 7 rfl) rfl ?_
  refine g_get (w := wC q) hC 0 (v := .ref (q.2.2 9)) fl_X6_19 (show 0 < 63 from by decide) rfl rfl (gDec_at DX6_limb_0 8 rfl) ?_
  refine g_iload_n hC (gDec_at DX6_limb_0 9 rfl) rfl ?_
  refine g_callVd (w := wC q) hC 9 (c_X0_limbGives q hI (l := l) (by omega)) vf_X0_limbGives ml_X6_110 (by decide) (show 9 < 63 from by decide) rfl rfl rfl rfl rfl (Nat.le_of_ble_eq_true rfl) (gDec_at DX6_limb_0 10 rfl) ?_
  refine g_lret hC (gDec_at DX6_limb_0 11 rfl) ?_
  exact ⟨rfl, rfl⟩

set_option maxRecDepth 100000 in
set_option maxHeartbeats 4000000 in
theorem c_X6_follow_ok (q : gQ3) {M : gM} {B : gB} (hI : cI M B) : gCt (wC q) yX6_follow cX6_follow 1 (some .int) 8 [.ref (q.2.2 0)] M (gR (some (.int (nI (sSets B / 10)))) M) := by
  refine gMet RX6 (by decide +kernel) rfl (Nat.le_of_ble_eq_true rfl) (fun X hC => ?_)
  have hC : gC X (wC q) cX6_follow 1 RX6 (some .int) 8 := hC
  show gG X (wC q) _ 1 M 0 [(0, .ref (q.2.2 0))] []
  refine g_aload_n hC (gDec_at DX6_follow_0 0 rfl) rfl ?_
  refine g_get (w := wC q) hC 0 (v := .ref (q.2.2 9)) fl_X6_19 (show 0 < 63 from by decide) rfl rfl (gDec_at DX6_follow_0 1 rfl) ?_
  refine g_callVd (w := wC q) hC 9 (c_X0_followed q hI) vf_X0_followed ml_X6_114 (by decide) (show 9 < 63 from by decide) rfl rfl rfl rfl rfl (Nat.le_of_ble_eq_true rfl) (gDec_at DX6_follow_0 2 rfl) ?_
  refine g_iret hC (gDec_at DX6_follow_0 3 rfl) ?_
  exact ⟨rfl, rfl⟩

set_option maxRecDepth 100000 in
set_option maxHeartbeats 4000000 in
theorem c_X6_weight_out (q : gQ3) {M : gM} {B : gB} (hI : cI M B) {x0 : Int32} (hx0 : ¬ gin x0 0 40) {u : Nat} (hu : u ≤ 1) : gCt (wC q) yX6_weight cX6_weight 3 (some .long) 8 [.ref (q.2.2 0), .int x0, .int (nI u)] M (gR (some (.long (-2))) M) := by
  refine gMet RX6 (by decide +kernel) rfl (Nat.le_of_ble_eq_true rfl) (fun X hC => ?_)
  have hC : gC X (wC q) cX6_weight 3 RX6 (some .long) 8 := hC
  show gG X (wC q) _ 3 M 0 [(0, .ref (q.2.2 0)), (1, .int x0), (2, .int (nI u))] []
  refine g_iload_n hC (gDec_at DX6_weight_0 0 rfl) rfl ?_
  refine g_callSd (w := wC q) hC (c_X6_isBadDraw_out q hx0) sf_X6_isBadDraw ml_X6_117 (by decide) rfl rfl (Nat.le_of_ble_eq_true rfl) (gDec_at DX6_weight_0 1 rfl) ?_
  refine g_if_eqN hC (by decide) (gDec_at DX6_weight_0 2 rfl) 11 (by decide) (fun h => absurd h (by decide)) (fun h => ?_)
  refine g_ldc2 hC cl_X6_121 (v' := -2) rfl (gDec_at DX6_weight_0 3 rfl) ?_
  refine g_lret hC (gDec_at DX6_weight_0 4 rfl) ?_
  exact ⟨rfl, rfl⟩

set_option maxRecDepth 100000 in
set_option maxHeartbeats 4000000 in
theorem c_X6_weight_ok (q : gQ3) {M : gM} {B : gB} (hI : cI M B) {x : Nat} (hx : x ≤ 40) {u : Nat} (hu : u ≤ 1) : gCt (wC q) yX6_weight cX6_weight 3 (some .long) 8 [.ref (q.2.2 0), .int (nI x), .int (nI u)] M (gR (some (.long (lN (sTo (sPull B x) (sAll B) u)))) M) := by
  refine gMet RX6 (by decide +kernel) rfl (Nat.le_of_ble_eq_true rfl) (fun X hC => ?_)
  have hC : gC X (wC q) cX6_weight 3 RX6 (some .long) 8 := hC
  show gG X (wC q) _ 3 M 0 [(0, .ref (q.2.2 0)), (1, .int (nI x)), (2, .int (nI u))] []
  have hpl := sPull_le B hx
  have hal := sAll_le B
  have has := sAll_ps hI.2.2
  refine g_iload_n hC (gDec_at DX6_weight_0 0 rfl) rfl ?_
  refine g_callSd (w := wC q) hC (c_X6_isBadDraw_in q (k := x) (by omega)) sf_X6_isBadDraw ml_X6_117 (by decide) rfl rfl (Nat.le_of_ble_eq_true rfl) (gDec_at DX6_weight_0 1 rfl) ?_
  refine g_if_eqN hC (by decide) (gDec_at DX6_weight_0 2 rfl) 11 (by decide) (fun h => ?_) (fun h => absurd h (by decide))
  refine g_aload_n hC (gDec_at DX6_weight_0 5 rfl) rfl ?_
  refine g_get (w := wC q) hC 0 (v := .ref (q.2.2 9)) fl_X6_19 (show 0 < 63 from by decide) rfl rfl (gDec_at DX6_weight_0 6 rfl) ?_
  refine g_iload_n hC (gDec_at DX6_weight_0 7 rfl) rfl ?_
  refine g_callVd (w := wC q) hC 9 (c_X0_pullAt q hI (x := x) (by omega)) vf_X0_pullAt ml_X6_123 (by decide) (show 9 < 63 from by decide) rfl rfl rfl rfl rfl (Nat.le_of_ble_eq_true rfl) (gDec_at DX6_weight_0 8 rfl) ?_
  refine g_aload_n hC (gDec_at DX6_weight_0 9 rfl) rfl ?_
  refine g_get (w := wC q) hC 0 (v := .ref (q.2.2 9)) fl_X6_19 (show 0 < 63 from by decide) rfl rfl (gDec_at DX6_weight_0 10 rfl) ?_
  refine g_callVd (w := wC q) hC 9 (c_X0_allGives q hI) vf_X0_allGives ml_X6_126 (by decide) (show 9 < 63 from by decide) rfl rfl rfl rfl rfl (Nat.le_of_ble_eq_true rfl) (gDec_at DX6_weight_0 11 rfl) ?_
  refine g_iload_n hC (gDec_at DX6_weight_0 12 rfl) rfl ?_
  refine g_callSd (w := wC q) hC (c_X6_fractionPart q (a := (sPull B x)) (b := (sAll B)) (u := u) (by omega) (by omega) (by omega)) sf_X6_fractionPart ml_X6_130 (by decide) rfl rfl (Nat.le_of_ble_eq_true rfl) (gDec_at DX6_weight_0 13 rfl) ?_
  refine g_lret hC (gDec_at DX6_weight_0 14 rfl) ?_
  exact ⟨rfl, rfl⟩

set_option maxRecDepth 100000 in
set_option maxHeartbeats 4000000 in
theorem c_X6_strain_out (q : gQ3) {M : gM} {B : gB} (hI : cI M B) {x0 : Int32} (hx0 : ¬ isPl B x0) {x1 : Int32} : gCt (wC q) yX6_strain cX6_strain 4 (some .long) 8 [.ref (q.2.2 0), .int x0, .int x1] M (gR (some (.long (-1))) M) := by
  refine gMet RX6 (by decide +kernel) rfl (Nat.le_of_ble_eq_true rfl) (fun X hC => ?_)
  have hC : gC X (wC q) cX6_strain 4 RX6 (some .long) 8 := hC
  show gG X (wC q) _ 4 M 0 [(0, .ref (q.2.2 0)), (1, .int x0), (2, .int x1)] []
  refine g_aload_n hC (gDec_at DX6_strain_0 0 rfl) rfl ?_
  refine g_get (w := wC q) hC 0 (v := .ref (q.2.2 9)) fl_X6_19 (show 0 < 63 from by decide) rfl rfl (gDec_at DX6_strain_0 1 rfl) ?_
  refine g_iload_n hC (gDec_at DX6_strain_0 2 rfl) rfl ?_
  refine g_callVd (w := wC q) hC 9 (c_X0_placeTold_out q hI hx0) vf_X0_placeTold ml_X6_79 (by decide) (show 9 < 63 from by decide) rfl rfl rfl rfl rfl (Nat.le_of_ble_eq_true rfl) (gDec_at DX6_strain_0 3 rfl) ?_
  refine g_astore_nN hC (gDec_at DX6_strain_0 4 rfl) (by decide) (L' := [(3, .null), (0, .ref (q.2.2 0)), (1, .int x0), (2, .int x1)]) rfl ?_
  refine g_aload_nN hC (gDec_at DX6_strain_0 5 rfl) rfl ?_
  refine g_ifnonnullN hC (gDec_at DX6_strain_0 6 rfl) ?_ 17 (by decide)
  refine g_ldc2 hC cl_X6_104 (v' := -1) rfl (gDec_at DX6_strain_0 7 rfl) ?_
  refine g_lret hC (gDec_at DX6_strain_0 8 rfl) ?_
  exact ⟨rfl, rfl⟩

set_option maxRecDepth 100000 in
set_option maxHeartbeats 4000000 in
theorem c_X6_strain_bad (q : gQ3) {M : gM} {B : gB} (hI : cI M B) {j : Nat} (hj : j < 12) (ht : j % 6 < B 9 0) {x1 : Int32} (hx1 : ¬ gin x1 0 40) : gCt (wC q) yX6_strain cX6_strain 4 (some .long) 8 [.ref (q.2.2 0), .int (nI (10 * (j / 6) + j % 6)), .int x1] M (gR (some (.long (-2))) M) := by
  refine gMet RX6 (by decide +kernel) rfl (Nat.le_of_ble_eq_true rfl) (fun X hC => ?_)
  have hC : gC X (wC q) cX6_strain 4 RX6 (some .long) 8 := hC
  show gG X (wC q) _ 4 M 0 [(0, .ref (q.2.2 0)), (1, .int (nI (10 * (j / 6) + j % 6))), (2, .int x1)] []
  refine g_aload_n hC (gDec_at DX6_strain_0 0 rfl) rfl ?_
  refine g_get (w := wC q) hC 0 (v := .ref (q.2.2 9)) fl_X6_19 (show 0 < 63 from by decide) rfl rfl (gDec_at DX6_strain_0 1 rfl) ?_
  refine g_iload_n hC (gDec_at DX6_strain_0 2 rfl) rfl ?_
  refine g_callVd (w := wC q) hC 9 (c_X0_placeTold q hI hj ht) vf_X0_placeTold ml_X6_79 (by decide) (show 9 < 63 from by decide) rfl rfl rfl rfl rfl (Nat.le_of_ble_eq_true rfl) (gDec_at DX6_strain_0 3 rfl) ?_
  refine g_astore_n hC (gDec_at DX6_strain_0 4 rfl) (by decide) (L' := [(3, .ref (q.2.2 (15 + j))), (0, .ref (q.2.2 0)), (1, .int (nI (10 * (j / 6) + j % 6))), (2, .int x1)]) rfl ?_
  refine g_aload_n hC (gDec_at DX6_strain_0 5 rfl) rfl ?_
  refine g_ifnonnull hC (gDec_at DX6_strain_0 6 rfl) 17 (by decide) ?_
  refine g_iload_n hC (gDec_at DX6_strain_0 9 rfl) rfl ?_
  refine g_callSd (w := wC q) hC (c_X6_isBadDraw_out q hx1) sf_X6_isBadDraw ml_X6_117 (by decide) rfl rfl (Nat.le_of_ble_eq_true rfl) (gDec_at DX6_strain_0 10 rfl) ?_
  refine g_if_eqN hC (by decide) (gDec_at DX6_strain_0 11 rfl) 28 (by decide) (fun h => absurd h (by decide)) (fun h => ?_)
  refine g_ldc2 hC cl_X6_121 (v' := -2) rfl (gDec_at DX6_strain_0 12 rfl) ?_
  refine g_lret hC (gDec_at DX6_strain_0 13 rfl) ?_
  exact ⟨rfl, rfl⟩

set_option maxRecDepth 100000 in
set_option maxHeartbeats 4000000 in
theorem c_X6_strain_ok (q : gQ3) {M : gM} {B : gB} (hI : cI M B) {j : Nat} (hj : j < 12) (ht : j % 6 < B 9 0) {x : Nat} (hx : x ≤ 40) : gCt (wC q) yX6_strain cX6_strain 4 (some .long) 8 [.ref (q.2.2 0), .int (nI (10 * (j / 6) + j % 6)), .int (nI x)] M (gR (some (.long (lN (sStr B (sPull B x) (sAll B) j)))) M) := by
  refine gMet RX6 (by decide +kernel) rfl (Nat.le_of_ble_eq_true rfl) (fun X hC => ?_)
  have hC : gC X (wC q) cX6_strain 4 RX6 (some .long) 8 := hC
  show gG X (wC q) _ 4 M 0 [(0, .ref (q.2.2 0)), (1, .int (nI (10 * (j / 6) + j % 6))), (2, .int (nI x))] []
  have hpl := sPull_le B hx
  have hal := sAll_le B
  have has := sAll_ps hI.2.2
  refine g_aload_n hC (gDec_at DX6_strain_0 0 rfl) rfl ?_
  refine g_get (w := wC q) hC 0 (v := .ref (q.2.2 9)) fl_X6_19 (show 0 < 63 from by decide) rfl rfl (gDec_at DX6_strain_0 1 rfl) ?_
  refine g_iload_n hC (gDec_at DX6_strain_0 2 rfl) rfl ?_
  refine g_callVd (w := wC q) hC 9 (c_X0_placeTold q hI hj ht) vf_X0_placeTold ml_X6_79 (by decide) (show 9 < 63 from by decide) rfl rfl rfl rfl rfl (Nat.le_of_ble_eq_true rfl) (gDec_at DX6_strain_0 3 rfl) ?_
  refine g_astore_n hC (gDec_at DX6_strain_0 4 rfl) (by decide) (L' := [(3, .ref (q.2.2 (15 + j))), (0, .ref (q.2.2 0)), (1, .int (nI (10 * (j / 6) + j % 6))), (2, .int (nI x))]) rfl ?_
  refine g_aload_n hC (gDec_at DX6_strain_0 5 rfl) rfl ?_
  refine g_ifnonnull hC (gDec_at DX6_strain_0 6 rfl) 17 (by decide) ?_
  refine g_iload_n hC (gDec_at DX6_strain_0 9 rfl) rfl ?_
  refine g_callSd (w := wC q) hC (c_X6_isBadDraw_in q (k := x) (by omega)) sf_X6_isBadDraw ml_X6_117 (by decide) rfl rfl (Nat.le_of_ble_eq_true rfl) (gDec_at DX6_strain_0 10 rfl) ?_
  refine g_if_eqN hC (by decide) (gDec_at DX6_strain_0 11 rfl) 28 (by decide) (fun h => ?_) (fun h => absurd h (by decide))
  refine g_aload_n hC (gDec_at DX6_strain_0 14 rfl) rfl ?_
  refine g_get (w := wC q) hC 0 (v := .ref (q.2.2 9)) fl_X6_19 (show 0 < 63 from by decide) rfl rfl (gDec_at DX6_strain_0 15 rfl) ?_
  refine g_aload_n hC (gDec_at DX6_strain_0 16 rfl) rfl ?_
  refine g_aload_n hC (gDec_at DX6_strain_0 17 rfl) rfl ?_
  refine g_get (w := wC q) hC 0 (v := .ref (q.2.2 9)) fl_X6_19 (show 0 < 63 from by decide) rfl rfl (gDec_at DX6_strain_0 18 rfl) ?_
  refine g_iload_n hC (gDec_at DX6_strain_0 19 rfl) rfl ?_
  refine g_callVd (w := wC q) hC 9 (c_X0_pullAt q hI (x := x) (by omega)) vf_X0_pullAt ml_X6_123 (by decide) (show 9 < 63 from by decide) rfl rfl rfl rfl rfl (Nat.le_of_ble_eq_true rfl) (gDec_at DX6_strain_0 20 rfl) ?_
  refine g_aload_n hC (gDec_at DX6_strain_0 21 rfl) rfl ?_
  refine g_get (w := wC q) hC 0 (v := .ref (q.2.2 9)) fl_X6_19 (show 0 < 63 from by decide) rfl rfl (gDec_at DX6_strain_0 22 rfl) ?_
  refine g_callVd (w := wC q) hC 9 (c_X0_allGives q hI) vf_X0_allGives ml_X6_126 (by decide) (show 9 < 63 from by decide) rfl rfl rfl rfl rfl (Nat.le_of_ble_eq_true rfl) (gDec_at DX6_strain_0 23 rfl) ?_
  refine g_callVd (w := wC q) hC 9 (c_X0_strainOf q hI hj ht (pull := (sPull B x)) (gives := (sAll B)) (by omega) (by omega)) vf_X0_strainOf ml_X6_134 (by decide) (show 9 < 63 from by decide) rfl rfl rfl rfl rfl (Nat.le_of_ble_eq_true rfl) (gDec_at DX6_strain_0 24 rfl) ?_
  refine g_lret hC (gDec_at DX6_strain_0 25 rfl) ?_
  exact ⟨rfl, rfl⟩

set_option maxRecDepth 100000 in
set_option maxHeartbeats 4000000 in
theorem c_X6_hinge_out (q : gQ3) {M : gM} {B : gB} (hI : cI M B) {x0 : Int32} (hx0 : ¬ gin x0 0 40) : gCt (wC q) yX6_hinge cX6_hinge 2 (some .int) 8 [.ref (q.2.2 0), .int x0] M (gR (some (.int (-2))) M) := by
  refine gMet RX6 (by decide +kernel) rfl (Nat.le_of_ble_eq_true rfl) (fun X hC => ?_)
  have hC : gC X (wC q) cX6_hinge 2 RX6 (some .int) 8 := hC
  show gG X (wC q) _ 2 M 0 [(0, .ref (q.2.2 0)), (1, .int x0)] []
  refine g_iload_n hC (gDec_at DX6_hinge_0 0 rfl) rfl ?_
  refine g_callSd (w := wC q) hC (c_X6_isBadDraw_out q hx0) sf_X6_isBadDraw ml_X6_117 (by decide) rfl rfl (Nat.le_of_ble_eq_true rfl) (gDec_at DX6_hinge_0 1 rfl) ?_
  refine g_if_eqN hC (by decide) (gDec_at DX6_hinge_0 2 rfl) 12 (by decide) (fun h => absurd h (by decide)) (fun h => ?_)
  refine g_bipush hC (gDec_at DX6_hinge_0 3 rfl) (v := -2) (by decide) ?_
  refine g_goto hC (gDec_at DX6_hinge_0 4 rfl) 21 (by decide) ?_
  refine g_iret hC (gDec_at DX6_hinge_0 10 rfl) ?_
  exact ⟨rfl, rfl⟩

set_option maxRecDepth 100000 in
set_option maxHeartbeats 4000000 in
theorem c_X6_hinge_ok (q : gQ3) {M : gM} {B : gB} (hI : cI M B) {x : Nat} (hx : x ≤ 40) : gCt (wC q) yX6_hinge cX6_hinge 2 (some .int) 8 [.ref (q.2.2 0), .int (nI x)] M (gR (some (.int (nI (sTold (sExt B (sStr B (sPull B x) (sAll B)) 1 12))))) M) := by
  refine gMet RX6 (by decide +kernel) rfl (Nat.le_of_ble_eq_true rfl) (fun X hC => ?_)
  have hC : gC X (wC q) cX6_hinge 2 RX6 (some .int) 8 := hC
  show gG X (wC q) _ 2 M 0 [(0, .ref (q.2.2 0)), (1, .int (nI x))] []
  refine g_iload_n hC (gDec_at DX6_hinge_0 0 rfl) rfl ?_
  refine g_callSd (w := wC q) hC (c_X6_isBadDraw_in q (k := x) (by omega)) sf_X6_isBadDraw ml_X6_117 (by decide) rfl rfl (Nat.le_of_ble_eq_true rfl) (gDec_at DX6_hinge_0 1 rfl) ?_
  refine g_if_eqN hC (by decide) (gDec_at DX6_hinge_0 2 rfl) 12 (by decide) (fun h => ?_) (fun h => absurd h (by decide))
  refine g_aload_n hC (gDec_at DX6_hinge_0 5 rfl) rfl ?_
  refine g_get (w := wC q) hC 0 (v := .ref (q.2.2 9)) fl_X6_19 (show 0 < 63 from by decide) rfl rfl (gDec_at DX6_hinge_0 6 rfl) ?_
  refine g_iload_n hC (gDec_at DX6_hinge_0 7 rfl) rfl ?_
  refine g_iconst hC (gDec_at DX6_hinge_0 8 rfl) (v := nI 1) (by decide) ?_
  refine g_callVd (w := wC q) hC 9 (c_X0_extremePlace q hI (x := x) (g := 1) (by omega) (by omega)) vf_X0_extremePlace ml_X6_152 (by decide) (show 9 < 63 from by decide) rfl rfl rfl rfl rfl (Nat.le_of_ble_eq_true rfl) (gDec_at DX6_hinge_0 9 rfl) ?_
  refine g_iret hC (gDec_at DX6_hinge_0 10 rfl) ?_
  exact ⟨rfl, rfl⟩

set_option maxRecDepth 100000 in
set_option maxHeartbeats 4000000 in
theorem c_X6_stiff_out (q : gQ3) {M : gM} {B : gB} (hI : cI M B) {x0 : Int32} (hx0 : ¬ gin x0 0 40) : gCt (wC q) yX6_stiff cX6_stiff 2 (some .int) 8 [.ref (q.2.2 0), .int x0] M (gR (some (.int (-2))) M) := by
  refine gMet RX6 (by decide +kernel) rfl (Nat.le_of_ble_eq_true rfl) (fun X hC => ?_)
  have hC : gC X (wC q) cX6_stiff 2 RX6 (some .int) 8 := hC
  show gG X (wC q) _ 2 M 0 [(0, .ref (q.2.2 0)), (1, .int x0)] []
  refine g_iload_n hC (gDec_at DX6_stiff_0 0 rfl) rfl ?_
  refine g_callSd (w := wC q) hC (c_X6_isBadDraw_out q hx0) sf_X6_isBadDraw ml_X6_117 (by decide) rfl rfl (Nat.le_of_ble_eq_true rfl) (gDec_at DX6_stiff_0 1 rfl) ?_
  refine g_if_eqN hC (by decide) (gDec_at DX6_stiff_0 2 rfl) 12 (by decide) (fun h => absurd h (by decide)) (fun h => ?_)
  refine g_bipush hC (gDec_at DX6_stiff_0 3 rfl) (v := -2) (by decide) ?_
  refine g_goto hC (gDec_at DX6_stiff_0 4 rfl) 21 (by decide) ?_
  refine g_iret hC (gDec_at DX6_stiff_0 10 rfl) ?_
  exact ⟨rfl, rfl⟩

set_option maxRecDepth 100000 in
set_option maxHeartbeats 4000000 in
theorem c_X6_stiff_ok (q : gQ3) {M : gM} {B : gB} (hI : cI M B) {x : Nat} (hx : x ≤ 40) : gCt (wC q) yX6_stiff cX6_stiff 2 (some .int) 8 [.ref (q.2.2 0), .int (nI x)] M (gR (some (.int (nI (sTold (sExt B (sStr B (sPull B x) (sAll B)) 0 12))))) M) := by
  refine gMet RX6 (by decide +kernel) rfl (Nat.le_of_ble_eq_true rfl) (fun X hC => ?_)
  have hC : gC X (wC q) cX6_stiff 2 RX6 (some .int) 8 := hC
  show gG X (wC q) _ 2 M 0 [(0, .ref (q.2.2 0)), (1, .int (nI x))] []
  refine g_iload_n hC (gDec_at DX6_stiff_0 0 rfl) rfl ?_
  refine g_callSd (w := wC q) hC (c_X6_isBadDraw_in q (k := x) (by omega)) sf_X6_isBadDraw ml_X6_117 (by decide) rfl rfl (Nat.le_of_ble_eq_true rfl) (gDec_at DX6_stiff_0 1 rfl) ?_
  refine g_if_eqN hC (by decide) (gDec_at DX6_stiff_0 2 rfl) 12 (by decide) (fun h => ?_) (fun h => absurd h (by decide))
  refine g_aload_n hC (gDec_at DX6_stiff_0 5 rfl) rfl ?_
  refine g_get (w := wC q) hC 0 (v := .ref (q.2.2 9)) fl_X6_19 (show 0 < 63 from by decide) rfl rfl (gDec_at DX6_stiff_0 6 rfl) ?_
  refine g_iload_n hC (gDec_at DX6_stiff_0 7 rfl) rfl ?_
  refine g_iconst hC (gDec_at DX6_stiff_0 8 rfl) (v := nI 0) (by decide) ?_
  refine g_callVd (w := wC q) hC 9 (c_X0_extremePlace q hI (x := x) (g := 0) (by omega) (by omega)) vf_X0_extremePlace ml_X6_152 (by decide) (show 9 < 63 from by decide) rfl rfl rfl rfl rfl (Nat.le_of_ble_eq_true rfl) (gDec_at DX6_stiff_0 9 rfl) ?_
  refine g_iret hC (gDec_at DX6_stiff_0 10 rfl) ?_
  exact ⟨rfl, rfl⟩

set_option maxRecDepth 100000 in
set_option maxHeartbeats 4000000 in
theorem c_X6_even_out (q : gQ3) {M : gM} {B : gB} (hI : cI M B) {x0 : Int32} (hx0 : ¬ gin x0 0 40) : gCt (wC q) yX6_even cX6_even 2 (some .int) 8 [.ref (q.2.2 0), .int x0] M (gR (some (.int (-2))) M) := by
  refine gMet RX6 (by decide +kernel) rfl (Nat.le_of_ble_eq_true rfl) (fun X hC => ?_)
  have hC : gC X (wC q) cX6_even 2 RX6 (some .int) 8 := hC
  show gG X (wC q) _ 2 M 0 [(0, .ref (q.2.2 0)), (1, .int x0)] []
  refine g_iload_n hC (gDec_at DX6_even_0 0 rfl) rfl ?_
  refine g_callSd (w := wC q) hC (c_X6_isBadDraw_out q hx0) sf_X6_isBadDraw ml_X6_117 (by decide) rfl rfl (Nat.le_of_ble_eq_true rfl) (gDec_at DX6_even_0 1 rfl) ?_
  refine g_if_eqN hC (by decide) (gDec_at DX6_even_0 2 rfl) 12 (by decide) (fun h => absurd h (by decide)) (fun h => ?_)
  refine g_bipush hC (gDec_at DX6_even_0 3 rfl) (v := -2) (by decide) ?_
  refine g_goto hC (gDec_at DX6_even_0 4 rfl) 34 (by decide) ?_
  refine g_iret hC (gDec_at DX6_even_0 15 rfl) ?_
  exact ⟨rfl, rfl⟩

set_option maxRecDepth 100000 in
set_option maxHeartbeats 4000000 in
theorem c_X6_even_ok (q : gQ3) {M : gM} {B : gB} (hI : cI M B) {x : Nat} (hx : x ≤ 40) : gCt (wC q) yX6_even cX6_even 2 (some .int) 8 [.ref (q.2.2 0), .int (nI x)] M (gR (some (.int (nI (sEvn B (sPull B x) (sAll B))))) M) := by
  refine gMet RX6 (by decide +kernel) rfl (Nat.le_of_ble_eq_true rfl) (fun X hC => ?_)
  have hC : gC X (wC q) cX6_even 2 RX6 (some .int) 8 := hC
  show gG X (wC q) _ 2 M 0 [(0, .ref (q.2.2 0)), (1, .int (nI x))] []
  have hpl := sPull_le B hx
  have hal := sAll_le B
  have has := sAll_ps hI.2.2
  refine g_iload_n hC (gDec_at DX6_even_0 0 rfl) rfl ?_
  refine g_callSd (w := wC q) hC (c_X6_isBadDraw_in q (k := x) (by omega)) sf_X6_isBadDraw ml_X6_117 (by decide) rfl rfl (Nat.le_of_ble_eq_true rfl) (gDec_at DX6_even_0 1 rfl) ?_
  refine g_if_eqN hC (by decide) (gDec_at DX6_even_0 2 rfl) 12 (by decide) (fun h => ?_) (fun h => absurd h (by decide))
  refine g_aload_n hC (gDec_at DX6_even_0 5 rfl) rfl ?_
  refine g_get (w := wC q) hC 0 (v := .ref (q.2.2 9)) fl_X6_19 (show 0 < 63 from by decide) rfl rfl (gDec_at DX6_even_0 6 rfl) ?_
  refine g_aload_n hC (gDec_at DX6_even_0 7 rfl) rfl ?_
  refine g_get (w := wC q) hC 0 (v := .ref (q.2.2 9)) fl_X6_19 (show 0 < 63 from by decide) rfl rfl (gDec_at DX6_even_0 8 rfl) ?_
  refine g_iload_n hC (gDec_at DX6_even_0 9 rfl) rfl ?_
  refine g_callVd (w := wC q) hC 9 (c_X0_pullAt q hI (x := x) (by omega)) vf_X0_pullAt ml_X6_123 (by decide) (show 9 < 63 from by decide) rfl rfl rfl rfl rfl (Nat.le_of_ble_eq_true rfl) (gDec_at DX6_even_0 10 rfl) ?_
  refine g_aload_n hC (gDec_at DX6_even_0 11 rfl) rfl ?_
  refine g_get (w := wC q) hC 0 (v := .ref (q.2.2 9)) fl_X6_19 (show 0 < 63 from by decide) rfl rfl (gDec_at DX6_even_0 12 rfl) ?_
  refine g_callVd (w := wC q) hC 9 (c_X0_allGives q hI) vf_X0_allGives ml_X6_126 (by decide) (show 9 < 63 from by decide) rfl rfl rfl rfl rfl (Nat.le_of_ble_eq_true rfl) (gDec_at DX6_even_0 13 rfl) ?_
  refine g_callVd (w := wC q) hC 9 (c_X0_evenness q hI (pull := (sPull B x)) (gives := (sAll B)) (by omega) (by omega)) vf_X0_evenness ml_X6_156 (by decide) (show 9 < 63 from by decide) rfl rfl rfl rfl rfl (Nat.le_of_ble_eq_true rfl) (gDec_at DX6_even_0 14 rfl) ?_
  refine g_iret hC (gDec_at DX6_even_0 15 rfl) ?_
  exact ⟨rfl, rfl⟩

set_option maxRecDepth 100000 in
set_option maxHeartbeats 4000000 in
theorem c_X6_form_out (q : gQ3) {M : gM} {B : gB} (hI : cI M B) {x0 : Int32} (hx0 : ¬ isPl B x0) {f s : Int32} : gCt (wC q) yX6_form cX6_form 5 (some .int) 8 [.ref (q.2.2 0), .int x0, .int f, .int s] M (gR (some (.int (-1))) M) := by
  refine gMet RX6 (by decide +kernel) rfl (Nat.le_of_ble_eq_true rfl) (fun X hC => ?_)
  have hC : gC X (wC q) cX6_form 5 RX6 (some .int) 8 := hC
  show gG X (wC q) _ 5 M 0 [(0, .ref (q.2.2 0)), (1, .int x0), (2, .int f), (3, .int s)] []
  refine g_aload_n hC (gDec_at DX6_form_0 0 rfl) rfl ?_
  refine g_get (w := wC q) hC 0 (v := .ref (q.2.2 9)) fl_X6_19 (show 0 < 63 from by decide) rfl rfl (gDec_at DX6_form_0 1 rfl) ?_
  refine g_iload_n hC (gDec_at DX6_form_0 2 rfl) rfl ?_
  refine g_callVd (w := wC q) hC 9 (c_X0_placeTold_out q hI hx0) vf_X0_placeTold ml_X6_79 (by decide) (show 9 < 63 from by decide) rfl rfl rfl rfl rfl (Nat.le_of_ble_eq_true rfl) (gDec_at DX6_form_0 3 rfl) ?_
  refine g_astoreN hC (gDec_at DX6_form_0 4 rfl) (by decide) (L' := [(4, .null), (0, .ref (q.2.2 0)), (1, .int x0), (2, .int f), (3, .int s)]) rfl ?_
  refine g_aloadN hC (gDec_at DX6_form_0 5 rfl) rfl ?_
  refine g_ifnonnullN hC (gDec_at DX6_form_0 6 rfl) ?_ 17 (by decide)
  refine g_iconst hC (gDec_at DX6_form_0 7 rfl) (v := -1) (by decide) ?_
  refine g_iret hC (gDec_at DX6_form_0 8 rfl) ?_
  exact ⟨rfl, rfl⟩

set_option maxRecDepth 100000 in
set_option maxHeartbeats 4000000 in
theorem c_X6_form_badf (q : gQ3) {M : gM} {B : gB} (hI : cI M B) {j : Nat} (hj : j < 12) (ht : j % 6 < B 9 0) {f : Int32} (hf : ¬ gin f 1 999) {s : Int32} : gCt (wC q) yX6_form cX6_form 5 (some .int) 8 [.ref (q.2.2 0), .int (nI (10 * (j / 6) + j % 6)), .int f, .int s] M (gR (some (.int (-2))) M) := by
  refine gMet RX6 (by decide +kernel) rfl (Nat.le_of_ble_eq_true rfl) (fun X hC => ?_)
  have hC : gC X (wC q) cX6_form 5 RX6 (some .int) 8 := hC
  show gG X (wC q) _ 5 M 0 [(0, .ref (q.2.2 0)), (1, .int (nI (10 * (j / 6) + j % 6))), (2, .int f), (3, .int s)] []
  refine g_aload_n hC (gDec_at DX6_form_0 0 rfl) rfl ?_
  refine g_get (w := wC q) hC 0 (v := .ref (q.2.2 9)) fl_X6_19 (show 0 < 63 from by decide) rfl rfl (gDec_at DX6_form_0 1 rfl) ?_
  refine g_iload_n hC (gDec_at DX6_form_0 2 rfl) rfl ?_
  refine g_callVd (w := wC q) hC 9 (c_X0_placeTold q hI hj ht) vf_X0_placeTold ml_X6_79 (by decide) (show 9 < 63 from by decide) rfl rfl rfl rfl rfl (Nat.le_of_ble_eq_true rfl) (gDec_at DX6_form_0 3 rfl) ?_
  refine g_astore hC (gDec_at DX6_form_0 4 rfl) (by decide) (L' := [(4, .ref (q.2.2 (15 + j))), (0, .ref (q.2.2 0)), (1, .int (nI (10 * (j / 6) + j % 6))), (2, .int f), (3, .int s)]) rfl ?_
  refine g_aload hC (gDec_at DX6_form_0 5 rfl) rfl ?_
  refine g_ifnonnull hC (gDec_at DX6_form_0 6 rfl) 17 (by decide) ?_
  refine g_iload_n hC (gDec_at DX6_form_0 9 rfl) rfl ?_
  refine g_iload_n hC (gDec_at DX6_form_0 10 rfl) rfl ?_
  refine g_callSd (w := wC q) hC (c_X6_isBadForm_0 q hf) sf_X6_isBadForm ml_X6_177 (by decide) rfl rfl (Nat.le_of_ble_eq_true rfl) (gDec_at DX6_form_0 11 rfl) ?_
  refine g_if_eqN hC (by decide) (gDec_at DX6_form_0 12 rfl) 30 (by decide) (fun h => absurd h (by decide)) (fun h => ?_)
  refine g_bipush hC (gDec_at DX6_form_0 13 rfl) (v := -2) (by decide) ?_
  refine g_goto hC (gDec_at DX6_form_0 14 rfl) 41 (by decide) ?_
  refine g_iret hC (gDec_at DX6_form_0 21 rfl) ?_
  exact ⟨rfl, rfl⟩

set_option maxRecDepth 100000 in
set_option maxHeartbeats 4000000 in
theorem c_X6_form_bads (q : gQ3) {M : gM} {B : gB} (hI : cI M B) {j : Nat} (hj : j < 12) (ht : j % 6 < B 9 0) {f : Nat} (hfa : 1 ≤ f) (hfb : f ≤ 999) {s : Int32} (hs : ¬ gin s 1 99) : gCt (wC q) yX6_form cX6_form 5 (some .int) 8 [.ref (q.2.2 0), .int (nI (10 * (j / 6) + j % 6)), .int (nI f), .int s] M (gR (some (.int (-2))) M) := by
  refine gMet RX6 (by decide +kernel) rfl (Nat.le_of_ble_eq_true rfl) (fun X hC => ?_)
  have hC : gC X (wC q) cX6_form 5 RX6 (some .int) 8 := hC
  show gG X (wC q) _ 5 M 0 [(0, .ref (q.2.2 0)), (1, .int (nI (10 * (j / 6) + j % 6))), (2, .int (nI f)), (3, .int s)] []
  refine g_aload_n hC (gDec_at DX6_form_0 0 rfl) rfl ?_
  refine g_get (w := wC q) hC 0 (v := .ref (q.2.2 9)) fl_X6_19 (show 0 < 63 from by decide) rfl rfl (gDec_at DX6_form_0 1 rfl) ?_
  refine g_iload_n hC (gDec_at DX6_form_0 2 rfl) rfl ?_
  refine g_callVd (w := wC q) hC 9 (c_X0_placeTold q hI hj ht) vf_X0_placeTold ml_X6_79 (by decide) (show 9 < 63 from by decide) rfl rfl rfl rfl rfl (Nat.le_of_ble_eq_true rfl) (gDec_at DX6_form_0 3 rfl) ?_
  refine g_astore hC (gDec_at DX6_form_0 4 rfl) (by decide) (L' := [(4, .ref (q.2.2 (15 + j))), (0, .ref (q.2.2 0)), (1, .int (nI (10 * (j / 6) + j % 6))), (2, .int (nI f)), (3, .int s)]) rfl ?_
  refine g_aload hC (gDec_at DX6_form_0 5 rfl) rfl ?_
  refine g_ifnonnull hC (gDec_at DX6_form_0 6 rfl) 17 (by decide) ?_
  refine g_iload_n hC (gDec_at DX6_form_0 9 rfl) rfl ?_
  refine g_iload_n hC (gDec_at DX6_form_0 10 rfl) rfl ?_
  refine g_callSd (w := wC q) hC (c_X6_isBadForm_1 q (by omega) (by omega) hs) sf_X6_isBadForm ml_X6_177 (by decide) rfl rfl (Nat.le_of_ble_eq_true rfl) (gDec_at DX6_form_0 11 rfl) ?_
  refine g_if_eqN hC (by decide) (gDec_at DX6_form_0 12 rfl) 30 (by decide) (fun h => absurd h (by decide)) (fun h => ?_)
  refine g_bipush hC (gDec_at DX6_form_0 13 rfl) (v := -2) (by decide) ?_
  refine g_goto hC (gDec_at DX6_form_0 14 rfl) 41 (by decide) ?_
  refine g_iret hC (gDec_at DX6_form_0 21 rfl) ?_
  exact ⟨rfl, rfl⟩

set_option maxRecDepth 100000 in
set_option maxHeartbeats 4000000 in
theorem c_X6_form_ok (q : gQ3) {M : gM} {B : gB} (hI : cI M B) {j : Nat} (hj : j < 12) (ht : j % 6 < B 9 0) {f : Nat} (hfa : 1 ≤ f) (hfb : f ≤ 999) {s : Nat} (hsa : 1 ≤ s) (hsb : s ≤ 99) : gCt (wC q) yX6_form cX6_form 5 (some .int) 8 [.ref (q.2.2 0), .int (nI (10 * (j / 6) + j % 6)), .int (nI f), .int (nI s)] M (gR (some (.int (fk (sForm B j f s)))) M) := by
  refine gMet RX6 (by decide +kernel) rfl (Nat.le_of_ble_eq_true rfl) (fun X hC => ?_)
  have hC : gC X (wC q) cX6_form 5 RX6 (some .int) 8 := hC
  show gG X (wC q) _ 5 M 0 [(0, .ref (q.2.2 0)), (1, .int (nI (10 * (j / 6) + j % 6))), (2, .int (nI f)), (3, .int (nI s))] []
  refine g_aload_n hC (gDec_at DX6_form_0 0 rfl) rfl ?_
  refine g_get (w := wC q) hC 0 (v := .ref (q.2.2 9)) fl_X6_19 (show 0 < 63 from by decide) rfl rfl (gDec_at DX6_form_0 1 rfl) ?_
  refine g_iload_n hC (gDec_at DX6_form_0 2 rfl) rfl ?_
  refine g_callVd (w := wC q) hC 9 (c_X0_placeTold q hI hj ht) vf_X0_placeTold ml_X6_79 (by decide) (show 9 < 63 from by decide) rfl rfl rfl rfl rfl (Nat.le_of_ble_eq_true rfl) (gDec_at DX6_form_0 3 rfl) ?_
  refine g_astore hC (gDec_at DX6_form_0 4 rfl) (by decide) (L' := [(4, .ref (q.2.2 (15 + j))), (0, .ref (q.2.2 0)), (1, .int (nI (10 * (j / 6) + j % 6))), (2, .int (nI f)), (3, .int (nI s))]) rfl ?_
  refine g_aload hC (gDec_at DX6_form_0 5 rfl) rfl ?_
  refine g_ifnonnull hC (gDec_at DX6_form_0 6 rfl) 17 (by decide) ?_
  refine g_iload_n hC (gDec_at DX6_form_0 9 rfl) rfl ?_
  refine g_iload_n hC (gDec_at DX6_form_0 10 rfl) rfl ?_
  refine g_callSd (w := wC q) hC (c_X6_isBadForm_2 q (by omega) (by omega) (by omega) (by omega)) sf_X6_isBadForm ml_X6_177 (by decide) rfl rfl (Nat.le_of_ble_eq_true rfl) (gDec_at DX6_form_0 11 rfl) ?_
  refine g_if_eqN hC (by decide) (gDec_at DX6_form_0 12 rfl) 30 (by decide) (fun h => ?_) (fun h => absurd h (by decide))
  refine g_aload_n hC (gDec_at DX6_form_0 15 rfl) rfl ?_
  refine g_get (w := wC q) hC 0 (v := .ref (q.2.2 9)) fl_X6_19 (show 0 < 63 from by decide) rfl rfl (gDec_at DX6_form_0 16 rfl) ?_
  refine g_aload hC (gDec_at DX6_form_0 17 rfl) rfl ?_
  refine g_iload_n hC (gDec_at DX6_form_0 18 rfl) rfl ?_
  refine g_iload_n hC (gDec_at DX6_form_0 19 rfl) rfl ?_
  refine g_callVd (w := wC q) hC 9 (c_X0_formDepth q hI hj ht (f := f) (s := s) (by omega) (by omega)) vf_X0_formDepth ml_X6_181 (by decide) (show 9 < 63 from by decide) rfl rfl rfl rfl rfl (Nat.le_of_ble_eq_true rfl) (gDec_at DX6_form_0 20 rfl) ?_
  refine g_iret hC (gDec_at DX6_form_0 21 rfl) ?_
  exact ⟨rfl, rfl⟩

set_option maxRecDepth 100000 in
set_option maxHeartbeats 4000000 in
theorem c_X6_pace_badm (q : gQ3) {M : gM} {B : gB} (hI : cI M B) {m : Int32} (hm : ¬ gin m 1 99) {x0 : Int32} {u : Nat} (hu : u ≤ 1) : gCt (wC q) yX6_pace cX6_pace 4 (some .long) 8 [.ref (q.2.2 0), .int m, .int x0, .int (nI u)] M (gR (some (.long (-2))) M) := by
  refine gMet RX6 (by decide +kernel) rfl (Nat.le_of_ble_eq_true rfl) (fun X hC => ?_)
  have hC : gC X (wC q) cX6_pace 4 RX6 (some .long) 8 := hC
  show gG X (wC q) _ 4 M 0 [(0, .ref (q.2.2 0)), (1, .int m), (2, .int x0), (3, .int (nI u))] []
  refine g_iload_n hC (gDec_at DX6_pace_0 0 rfl) rfl ?_
  refine g_iconst hC (gDec_at DX6_pace_0 1 rfl) (v := nI 1) (by decide) ?_
  refine g_bipush hC (gDec_at DX6_pace_0 2 rfl) (v := nI 99) (by decide) ?_
  refine g_callSd (w := wC q) hC (c_X6_isOutside_out q (by omega) (by omega) hm) sf_X6_isOutside ml_X6_60 (by decide) rfl rfl (Nat.le_of_ble_eq_true rfl) (gDec_at DX6_pace_0 3 rfl) ?_
  refine g_if_neN hC (by decide) (gDec_at DX6_pace_0 4 rfl) 17 (by decide) (fun h => ?_) (fun h => absurd h (by decide))
  refine g_ldc2 hC cl_X6_121 (v' := -2) rfl (gDec_at DX6_pace_0 8 rfl) ?_
  refine g_lret hC (gDec_at DX6_pace_0 9 rfl) ?_
  exact ⟨rfl, rfl⟩

set_option maxRecDepth 100000 in
set_option maxHeartbeats 4000000 in
theorem c_X6_pace_badx (q : gQ3) {M : gM} {B : gB} (hI : cI M B) {m : Nat} (hma : 1 ≤ m) (hmb : m ≤ 99) {x0 : Int32} (hx0 : ¬ gin x0 0 40) {u : Nat} (hu : u ≤ 1) : gCt (wC q) yX6_pace cX6_pace 4 (some .long) 8 [.ref (q.2.2 0), .int (nI m), .int x0, .int (nI u)] M (gR (some (.long (-2))) M) := by
  refine gMet RX6 (by decide +kernel) rfl (Nat.le_of_ble_eq_true rfl) (fun X hC => ?_)
  have hC : gC X (wC q) cX6_pace 4 RX6 (some .long) 8 := hC
  show gG X (wC q) _ 4 M 0 [(0, .ref (q.2.2 0)), (1, .int (nI m)), (2, .int x0), (3, .int (nI u))] []
  refine g_iload_n hC (gDec_at DX6_pace_0 0 rfl) rfl ?_
  refine g_iconst hC (gDec_at DX6_pace_0 1 rfl) (v := nI 1) (by decide) ?_
  refine g_bipush hC (gDec_at DX6_pace_0 2 rfl) (v := nI 99) (by decide) ?_
  refine g_callSd (w := wC q) hC (c_X6_isOutside_in q (by omega) (by omega) (nI_gin (k := m) (a := 1) (b := 99) (by omega) (by omega) (by omega))) sf_X6_isOutside ml_X6_60 (by decide) rfl rfl (Nat.le_of_ble_eq_true rfl) (gDec_at DX6_pace_0 3 rfl) ?_
  refine g_if_neN hC (by decide) (gDec_at DX6_pace_0 4 rfl) 17 (by decide) (fun h => absurd h (by decide)) (fun h => ?_)
  refine g_iload_n hC (gDec_at DX6_pace_0 5 rfl) rfl ?_
  refine g_callSd (w := wC q) hC (c_X6_isBadDraw_out q hx0) sf_X6_isBadDraw ml_X6_117 (by decide) rfl rfl (Nat.le_of_ble_eq_true rfl) (gDec_at DX6_pace_0 6 rfl) ?_
  refine g_if_eqN hC (by decide) (gDec_at DX6_pace_0 7 rfl) 21 (by decide) (fun h => absurd h (by decide)) (fun h => ?_)
  refine g_ldc2 hC cl_X6_121 (v' := -2) rfl (gDec_at DX6_pace_0 8 rfl) ?_
  refine g_lret hC (gDec_at DX6_pace_0 9 rfl) ?_
  exact ⟨rfl, rfl⟩

set_option maxRecDepth 100000 in
set_option maxHeartbeats 4000000 in
theorem c_X6_pace_ok (q : gQ3) {M : gM} {B : gB} (hI : cI M B) {m : Nat} (hma : 1 ≤ m) (hmb : m ≤ 99) {x : Nat} (hx : x ≤ 40) {u : Nat} (hu : u ≤ 1) : gCt (wC q) yX6_pace cX6_pace 4 (some .long) 8 [.ref (q.2.2 0), .int (nI m), .int (nI x), .int (nI u)] M (gR (some (.long (lN (sTo (sPull B x * x) (sAll B * (m + sLd B / 100)) u)))) M) := by
  refine gMet RX6 (by decide +kernel) rfl (Nat.le_of_ble_eq_true rfl) (fun X hC => ?_)
  have hC : gC X (wC q) cX6_pace 4 RX6 (some .long) 8 := hC
  show gG X (wC q) _ 4 M 0 [(0, .ref (q.2.2 0)), (1, .int (nI m)), (2, .int (nI x)), (3, .int (nI u))] []
  have hpl := sPull_le B hx
  have hal := sAll_le B
  have has := sAll_ps hI.2.2
  have hld := sLd_le hI.2.2
  have hpx := mul_bd hpl hx
  have haq := mul_bd hal (show m + sLd B / 100 ≤ 400 by omega)
  refine g_iload_n hC (gDec_at DX6_pace_0 0 rfl) rfl ?_
  refine g_iconst hC (gDec_at DX6_pace_0 1 rfl) (v := nI 1) (by decide) ?_
  refine g_bipush hC (gDec_at DX6_pace_0 2 rfl) (v := nI 99) (by decide) ?_
  refine g_callSd (w := wC q) hC (c_X6_isOutside_in q (by omega) (by omega) (nI_gin (k := m) (a := 1) (b := 99) (by omega) (by omega) (by omega))) sf_X6_isOutside ml_X6_60 (by decide) rfl rfl (Nat.le_of_ble_eq_true rfl) (gDec_at DX6_pace_0 3 rfl) ?_
  refine g_if_neN hC (by decide) (gDec_at DX6_pace_0 4 rfl) 17 (by decide) (fun h => absurd h (by decide)) (fun h => ?_)
  refine g_iload_n hC (gDec_at DX6_pace_0 5 rfl) rfl ?_
  refine g_callSd (w := wC q) hC (c_X6_isBadDraw_in q (k := x) (by omega)) sf_X6_isBadDraw ml_X6_117 (by decide) rfl rfl (Nat.le_of_ble_eq_true rfl) (gDec_at DX6_pace_0 6 rfl) ?_
  refine g_if_eqN hC (by decide) (gDec_at DX6_pace_0 7 rfl) 21 (by decide) (fun h => ?_) (fun h => absurd h (by decide))
  refine g_aload_n hC (gDec_at DX6_pace_0 10 rfl) rfl ?_
  refine g_get (w := wC q) hC 0 (v := .ref (q.2.2 9)) fl_X6_19 (show 0 < 63 from by decide) rfl rfl (gDec_at DX6_pace_0 11 rfl) ?_
  refine g_iload_n hC (gDec_at DX6_pace_0 12 rfl) rfl ?_
  refine g_callVd (w := wC q) hC 9 (c_X0_pullAt q hI (x := x) (by omega)) vf_X0_pullAt ml_X6_123 (by decide) (show 9 < 63 from by decide) rfl rfl rfl rfl rfl (Nat.le_of_ble_eq_true rfl) (gDec_at DX6_pace_0 13 rfl) ?_
  refine g_iload_n hC (gDec_at DX6_pace_0 14 rfl) rfl ?_
  refine g_i2lN hC (by omega) (gDec_at DX6_pace_0 15 rfl) ?_
  refine g_lmulN hC (gDec_at DX6_pace_0 16 rfl) ?_
  refine g_aload_n hC (gDec_at DX6_pace_0 17 rfl) rfl ?_
  refine g_get (w := wC q) hC 0 (v := .ref (q.2.2 9)) fl_X6_19 (show 0 < 63 from by decide) rfl rfl (gDec_at DX6_pace_0 18 rfl) ?_
  refine g_callVd (w := wC q) hC 9 (c_X0_allGives q hI) vf_X0_allGives ml_X6_126 (by decide) (show 9 < 63 from by decide) rfl rfl rfl rfl rfl (Nat.le_of_ble_eq_true rfl) (gDec_at DX6_pace_0 19 rfl) ?_
  refine g_iload_n hC (gDec_at DX6_pace_0 20 rfl) rfl ?_
  refine g_i2lN hC (by omega) (gDec_at DX6_pace_0 21 rfl) ?_
  refine g_aload_n hC (gDec_at DX6_pace_0 22 rfl) rfl ?_
  refine g_get (w := wC q) hC 0 (v := .ref (q.2.2 9)) fl_X6_19 (show 0 < 63 from by decide) rfl rfl (gDec_at DX6_pace_0 23 rfl) ?_
  refine g_callVd (w := wC q) hC 9 (c_X0_load q hI) vf_X0_load ml_X6_192 (by decide) (show 9 < 63 from by decide) rfl rfl rfl rfl rfl (Nat.le_of_ble_eq_true rfl) (gDec_at DX6_pace_0 24 rfl) ?_
  refine g_laddN hC (gDec_at DX6_pace_0 25 rfl) ?_
  refine g_lmulN hC (gDec_at DX6_pace_0 26 rfl) ?_
  refine g_iload_n hC (gDec_at DX6_pace_0 27 rfl) rfl ?_
  refine g_callSd (w := wC q) hC (c_X6_fractionPart q (a := ((sPull B x) * x)) (b := ((sAll B) * (m + (sLd B / 100)))) (u := u) (by omega) (by omega) (by omega)) sf_X6_fractionPart ml_X6_130 (by decide) rfl rfl (Nat.le_of_ble_eq_true rfl) (gDec_at DX6_pace_0 28 rfl) ?_
  refine g_lret hC (gDec_at DX6_pace_0 29 rfl) ?_
  exact ⟨rfl, rfl⟩

set_option maxRecDepth 100000 in
set_option maxHeartbeats 4000000 in
theorem c_X6_wet_badm (q : gQ3) {M : gM} {B : gB} (hI : cI M B) {m : Int32} (hm : ¬ gin m 0 50) {x0 : Int32} {u : Nat} (hu : u ≤ 1) : gCt (wC q) yX6_wet cX6_wet 4 (some .long) 8 [.ref (q.2.2 0), .int m, .int x0, .int (nI u)] M (gR (some (.long (-2))) M) := by
  refine gMet RX6 (by decide +kernel) rfl (Nat.le_of_ble_eq_true rfl) (fun X hC => ?_)
  have hC : gC X (wC q) cX6_wet 4 RX6 (some .long) 8 := hC
  show gG X (wC q) _ 4 M 0 [(0, .ref (q.2.2 0)), (1, .int m), (2, .int x0), (3, .int (nI u))] []
  refine g_iload_n hC (gDec_at DX6_wet_0 0 rfl) rfl ?_
  refine g_iconst hC (gDec_at DX6_wet_0 1 rfl) (v := nI 0) (by decide) ?_
  refine g_bipush hC (gDec_at DX6_wet_0 2 rfl) (v := nI 50) (by decide) ?_
  refine g_callSd (w := wC q) hC (c_X6_isOutside_out q (by omega) (by omega) hm) sf_X6_isOutside ml_X6_60 (by decide) rfl rfl (Nat.le_of_ble_eq_true rfl) (gDec_at DX6_wet_0 3 rfl) ?_
  refine g_if_neN hC (by decide) (gDec_at DX6_wet_0 4 rfl) 17 (by decide) (fun h => ?_) (fun h => absurd h (by decide))
  refine g_ldc2 hC cl_X6_121 (v' := -2) rfl (gDec_at DX6_wet_0 8 rfl) ?_
  refine g_lret hC (gDec_at DX6_wet_0 9 rfl) ?_
  exact ⟨rfl, rfl⟩

set_option maxRecDepth 100000 in
set_option maxHeartbeats 4000000 in
theorem c_X6_wet_badx (q : gQ3) {M : gM} {B : gB} (hI : cI M B) {m : Nat} (hma : 0 ≤ m) (hmb : m ≤ 50) {x0 : Int32} (hx0 : ¬ gin x0 0 40) {u : Nat} (hu : u ≤ 1) : gCt (wC q) yX6_wet cX6_wet 4 (some .long) 8 [.ref (q.2.2 0), .int (nI m), .int x0, .int (nI u)] M (gR (some (.long (-2))) M) := by
  refine gMet RX6 (by decide +kernel) rfl (Nat.le_of_ble_eq_true rfl) (fun X hC => ?_)
  have hC : gC X (wC q) cX6_wet 4 RX6 (some .long) 8 := hC
  show gG X (wC q) _ 4 M 0 [(0, .ref (q.2.2 0)), (1, .int (nI m)), (2, .int x0), (3, .int (nI u))] []
  refine g_iload_n hC (gDec_at DX6_wet_0 0 rfl) rfl ?_
  refine g_iconst hC (gDec_at DX6_wet_0 1 rfl) (v := nI 0) (by decide) ?_
  refine g_bipush hC (gDec_at DX6_wet_0 2 rfl) (v := nI 50) (by decide) ?_
  refine g_callSd (w := wC q) hC (c_X6_isOutside_in q (by omega) (by omega) (nI_gin (k := m) (a := 0) (b := 50) (by omega) (by omega) (by omega))) sf_X6_isOutside ml_X6_60 (by decide) rfl rfl (Nat.le_of_ble_eq_true rfl) (gDec_at DX6_wet_0 3 rfl) ?_
  refine g_if_neN hC (by decide) (gDec_at DX6_wet_0 4 rfl) 17 (by decide) (fun h => absurd h (by decide)) (fun h => ?_)
  refine g_iload_n hC (gDec_at DX6_wet_0 5 rfl) rfl ?_
  refine g_callSd (w := wC q) hC (c_X6_isBadDraw_out q hx0) sf_X6_isBadDraw ml_X6_117 (by decide) rfl rfl (Nat.le_of_ble_eq_true rfl) (gDec_at DX6_wet_0 6 rfl) ?_
  refine g_if_eqN hC (by decide) (gDec_at DX6_wet_0 7 rfl) 21 (by decide) (fun h => absurd h (by decide)) (fun h => ?_)
  refine g_ldc2 hC cl_X6_121 (v' := -2) rfl (gDec_at DX6_wet_0 8 rfl) ?_
  refine g_lret hC (gDec_at DX6_wet_0 9 rfl) ?_
  exact ⟨rfl, rfl⟩

set_option maxRecDepth 100000 in
set_option maxHeartbeats 4000000 in
theorem c_X6_wet_ok (q : gQ3) {M : gM} {B : gB} (hI : cI M B) {m : Nat} (hma : 0 ≤ m) (hmb : m ≤ 50) {x : Nat} (hx : x ≤ 40) {u : Nat} (hu : u ≤ 1) : gCt (wC q) yX6_wet cX6_wet 4 (some .long) 8 [.ref (q.2.2 0), .int (nI m), .int (nI x), .int (nI u)] M (gR (some (.long (lN (sTo (sPull B x * (100 - m)) (sAll B * 100) u)))) M) := by
  refine gMet RX6 (by decide +kernel) rfl (Nat.le_of_ble_eq_true rfl) (fun X hC => ?_)
  have hC : gC X (wC q) cX6_wet 4 RX6 (some .long) 8 := hC
  show gG X (wC q) _ 4 M 0 [(0, .ref (q.2.2 0)), (1, .int (nI m)), (2, .int (nI x)), (3, .int (nI u))] []
  have hpl := sPull_le B hx
  have hal := sAll_le B
  have has := sAll_ps hI.2.2
  have hpx := mul_bd hpl (show 100 - m ≤ 100 by omega)
  refine g_iload_n hC (gDec_at DX6_wet_0 0 rfl) rfl ?_
  refine g_iconst hC (gDec_at DX6_wet_0 1 rfl) (v := nI 0) (by decide) ?_
  refine g_bipush hC (gDec_at DX6_wet_0 2 rfl) (v := nI 50) (by decide) ?_
  refine g_callSd (w := wC q) hC (c_X6_isOutside_in q (by omega) (by omega) (nI_gin (k := m) (a := 0) (b := 50) (by omega) (by omega) (by omega))) sf_X6_isOutside ml_X6_60 (by decide) rfl rfl (Nat.le_of_ble_eq_true rfl) (gDec_at DX6_wet_0 3 rfl) ?_
  refine g_if_neN hC (by decide) (gDec_at DX6_wet_0 4 rfl) 17 (by decide) (fun h => absurd h (by decide)) (fun h => ?_)
  refine g_iload_n hC (gDec_at DX6_wet_0 5 rfl) rfl ?_
  refine g_callSd (w := wC q) hC (c_X6_isBadDraw_in q (k := x) (by omega)) sf_X6_isBadDraw ml_X6_117 (by decide) rfl rfl (Nat.le_of_ble_eq_true rfl) (gDec_at DX6_wet_0 6 rfl) ?_
  refine g_if_eqN hC (by decide) (gDec_at DX6_wet_0 7 rfl) 21 (by decide) (fun h => ?_) (fun h => absurd h (by decide))
  refine g_aload_n hC (gDec_at DX6_wet_0 10 rfl) rfl ?_
  refine g_get (w := wC q) hC 0 (v := .ref (q.2.2 9)) fl_X6_19 (show 0 < 63 from by decide) rfl rfl (gDec_at DX6_wet_0 11 rfl) ?_
  refine g_iload_n hC (gDec_at DX6_wet_0 12 rfl) rfl ?_
  refine g_callVd (w := wC q) hC 9 (c_X0_pullAt q hI (x := x) (by omega)) vf_X0_pullAt ml_X6_123 (by decide) (show 9 < 63 from by decide) rfl rfl rfl rfl rfl (Nat.le_of_ble_eq_true rfl) (gDec_at DX6_wet_0 13 rfl) ?_
  refine g_bipush hC (gDec_at DX6_wet_0 14 rfl) (v := nI 100) (by decide) ?_
  refine g_iload_n hC (gDec_at DX6_wet_0 15 rfl) rfl ?_
  refine g_isubN hC (by omega) (gDec_at DX6_wet_0 16 rfl) ?_
  refine g_i2lN hC (by omega) (gDec_at DX6_wet_0 17 rfl) ?_
  refine g_lmulN hC (gDec_at DX6_wet_0 18 rfl) ?_
  refine g_aload_n hC (gDec_at DX6_wet_0 19 rfl) rfl ?_
  refine g_get (w := wC q) hC 0 (v := .ref (q.2.2 9)) fl_X6_19 (show 0 < 63 from by decide) rfl rfl (gDec_at DX6_wet_0 20 rfl) ?_
  refine g_callVd (w := wC q) hC 9 (c_X0_allGives q hI) vf_X0_allGives ml_X6_126 (by decide) (show 9 < 63 from by decide) rfl rfl rfl rfl rfl (Nat.le_of_ble_eq_true rfl) (gDec_at DX6_wet_0 21 rfl) ?_
  refine g_ldc2 hC cl_X6_195 (v' := lN 100) (by decide) (gDec_at DX6_wet_0 22 rfl) ?_
  refine g_lmulN hC (gDec_at DX6_wet_0 23 rfl) ?_
  refine g_iload_n hC (gDec_at DX6_wet_0 24 rfl) rfl ?_
  refine g_callSd (w := wC q) hC (c_X6_fractionPart q (a := ((sPull B x) * (100 - m))) (b := ((sAll B) * 100)) (u := u) (by omega) (by omega) (by omega)) sf_X6_fractionPart ml_X6_130 (by decide) rfl rfl (Nat.le_of_ble_eq_true rfl) (gDec_at DX6_wet_0 25 rfl) ?_
  refine g_lret hC (gDec_at DX6_wet_0 26 rfl) ?_
  exact ⟨rfl, rfl⟩

set_option maxRecDepth 100000 in
set_option maxHeartbeats 4000000 in
theorem c_X6_lost_out (q : gQ3) {M : gM} {B : gB} (hI : cI M B) {x0 : Int32} (hx0 : ¬ isPl B x0) {a b x1 : Int32} {mo u : Nat} (hmo : mo ≤ 1) (hu : u ≤ 1) : gCt (wC q) yX6_lost cX6_lost 8 (some .long) 8 [.ref (q.2.2 0), .int x0, .int a, .int b, .int x1, .int (nI mo), .int (nI u)] M (gR (some (.long (-1))) M) := by
  refine gMet RX6 (by decide +kernel) rfl (Nat.le_of_ble_eq_true rfl) (fun X hC => ?_)
  have hC : gC X (wC q) cX6_lost 8 RX6 (some .long) 8 := hC
  show gG X (wC q) _ 8 M 0 [(0, .ref (q.2.2 0)), (1, .int x0), (2, .int a), (3, .int b), (4, .int x1), (5, .int (nI mo)), (6, .int (nI u))] []
  refine g_aload_n hC (gDec_at DX6_lost_0 0 rfl) rfl ?_
  refine g_get (w := wC q) hC 0 (v := .ref (q.2.2 9)) fl_X6_19 (show 0 < 63 from by decide) rfl rfl (gDec_at DX6_lost_0 1 rfl) ?_
  refine g_iload_n hC (gDec_at DX6_lost_0 2 rfl) rfl ?_
  refine g_callVd (w := wC q) hC 9 (c_X0_placeTold_out q hI hx0) vf_X0_placeTold ml_X6_79 (by decide) (show 9 < 63 from by decide) rfl rfl rfl rfl rfl (Nat.le_of_ble_eq_true rfl) (gDec_at DX6_lost_0 3 rfl) ?_
  refine g_astoreN hC (gDec_at DX6_lost_0 4 rfl) (by decide) (L' := [(7, .null), (0, .ref (q.2.2 0)), (1, .int x0), (2, .int a), (3, .int b), (4, .int x1), (5, .int (nI mo)), (6, .int (nI u))]) rfl ?_
  refine g_aloadN hC (gDec_at DX6_lost_0 5 rfl) rfl ?_
  refine g_ifnonnullN hC (gDec_at DX6_lost_0 6 rfl) ?_ 19 (by decide)
  refine g_ldc2 hC cl_X6_104 (v' := -1) rfl (gDec_at DX6_lost_0 7 rfl) ?_
  refine g_lret hC (gDec_at DX6_lost_0 8 rfl) ?_
  exact ⟨rfl, rfl⟩

set_option maxRecDepth 100000 in
set_option maxHeartbeats 4000000 in
theorem c_X6_lost_bada (q : gQ3) {M : gM} {B : gB} (hI : cI M B) {j : Nat} (hj : j < 12) (ht : j % 6 < B 9 0) {a : Int32} (ha : ¬ gin a 4 40) {b x1 : Int32} {mo u : Nat} (hmo : mo ≤ 1) (hu : u ≤ 1) : gCt (wC q) yX6_lost cX6_lost 8 (some .long) 8 [.ref (q.2.2 0), .int (nI (10 * (j / 6) + j % 6)), .int a, .int b, .int x1, .int (nI mo), .int (nI u)] M (gR (some (.long (-2))) M) := by
  refine gMet RX6 (by decide +kernel) rfl (Nat.le_of_ble_eq_true rfl) (fun X hC => ?_)
  have hC : gC X (wC q) cX6_lost 8 RX6 (some .long) 8 := hC
  show gG X (wC q) _ 8 M 0 [(0, .ref (q.2.2 0)), (1, .int (nI (10 * (j / 6) + j % 6))), (2, .int a), (3, .int b), (4, .int x1), (5, .int (nI mo)), (6, .int (nI u))] []
  refine g_aload_n hC (gDec_at DX6_lost_0 0 rfl) rfl ?_
  refine g_get (w := wC q) hC 0 (v := .ref (q.2.2 9)) fl_X6_19 (show 0 < 63 from by decide) rfl rfl (gDec_at DX6_lost_0 1 rfl) ?_
  refine g_iload_n hC (gDec_at DX6_lost_0 2 rfl) rfl ?_
  refine g_callVd (w := wC q) hC 9 (c_X0_placeTold q hI hj ht) vf_X0_placeTold ml_X6_79 (by decide) (show 9 < 63 from by decide) rfl rfl rfl rfl rfl (Nat.le_of_ble_eq_true rfl) (gDec_at DX6_lost_0 3 rfl) ?_
  refine g_astore hC (gDec_at DX6_lost_0 4 rfl) (by decide) (L' := [(7, .ref (q.2.2 (15 + j))), (0, .ref (q.2.2 0)), (1, .int (nI (10 * (j / 6) + j % 6))), (2, .int a), (3, .int b), (4, .int x1), (5, .int (nI mo)), (6, .int (nI u))]) rfl ?_
  refine g_aload hC (gDec_at DX6_lost_0 5 rfl) rfl ?_
  refine g_ifnonnull hC (gDec_at DX6_lost_0 6 rfl) 19 (by decide) ?_
  refine g_iload_n hC (gDec_at DX6_lost_0 9 rfl) rfl ?_
  refine g_iconst hC (gDec_at DX6_lost_0 10 rfl) (v := nI 4) (by decide) ?_
  refine g_bipush hC (gDec_at DX6_lost_0 11 rfl) (v := nI 40) (by decide) ?_
  refine g_callSd (w := wC q) hC (c_X6_isOutside_out q (by omega) (by omega) ha) sf_X6_isOutside ml_X6_60 (by decide) rfl rfl (Nat.le_of_ble_eq_true rfl) (gDec_at DX6_lost_0 12 rfl) ?_
  refine g_if_neN hC (by decide) (gDec_at DX6_lost_0 13 rfl) 47 (by decide) (fun h => ?_) (fun h => absurd h (by decide))
  refine g_ldc2 hC cl_X6_121 (v' := -2) rfl (gDec_at DX6_lost_0 22 rfl) ?_
  refine g_lret hC (gDec_at DX6_lost_0 23 rfl) ?_
  exact ⟨rfl, rfl⟩

set_option maxRecDepth 100000 in
set_option maxHeartbeats 4000000 in
theorem c_X6_lost_badb (q : gQ3) {M : gM} {B : gB} (hI : cI M B) {j : Nat} (hj : j < 12) (ht : j % 6 < B 9 0) {a : Nat} (haa : 4 ≤ a) (hab : a ≤ 40) {b : Int32} (hb : ¬ gin b a 40) {x1 : Int32} {mo u : Nat} (hmo : mo ≤ 1) (hu : u ≤ 1) : gCt (wC q) yX6_lost cX6_lost 8 (some .long) 8 [.ref (q.2.2 0), .int (nI (10 * (j / 6) + j % 6)), .int (nI a), .int b, .int x1, .int (nI mo), .int (nI u)] M (gR (some (.long (-2))) M) := by
  refine gMet RX6 (by decide +kernel) rfl (Nat.le_of_ble_eq_true rfl) (fun X hC => ?_)
  have hC : gC X (wC q) cX6_lost 8 RX6 (some .long) 8 := hC
  show gG X (wC q) _ 8 M 0 [(0, .ref (q.2.2 0)), (1, .int (nI (10 * (j / 6) + j % 6))), (2, .int (nI a)), (3, .int b), (4, .int x1), (5, .int (nI mo)), (6, .int (nI u))] []
  refine g_aload_n hC (gDec_at DX6_lost_0 0 rfl) rfl ?_
  refine g_get (w := wC q) hC 0 (v := .ref (q.2.2 9)) fl_X6_19 (show 0 < 63 from by decide) rfl rfl (gDec_at DX6_lost_0 1 rfl) ?_
  refine g_iload_n hC (gDec_at DX6_lost_0 2 rfl) rfl ?_
  refine g_callVd (w := wC q) hC 9 (c_X0_placeTold q hI hj ht) vf_X0_placeTold ml_X6_79 (by decide) (show 9 < 63 from by decide) rfl rfl rfl rfl rfl (Nat.le_of_ble_eq_true rfl) (gDec_at DX6_lost_0 3 rfl) ?_
  refine g_astore hC (gDec_at DX6_lost_0 4 rfl) (by decide) (L' := [(7, .ref (q.2.2 (15 + j))), (0, .ref (q.2.2 0)), (1, .int (nI (10 * (j / 6) + j % 6))), (2, .int (nI a)), (3, .int b), (4, .int x1), (5, .int (nI mo)), (6, .int (nI u))]) rfl ?_
  refine g_aload hC (gDec_at DX6_lost_0 5 rfl) rfl ?_
  refine g_ifnonnull hC (gDec_at DX6_lost_0 6 rfl) 19 (by decide) ?_
  refine g_iload_n hC (gDec_at DX6_lost_0 9 rfl) rfl ?_
  refine g_iconst hC (gDec_at DX6_lost_0 10 rfl) (v := nI 4) (by decide) ?_
  refine g_bipush hC (gDec_at DX6_lost_0 11 rfl) (v := nI 40) (by decide) ?_
  refine g_callSd (w := wC q) hC (c_X6_isOutside_in q (by omega) (by omega) (nI_gin (k := a) (a := 4) (b := 40) (by omega) (by omega) (by omega))) sf_X6_isOutside ml_X6_60 (by decide) rfl rfl (Nat.le_of_ble_eq_true rfl) (gDec_at DX6_lost_0 12 rfl) ?_
  refine g_if_neN hC (by decide) (gDec_at DX6_lost_0 13 rfl) 47 (by decide) (fun h => absurd h (by decide)) (fun h => ?_)
  refine g_iload_n hC (gDec_at DX6_lost_0 14 rfl) rfl ?_
  refine g_iload_n hC (gDec_at DX6_lost_0 15 rfl) rfl ?_
  refine g_bipush hC (gDec_at DX6_lost_0 16 rfl) (v := nI 40) (by decide) ?_
  refine g_callSd (w := wC q) hC (c_X6_isOutside_out q (by omega) (by omega) hb) sf_X6_isOutside ml_X6_60 (by decide) rfl rfl (Nat.le_of_ble_eq_true rfl) (gDec_at DX6_lost_0 17 rfl) ?_
  refine g_if_neN hC (by decide) (gDec_at DX6_lost_0 18 rfl) 47 (by decide) (fun h => ?_) (fun h => absurd h (by decide))
  refine g_ldc2 hC cl_X6_121 (v' := -2) rfl (gDec_at DX6_lost_0 22 rfl) ?_
  refine g_lret hC (gDec_at DX6_lost_0 23 rfl) ?_
  exact ⟨rfl, rfl⟩

set_option maxRecDepth 100000 in
set_option maxHeartbeats 4000000 in
theorem c_X6_lost_badx (q : gQ3) {M : gM} {B : gB} (hI : cI M B) {j : Nat} (hj : j < 12) (ht : j % 6 < B 9 0) {a : Nat} (haa : 4 ≤ a) (hab : a ≤ 40) {b : Nat} (hba : a ≤ b) (hbb : b ≤ 40) {x1 : Int32} (hx1 : ¬ gin x1 0 40) {mo u : Nat} (hmo : mo ≤ 1) (hu : u ≤ 1) : gCt (wC q) yX6_lost cX6_lost 8 (some .long) 8 [.ref (q.2.2 0), .int (nI (10 * (j / 6) + j % 6)), .int (nI a), .int (nI b), .int x1, .int (nI mo), .int (nI u)] M (gR (some (.long (-2))) M) := by
  refine gMet RX6 (by decide +kernel) rfl (Nat.le_of_ble_eq_true rfl) (fun X hC => ?_)
  have hC : gC X (wC q) cX6_lost 8 RX6 (some .long) 8 := hC
  show gG X (wC q) _ 8 M 0 [(0, .ref (q.2.2 0)), (1, .int (nI (10 * (j / 6) + j % 6))), (2, .int (nI a)), (3, .int (nI b)), (4, .int x1), (5, .int (nI mo)), (6, .int (nI u))] []
  refine g_aload_n hC (gDec_at DX6_lost_0 0 rfl) rfl ?_
  refine g_get (w := wC q) hC 0 (v := .ref (q.2.2 9)) fl_X6_19 (show 0 < 63 from by decide) rfl rfl (gDec_at DX6_lost_0 1 rfl) ?_
  refine g_iload_n hC (gDec_at DX6_lost_0 2 rfl) rfl ?_
  refine g_callVd (w := wC q) hC 9 (c_X0_placeTold q hI hj ht) vf_X0_placeTold ml_X6_79 (by decide) (show 9 < 63 from by decide) rfl rfl rfl rfl rfl (Nat.le_of_ble_eq_true rfl) (gDec_at DX6_lost_0 3 rfl) ?_
  refine g_astore hC (gDec_at DX6_lost_0 4 rfl) (by decide) (L' := [(7, .ref (q.2.2 (15 + j))), (0, .ref (q.2.2 0)), (1, .int (nI (10 * (j / 6) + j % 6))), (2, .int (nI a)), (3, .int (nI b)), (4, .int x1), (5, .int (nI mo)), (6, .int (nI u))]) rfl ?_
  refine g_aload hC (gDec_at DX6_lost_0 5 rfl) rfl ?_
  refine g_ifnonnull hC (gDec_at DX6_lost_0 6 rfl) 19 (by decide) ?_
  refine g_iload_n hC (gDec_at DX6_lost_0 9 rfl) rfl ?_
  refine g_iconst hC (gDec_at DX6_lost_0 10 rfl) (v := nI 4) (by decide) ?_
  refine g_bipush hC (gDec_at DX6_lost_0 11 rfl) (v := nI 40) (by decide) ?_
  refine g_callSd (w := wC q) hC (c_X6_isOutside_in q (by omega) (by omega) (nI_gin (k := a) (a := 4) (b := 40) (by omega) (by omega) (by omega))) sf_X6_isOutside ml_X6_60 (by decide) rfl rfl (Nat.le_of_ble_eq_true rfl) (gDec_at DX6_lost_0 12 rfl) ?_
  refine g_if_neN hC (by decide) (gDec_at DX6_lost_0 13 rfl) 47 (by decide) (fun h => absurd h (by decide)) (fun h => ?_)
  refine g_iload_n hC (gDec_at DX6_lost_0 14 rfl) rfl ?_
  refine g_iload_n hC (gDec_at DX6_lost_0 15 rfl) rfl ?_
  refine g_bipush hC (gDec_at DX6_lost_0 16 rfl) (v := nI 40) (by decide) ?_
  refine g_callSd (w := wC q) hC (c_X6_isOutside_in q (by omega) (by omega) (nI_gin (k := b) (a := a) (b := 40) (by omega) (by omega) (by omega))) sf_X6_isOutside ml_X6_60 (by decide) rfl rfl (Nat.le_of_ble_eq_true rfl) (gDec_at DX6_lost_0 17 rfl) ?_
  refine g_if_neN hC (by decide) (gDec_at DX6_lost_0 18 rfl) 47 (by decide) (fun h => absurd h (by decide)) (fun h => ?_)
  refine g_iload hC (gDec_at DX6_lost_0 19 rfl) rfl ?_
  refine g_callSd (w := wC q) hC (c_X6_isBadDraw_out q hx1) sf_X6_isBadDraw ml_X6_117 (by decide) rfl rfl (Nat.le_of_ble_eq_true rfl) (gDec_at DX6_lost_0 20 rfl) ?_
  refine g_if_eqN hC (by decide) (gDec_at DX6_lost_0 21 rfl) 51 (by decide) (fun h => absurd h (by decide)) (fun h => ?_)
  refine g_ldc2 hC cl_X6_121 (v' := -2) rfl (gDec_at DX6_lost_0 22 rfl) ?_
  refine g_lret hC (gDec_at DX6_lost_0 23 rfl) ?_
  exact ⟨rfl, rfl⟩

set_option maxRecDepth 100000 in
set_option maxHeartbeats 4000000 in
theorem c_X6_lost_ok (q : gQ3) {M : gM} {B : gB} (hI : cI M B) {j : Nat} (hj : j < 12) (ht : j % 6 < B 9 0) {a : Nat} (haa : 4 ≤ a) (hab : a ≤ 40) {b : Nat} (hba : a ≤ b) (hbb : b ≤ 40) {x : Nat} (hx : x ≤ 40) {mo u : Nat} (hmo : mo ≤ 1) (hu : u ≤ 1) : gCt (wC q) yX6_lost cX6_lost 8 (some .long) 8 [.ref (q.2.2 0), .int (nI (10 * (j / 6) + j % 6)), .int (nI a), .int (nI b), .int (nI x), .int (nI mo), .int (nI u)] M (gR (some (.long (lN (sTo (sPull B x) (sLost B j (if mo = 0 then a else b)) u)))) M) := by
  refine gMet RX6 (by decide +kernel) rfl (Nat.le_of_ble_eq_true rfl) (fun X hC => ?_)
  have hC : gC X (wC q) cX6_lost 8 RX6 (some .long) 8 := hC
  show gG X (wC q) _ 8 M 0 [(0, .ref (q.2.2 0)), (1, .int (nI (10 * (j / 6) + j % 6))), (2, .int (nI a)), (3, .int (nI b)), (4, .int (nI x)), (5, .int (nI mo)), (6, .int (nI u))] []
  have hpl := sPull_le B hx
  have hla := sLost_le B j a
  have hlb := sLost_le B j b
  refine g_aload_n hC (gDec_at DX6_lost_0 0 rfl) rfl ?_
  refine g_get (w := wC q) hC 0 (v := .ref (q.2.2 9)) fl_X6_19 (show 0 < 63 from by decide) rfl rfl (gDec_at DX6_lost_0 1 rfl) ?_
  refine g_iload_n hC (gDec_at DX6_lost_0 2 rfl) rfl ?_
  refine g_callVd (w := wC q) hC 9 (c_X0_placeTold q hI hj ht) vf_X0_placeTold ml_X6_79 (by decide) (show 9 < 63 from by decide) rfl rfl rfl rfl rfl (Nat.le_of_ble_eq_true rfl) (gDec_at DX6_lost_0 3 rfl) ?_
  refine g_astore hC (gDec_at DX6_lost_0 4 rfl) (by decide) (L' := [(7, .ref (q.2.2 (15 + j))), (0, .ref (q.2.2 0)), (1, .int (nI (10 * (j / 6) + j % 6))), (2, .int (nI a)), (3, .int (nI b)), (4, .int (nI x)), (5, .int (nI mo)), (6, .int (nI u))]) rfl ?_
  refine g_aload hC (gDec_at DX6_lost_0 5 rfl) rfl ?_
  refine g_ifnonnull hC (gDec_at DX6_lost_0 6 rfl) 19 (by decide) ?_
  refine g_iload_n hC (gDec_at DX6_lost_0 9 rfl) rfl ?_
  refine g_iconst hC (gDec_at DX6_lost_0 10 rfl) (v := nI 4) (by decide) ?_
  refine g_bipush hC (gDec_at DX6_lost_0 11 rfl) (v := nI 40) (by decide) ?_
  refine g_callSd (w := wC q) hC (c_X6_isOutside_in q (by omega) (by omega) (nI_gin (k := a) (a := 4) (b := 40) (by omega) (by omega) (by omega))) sf_X6_isOutside ml_X6_60 (by decide) rfl rfl (Nat.le_of_ble_eq_true rfl) (gDec_at DX6_lost_0 12 rfl) ?_
  refine g_if_neN hC (by decide) (gDec_at DX6_lost_0 13 rfl) 47 (by decide) (fun h => absurd h (by decide)) (fun h => ?_)
  refine g_iload_n hC (gDec_at DX6_lost_0 14 rfl) rfl ?_
  refine g_iload_n hC (gDec_at DX6_lost_0 15 rfl) rfl ?_
  refine g_bipush hC (gDec_at DX6_lost_0 16 rfl) (v := nI 40) (by decide) ?_
  refine g_callSd (w := wC q) hC (c_X6_isOutside_in q (by omega) (by omega) (nI_gin (k := b) (a := a) (b := 40) (by omega) (by omega) (by omega))) sf_X6_isOutside ml_X6_60 (by decide) rfl rfl (Nat.le_of_ble_eq_true rfl) (gDec_at DX6_lost_0 17 rfl) ?_
  refine g_if_neN hC (by decide) (gDec_at DX6_lost_0 18 rfl) 47 (by decide) (fun h => absurd h (by decide)) (fun h => ?_)
  refine g_iload hC (gDec_at DX6_lost_0 19 rfl) rfl ?_
  refine g_callSd (w := wC q) hC (c_X6_isBadDraw_in q (k := x) (by omega)) sf_X6_isBadDraw ml_X6_117 (by decide) rfl rfl (Nat.le_of_ble_eq_true rfl) (gDec_at DX6_lost_0 20 rfl) ?_
  refine g_if_eqN hC (by decide) (gDec_at DX6_lost_0 21 rfl) 51 (by decide) (fun h => ?_) (fun h => absurd h (by decide))
  refine g_aload_n hC (gDec_at DX6_lost_0 24 rfl) rfl ?_
  refine g_get (w := wC q) hC 0 (v := .ref (q.2.2 9)) fl_X6_19 (show 0 < 63 from by decide) rfl rfl (gDec_at DX6_lost_0 25 rfl) ?_
  refine g_iload hC (gDec_at DX6_lost_0 26 rfl) rfl ?_
  refine g_callVd (w := wC q) hC 9 (c_X0_pullAt q hI (x := x) (by omega)) vf_X0_pullAt ml_X6_123 (by decide) (show 9 < 63 from by decide) rfl rfl rfl rfl rfl (Nat.le_of_ble_eq_true rfl) (gDec_at DX6_lost_0 27 rfl) ?_
  refine g_aload_n hC (gDec_at DX6_lost_0 28 rfl) rfl ?_
  refine g_get (w := wC q) hC 0 (v := .ref (q.2.2 9)) fl_X6_19 (show 0 < 63 from by decide) rfl rfl (gDec_at DX6_lost_0 29 rfl) ?_
  refine g_aload hC (gDec_at DX6_lost_0 30 rfl) rfl ?_
  refine g_iload hC (gDec_at DX6_lost_0 31 rfl) rfl ?_
  refine g_if_eqN hC (by omega) (gDec_at DX6_lost_0 32 rfl) 75 (by decide) (fun h68 => ?_) (fun h68 => ?_)
  · skip
    refine g_iload_n hC (gDec_at DX6_lost_0 35 rfl) rfl ?_
    refine g_callVd (w := wC q) hC 9 (c_X0_givesIfLost q hI hj ht (d := a) (by omega)) vf_X0_givesIfLost ml_X6_197 (by decide) (show 9 < 63 from by decide) rfl rfl rfl rfl rfl (Nat.le_of_ble_eq_true rfl) (gDec_at DX6_lost_0 36 rfl) ?_
    refine g_iload hC (gDec_at DX6_lost_0 37 rfl) rfl ?_
    refine g_callSd (w := wC q) hC (c_X6_fractionPart q (a := (sPull B x)) (b := (sLost B j a)) (u := u) (by omega) (by omega) (by omega)) sf_X6_fractionPart ml_X6_130 (by decide) rfl rfl (Nat.le_of_ble_eq_true rfl) (gDec_at DX6_lost_0 38 rfl) ?_
    refine g_lret hC (gDec_at DX6_lost_0 39 rfl) ?_
    exact ⟨by rw [if_pos (by omega)], rfl⟩
  · skip
    refine g_iload_n hC (gDec_at DX6_lost_0 33 rfl) rfl ?_
    refine g_goto hC (gDec_at DX6_lost_0 34 rfl) 76 (by decide) ?_
    refine g_callVd (w := wC q) hC 9 (c_X0_givesIfLost q hI hj ht (d := b) (by omega)) vf_X0_givesIfLost ml_X6_197 (by decide) (show 9 < 63 from by decide) rfl rfl rfl rfl rfl (Nat.le_of_ble_eq_true rfl) (gDec_at DX6_lost_0 36 rfl) ?_
    refine g_iload hC (gDec_at DX6_lost_0 37 rfl) rfl ?_
    refine g_callSd (w := wC q) hC (c_X6_fractionPart q (a := (sPull B x)) (b := (sLost B j b)) (u := u) (by omega) (by omega) (by omega)) sf_X6_fractionPart ml_X6_130 (by decide) rfl rfl (Nat.le_of_ble_eq_true rfl) (gDec_at DX6_lost_0 38 rfl) ?_
    refine g_lret hC (gDec_at DX6_lost_0 39 rfl) ?_
    exact ⟨by rw [if_neg (by omega)], rfl⟩

theorem oI_add (n : Nat) : oI n + nI 1000 = nI n := by
  unfold oI
  rw [Int32.sub_eq_add_neg, Int32.add_assoc, Int32.add_left_neg, Int32.add_zero]
set_option maxRecDepth 100000 in
set_option maxHeartbeats 4000000 in
theorem c_X6_off_out (q : gQ3) {M : gM} {B : gB} (hI : cI M B) {x0 : Int32} (hx0 : ¬ isPl B x0) : gCt (wC q) yX6_off cX6_off 4 (some .int) 8 [.ref (q.2.2 0), .int x0] M (gR (some (.int (-1))) M) := by
  refine gMet RX6 (by decide +kernel) rfl (Nat.le_of_ble_eq_true rfl) (fun X hC => ?_)
  have hC : gC X (wC q) cX6_off 4 RX6 (some .int) 8 := hC
  show gG X (wC q) _ 4 M 0 [(0, .ref (q.2.2 0)), (1, .int x0)] []
  refine g_aload_n hC (gDec_at DX6_off_0 0 rfl) rfl ?_
  refine g_get (w := wC q) hC 0 (v := .ref (q.2.2 9)) fl_X6_19 (show 0 < 63 from by decide) rfl rfl (gDec_at DX6_off_0 1 rfl) ?_
  refine g_iload_n hC (gDec_at DX6_off_0 2 rfl) rfl ?_
  refine g_callVd (w := wC q) hC 9 (c_X0_placeTold_out q hI hx0) vf_X0_placeTold ml_X6_79 (by decide) (show 9 < 63 from by decide) rfl rfl rfl rfl rfl (Nat.le_of_ble_eq_true rfl) (gDec_at DX6_off_0 3 rfl) ?_
  refine g_astore_nN hC (gDec_at DX6_off_0 4 rfl) (by decide) (L' := [(2, .null), (0, .ref (q.2.2 0)), (1, .int x0)]) rfl ?_
  refine g_aload_nN hC (gDec_at DX6_off_0 5 rfl) rfl ?_
  refine g_ifnonnullN hC (gDec_at DX6_off_0 6 rfl) ?_ 15 (by decide)
  refine g_iconst hC (gDec_at DX6_off_0 7 rfl) (v := -1) (by decide) ?_
  refine g_iret hC (gDec_at DX6_off_0 8 rfl) ?_
  exact ⟨rfl, rfl⟩

set_option maxRecDepth 100000 in
set_option maxHeartbeats 4000000 in
theorem c_X6_off_no (q : gQ3) {M : gM} {B : gB} (hI : cI M B) {j : Nat} (hj : j < 12) (ht : j % 6 < B 9 0) (hz : sSeen B = 0) : gCt (wC q) yX6_off cX6_off 4 (some .int) 8 [.ref (q.2.2 0), .int (nI (10 * (j / 6) + j % 6))] M (gR (some (.int (-3))) M) := by
  refine gMet RX6 (by decide +kernel) rfl (Nat.le_of_ble_eq_true rfl) (fun X hC => ?_)
  have hC : gC X (wC q) cX6_off 4 RX6 (some .int) 8 := hC
  show gG X (wC q) _ 4 M 0 [(0, .ref (q.2.2 0)), (1, .int (nI (10 * (j / 6) + j % 6)))] []
  have hsl := sSeen_le hI.2.2
  refine g_aload_n hC (gDec_at DX6_off_0 0 rfl) rfl ?_
  refine g_get (w := wC q) hC 0 (v := .ref (q.2.2 9)) fl_X6_19 (show 0 < 63 from by decide) rfl rfl (gDec_at DX6_off_0 1 rfl) ?_
  refine g_iload_n hC (gDec_at DX6_off_0 2 rfl) rfl ?_
  refine g_callVd (w := wC q) hC 9 (c_X0_placeTold q hI hj ht) vf_X0_placeTold ml_X6_79 (by decide) (show 9 < 63 from by decide) rfl rfl rfl rfl rfl (Nat.le_of_ble_eq_true rfl) (gDec_at DX6_off_0 3 rfl) ?_
  refine g_astore_n hC (gDec_at DX6_off_0 4 rfl) (by decide) (L' := [(2, .ref (q.2.2 (15 + j))), (0, .ref (q.2.2 0)), (1, .int (nI (10 * (j / 6) + j % 6)))]) rfl ?_
  refine g_aload_n hC (gDec_at DX6_off_0 5 rfl) rfl ?_
  refine g_ifnonnull hC (gDec_at DX6_off_0 6 rfl) 15 (by decide) ?_
  refine g_aload_n hC (gDec_at DX6_off_0 9 rfl) rfl ?_
  refine g_get (w := wC q) hC 0 (v := .ref (q.2.2 9)) fl_X6_19 (show 0 < 63 from by decide) rfl rfl (gDec_at DX6_off_0 10 rfl) ?_
  refine g_callVd (w := wC q) hC 9 (c_X0_allSeen q hI) vf_X0_allSeen ml_X6_201 (by decide) (show 9 < 63 from by decide) rfl rfl rfl rfl rfl (Nat.le_of_ble_eq_true rfl) (gDec_at DX6_off_0 11 rfl) ?_
  refine g_istore_n hC (gDec_at DX6_off_0 12 rfl) (by decide) (L' := [(3, .int (nI (sSeen B))), (2, .ref (q.2.2 (15 + j))), (0, .ref (q.2.2 0)), (1, .int (nI (10 * (j / 6) + j % 6)))]) rfl ?_
  refine g_iload_n hC (gDec_at DX6_off_0 13 rfl) rfl ?_
  refine g_if_neN hC (by omega) (gDec_at DX6_off_0 14 rfl) 32 (by decide) (fun h24 => ?_) (fun h24 => ?_)
  · skip
    exact absurd hz (by omega)
  · skip
    refine g_bipush hC (gDec_at DX6_off_0 15 rfl) (v := -3) (by decide) ?_
    refine g_goto hC (gDec_at DX6_off_0 16 rfl) 52 (by decide) ?_
    refine g_iret hC (gDec_at DX6_off_0 27 rfl) ?_
    exact ⟨rfl, rfl⟩

set_option maxRecDepth 100000 in
set_option maxHeartbeats 4000000 in
theorem c_X6_off_ok (q : gQ3) {M : gM} {B : gB} (hI : cI M B) {j : Nat} (hj : j < 12) (ht : j % 6 < B 9 0) (hz : 0 < sSeen B) : gCt (wC q) yX6_off cX6_off 4 (some .int) 8 [.ref (q.2.2 0), .int (nI (10 * (j / 6) + j % 6))] M (gR (some (.int (nI (sOf B j)))) M) := by
  refine gMet RX6 (by decide +kernel) rfl (Nat.le_of_ble_eq_true rfl) (fun X hC => ?_)
  have hC : gC X (wC q) cX6_off 4 RX6 (some .int) 8 := hC
  show gG X (wC q) _ 4 M 0 [(0, .ref (q.2.2 0)), (1, .int (nI (10 * (j / 6) + j % 6)))] []
  have hsl := sSeen_le hI.2.2
  refine g_aload_n hC (gDec_at DX6_off_0 0 rfl) rfl ?_
  refine g_get (w := wC q) hC 0 (v := .ref (q.2.2 9)) fl_X6_19 (show 0 < 63 from by decide) rfl rfl (gDec_at DX6_off_0 1 rfl) ?_
  refine g_iload_n hC (gDec_at DX6_off_0 2 rfl) rfl ?_
  refine g_callVd (w := wC q) hC 9 (c_X0_placeTold q hI hj ht) vf_X0_placeTold ml_X6_79 (by decide) (show 9 < 63 from by decide) rfl rfl rfl rfl rfl (Nat.le_of_ble_eq_true rfl) (gDec_at DX6_off_0 3 rfl) ?_
  refine g_astore_n hC (gDec_at DX6_off_0 4 rfl) (by decide) (L' := [(2, .ref (q.2.2 (15 + j))), (0, .ref (q.2.2 0)), (1, .int (nI (10 * (j / 6) + j % 6)))]) rfl ?_
  refine g_aload_n hC (gDec_at DX6_off_0 5 rfl) rfl ?_
  refine g_ifnonnull hC (gDec_at DX6_off_0 6 rfl) 15 (by decide) ?_
  refine g_aload_n hC (gDec_at DX6_off_0 9 rfl) rfl ?_
  refine g_get (w := wC q) hC 0 (v := .ref (q.2.2 9)) fl_X6_19 (show 0 < 63 from by decide) rfl rfl (gDec_at DX6_off_0 10 rfl) ?_
  refine g_callVd (w := wC q) hC 9 (c_X0_allSeen q hI) vf_X0_allSeen ml_X6_201 (by decide) (show 9 < 63 from by decide) rfl rfl rfl rfl rfl (Nat.le_of_ble_eq_true rfl) (gDec_at DX6_off_0 11 rfl) ?_
  refine g_istore_n hC (gDec_at DX6_off_0 12 rfl) (by decide) (L' := [(3, .int (nI (sSeen B))), (2, .ref (q.2.2 (15 + j))), (0, .ref (q.2.2 0)), (1, .int (nI (10 * (j / 6) + j % 6)))]) rfl ?_
  refine g_iload_n hC (gDec_at DX6_off_0 13 rfl) rfl ?_
  refine g_if_neN hC (by omega) (gDec_at DX6_off_0 14 rfl) 32 (by decide) (fun h24 => ?_) (fun h24 => ?_)
  · skip
    refine g_aload_n hC (gDec_at DX6_off_0 17 rfl) rfl ?_
    refine g_get (w := wC q) hC 0 (v := .ref (q.2.2 9)) fl_X6_19 (show 0 < 63 from by decide) rfl rfl (gDec_at DX6_off_0 18 rfl) ?_
    refine g_aload_n hC (gDec_at DX6_off_0 19 rfl) rfl ?_
    refine g_iload_n hC (gDec_at DX6_off_0 20 rfl) rfl ?_
    refine g_aload_n hC (gDec_at DX6_off_0 21 rfl) rfl ?_
    refine g_get (w := wC q) hC 0 (v := .ref (q.2.2 9)) fl_X6_19 (show 0 < 63 from by decide) rfl rfl (gDec_at DX6_off_0 22 rfl) ?_
    refine g_callVd (w := wC q) hC 9 (c_X0_allGives q hI) vf_X0_allGives ml_X6_126 (by decide) (show 9 < 63 from by decide) rfl rfl rfl rfl rfl (Nat.le_of_ble_eq_true rfl) (gDec_at DX6_off_0 23 rfl) ?_
    refine g_callVd (w := wC q) hC 9 (c_X0_offBy q hI hj ht) vf_X0_offBy ml_X6_204 (by decide) (show 9 < 63 from by decide) rfl rfl rfl rfl rfl (Nat.le_of_ble_eq_true rfl) (gDec_at DX6_off_0 24 rfl) ?_
    refine g_sipush hC (gDec_at DX6_off_0 25 rfl) (v := nI 1000) (by decide) ?_
    refine g_iadd hC (gDec_at DX6_off_0 26 rfl) (v := (nI (sOf B j))) (oI_add _) ?_
    refine g_iret hC (gDec_at DX6_off_0 27 rfl) ?_
    exact ⟨rfl, rfl⟩
  · skip
    exact absurd hz (by omega)

set_option maxRecDepth 100000 in
set_option maxHeartbeats 4000000 in
theorem c_X6_tooStiff_no (q : gQ3) {M : gM} {B : gB} (hI : cI M B) (hz : sSeen B = 0) : gCt (wC q) yX6_tooStiff cX6_tooStiff 1 (some .int) 8 [.ref (q.2.2 0)] M (gR (some (.int (-9))) M) := by
  refine gMet RX6 (by decide +kernel) rfl (Nat.le_of_ble_eq_true rfl) (fun X hC => ?_)
  have hC : gC X (wC q) cX6_tooStiff 1 RX6 (some .int) 8 := hC
  show gG X (wC q) _ 1 M 0 [(0, .ref (q.2.2 0))] []
  refine g_aload_n hC (gDec_at DX6_tooStiff_0 0 rfl) rfl ?_
  refine g_get (w := wC q) hC 0 (v := .ref (q.2.2 9)) fl_X6_19 (show 0 < 63 from by decide) rfl rfl (gDec_at DX6_tooStiff_0 1 rfl) ?_
  refine g_callVd (w := wC q) hC 9 (c_X0_leastOffPlace_no q hI hz) vf_X0_leastOffPlace ml_X6_208 (by decide) (show 9 < 63 from by decide) rfl rfl rfl rfl rfl (Nat.le_of_ble_eq_true rfl) (gDec_at DX6_tooStiff_0 2 rfl) ?_
  refine g_iret hC (gDec_at DX6_tooStiff_0 3 rfl) ?_
  exact ⟨rfl, rfl⟩

set_option maxRecDepth 100000 in
set_option maxHeartbeats 4000000 in
theorem c_X6_tooStiff_ok (q : gQ3) {M : gM} {B : gB} (hI : cI M B) (hz : 0 < sSeen B) : gCt (wC q) yX6_tooStiff cX6_tooStiff 1 (some .int) 8 [.ref (q.2.2 0)] M (gR (some (.int (nI (sTold (sExt B (sOf B) 0 12))))) M) := by
  refine gMet RX6 (by decide +kernel) rfl (Nat.le_of_ble_eq_true rfl) (fun X hC => ?_)
  have hC : gC X (wC q) cX6_tooStiff 1 RX6 (some .int) 8 := hC
  show gG X (wC q) _ 1 M 0 [(0, .ref (q.2.2 0))] []
  refine g_aload_n hC (gDec_at DX6_tooStiff_0 0 rfl) rfl ?_
  refine g_get (w := wC q) hC 0 (v := .ref (q.2.2 9)) fl_X6_19 (show 0 < 63 from by decide) rfl rfl (gDec_at DX6_tooStiff_0 1 rfl) ?_
  refine g_callVd (w := wC q) hC 9 (c_X0_leastOffPlace q hI hz) vf_X0_leastOffPlace ml_X6_208 (by decide) (show 9 < 63 from by decide) rfl rfl rfl rfl rfl (Nat.le_of_ble_eq_true rfl) (gDec_at DX6_tooStiff_0 2 rfl) ?_
  refine g_iret hC (gDec_at DX6_tooStiff_0 3 rfl) ?_
  exact ⟨rfl, rfl⟩

set_option maxRecDepth 100000 in
set_option maxHeartbeats 4000000 in
theorem c_X6_grown_out (q : gQ3) {M : gM} {B : gB} (hI : cI M B) {x0 : Int32} (hx0 : ¬ gin x0 0 2) {y : Int32} : gCt (wC q) yX6_grown cX6_grown 4 (some .int) 8 [.ref (q.2.2 0), .int x0, .int y] M (gR (some (.int (-1))) M) := by
  refine gMet RX6 (by decide +kernel) rfl (Nat.le_of_ble_eq_true rfl) (fun X hC => ?_)
  have hC : gC X (wC q) cX6_grown 4 RX6 (some .int) 8 := hC
  show gG X (wC q) _ 4 M 0 [(0, .ref (q.2.2 0)), (1, .int x0), (2, .int y)] []
  refine g_aload_n hC (gDec_at DX6_grown_0 0 rfl) rfl ?_
  refine g_get (w := wC q) hC 0 (v := .ref (q.2.2 9)) fl_X6_19 (show 0 < 63 from by decide) rfl rfl (gDec_at DX6_grown_0 1 rfl) ?_
  refine g_iload_n hC (gDec_at DX6_grown_0 2 rfl) rfl ?_
  refine g_callVd (w := wC q) hC 9 (c_X0_woodNumbered_out q hx0) vf_X0_woodNumbered ml_X6_56 (by decide) (show 9 < 63 from by decide) rfl rfl rfl rfl rfl (Nat.le_of_ble_eq_true rfl) (gDec_at DX6_grown_0 3 rfl) ?_
  refine g_astore_nN hC (gDec_at DX6_grown_0 4 rfl) (by decide) (L' := [(3, .null), (0, .ref (q.2.2 0)), (1, .int x0), (2, .int y)]) rfl ?_
  refine g_aload_nN hC (gDec_at DX6_grown_0 5 rfl) rfl ?_
  refine g_ifnonnullN hC (gDec_at DX6_grown_0 6 rfl) ?_ 15 (by decide)
  refine g_iconst hC (gDec_at DX6_grown_0 7 rfl) (v := -1) (by decide) ?_
  refine g_iret hC (gDec_at DX6_grown_0 8 rfl) ?_
  exact ⟨rfl, rfl⟩

set_option maxRecDepth 100000 in
set_option maxHeartbeats 4000000 in
theorem c_X6_grown_0 (q : gQ3) {M : gM} {B : gB} (hI : cI M B) {k : Nat} (hk : k < 3) : gCt (wC q) yX6_grown cX6_grown 4 (some .int) 8 [.ref (q.2.2 0), .int (nI k), .int (nI 0)] M (gR (some (.int (nI (B 6 k)))) M) := by
  refine gMet RX6 (by decide +kernel) rfl (Nat.le_of_ble_eq_true rfl) (fun X hC => ?_)
  have hC : gC X (wC q) cX6_grown 4 RX6 (some .int) 8 := hC
  show gG X (wC q) _ 4 M 0 [(0, .ref (q.2.2 0)), (1, .int (nI k)), (2, .int (nI 0))] []
  refine g_aload_n hC (gDec_at DX6_grown_0 0 rfl) rfl ?_
  refine g_get (w := wC q) hC 0 (v := .ref (q.2.2 9)) fl_X6_19 (show 0 < 63 from by decide) rfl rfl (gDec_at DX6_grown_0 1 rfl) ?_
  refine g_iload_n hC (gDec_at DX6_grown_0 2 rfl) rfl ?_
  refine g_callVd (w := wC q) hC 9 (c_X0_woodNumbered q hk) vf_X0_woodNumbered ml_X6_56 (by decide) (show 9 < 63 from by decide) rfl rfl rfl rfl rfl (Nat.le_of_ble_eq_true rfl) (gDec_at DX6_grown_0 3 rfl) ?_
  refine g_astore_n hC (gDec_at DX6_grown_0 4 rfl) (by decide) (L' := [(3, .ref (q.2.2 (12 + k))), (0, .ref (q.2.2 0)), (1, .int (nI k)), (2, .int (nI 0))]) rfl ?_
  refine g_aload_n hC (gDec_at DX6_grown_0 5 rfl) rfl ?_
  refine g_ifnonnull hC (gDec_at DX6_grown_0 6 rfl) 15 (by decide) ?_
  refine g_iload_n hC (gDec_at DX6_grown_0 9 rfl) rfl ?_
  refine g_tableIn hC (gDec_at DX6_grown_0 10 rfl) 44 (by decide) (by decide) rfl (by decide) ?_
  refine g_aload_n hC (gDec_at DX6_grown_0 11 rfl) rfl ?_
  refine g_get (w := wC q) hC (12 + k) (v := .int (nI (B 6 k))) fl_X6_64 (show 12 + k < 63 from by have := hk; omega) (cC_w0 q _ _ hk) (g_sv (ci_e hI hk)) (gDec_at DX6_grown_0 12 rfl) ?_
  refine g_iret hC (gDec_at DX6_grown_0 13 rfl) ?_
  exact ⟨rfl, rfl⟩

set_option maxRecDepth 100000 in
set_option maxHeartbeats 4000000 in
theorem c_X6_grown_1 (q : gQ3) {M : gM} {B : gB} (hI : cI M B) {k : Nat} (hk : k < 3) : gCt (wC q) yX6_grown cX6_grown 4 (some .int) 8 [.ref (q.2.2 0), .int (nI k), .int (nI 1)] M (gR (some (.int (nI (B 7 k)))) M) := by
  refine gMet RX6 (by decide +kernel) rfl (Nat.le_of_ble_eq_true rfl) (fun X hC => ?_)
  have hC : gC X (wC q) cX6_grown 4 RX6 (some .int) 8 := hC
  show gG X (wC q) _ 4 M 0 [(0, .ref (q.2.2 0)), (1, .int (nI k)), (2, .int (nI 1))] []
  refine g_aload_n hC (gDec_at DX6_grown_0 0 rfl) rfl ?_
  refine g_get (w := wC q) hC 0 (v := .ref (q.2.2 9)) fl_X6_19 (show 0 < 63 from by decide) rfl rfl (gDec_at DX6_grown_0 1 rfl) ?_
  refine g_iload_n hC (gDec_at DX6_grown_0 2 rfl) rfl ?_
  refine g_callVd (w := wC q) hC 9 (c_X0_woodNumbered q hk) vf_X0_woodNumbered ml_X6_56 (by decide) (show 9 < 63 from by decide) rfl rfl rfl rfl rfl (Nat.le_of_ble_eq_true rfl) (gDec_at DX6_grown_0 3 rfl) ?_
  refine g_astore_n hC (gDec_at DX6_grown_0 4 rfl) (by decide) (L' := [(3, .ref (q.2.2 (12 + k))), (0, .ref (q.2.2 0)), (1, .int (nI k)), (2, .int (nI 1))]) rfl ?_
  refine g_aload_n hC (gDec_at DX6_grown_0 5 rfl) rfl ?_
  refine g_ifnonnull hC (gDec_at DX6_grown_0 6 rfl) 15 (by decide) ?_
  refine g_iload_n hC (gDec_at DX6_grown_0 9 rfl) rfl ?_
  refine g_tableIn hC (gDec_at DX6_grown_0 10 rfl) 49 (by decide) (by decide) rfl (by decide) ?_
  refine g_aload_n hC (gDec_at DX6_grown_0 14 rfl) rfl ?_
  refine g_get (w := wC q) hC (12 + k) (v := .int (nI (B 7 k))) fl_X6_73 (show 12 + k < 63 from by have := hk; omega) (cC_w0 q _ _ hk) (g_sv (ci_pull hI hk)) (gDec_at DX6_grown_0 15 rfl) ?_
  refine g_iret hC (gDec_at DX6_grown_0 16 rfl) ?_
  exact ⟨rfl, rfl⟩

set_option maxRecDepth 100000 in
set_option maxHeartbeats 4000000 in
theorem c_X6_grown_2 (q : gQ3) {M : gM} {B : gB} (hI : cI M B) {k : Nat} (hk : k < 3) : gCt (wC q) yX6_grown cX6_grown 4 (some .int) 8 [.ref (q.2.2 0), .int (nI k), .int (nI 2)] M (gR (some (.int (nI (B 8 k)))) M) := by
  refine gMet RX6 (by decide +kernel) rfl (Nat.le_of_ble_eq_true rfl) (fun X hC => ?_)
  have hC : gC X (wC q) cX6_grown 4 RX6 (some .int) 8 := hC
  show gG X (wC q) _ 4 M 0 [(0, .ref (q.2.2 0)), (1, .int (nI k)), (2, .int (nI 2))] []
  refine g_aload_n hC (gDec_at DX6_grown_0 0 rfl) rfl ?_
  refine g_get (w := wC q) hC 0 (v := .ref (q.2.2 9)) fl_X6_19 (show 0 < 63 from by decide) rfl rfl (gDec_at DX6_grown_0 1 rfl) ?_
  refine g_iload_n hC (gDec_at DX6_grown_0 2 rfl) rfl ?_
  refine g_callVd (w := wC q) hC 9 (c_X0_woodNumbered q hk) vf_X0_woodNumbered ml_X6_56 (by decide) (show 9 < 63 from by decide) rfl rfl rfl rfl rfl (Nat.le_of_ble_eq_true rfl) (gDec_at DX6_grown_0 3 rfl) ?_
  refine g_astore_n hC (gDec_at DX6_grown_0 4 rfl) (by decide) (L' := [(3, .ref (q.2.2 (12 + k))), (0, .ref (q.2.2 0)), (1, .int (nI k)), (2, .int (nI 2))]) rfl ?_
  refine g_aload_n hC (gDec_at DX6_grown_0 5 rfl) rfl ?_
  refine g_ifnonnull hC (gDec_at DX6_grown_0 6 rfl) 15 (by decide) ?_
  refine g_iload_n hC (gDec_at DX6_grown_0 9 rfl) rfl ?_
  refine g_tableIn hC (gDec_at DX6_grown_0 10 rfl) 54 (by decide) (by decide) rfl (by decide) ?_
  refine g_aload_n hC (gDec_at DX6_grown_0 17 rfl) rfl ?_
  refine g_get (w := wC q) hC (12 + k) (v := .int (nI (B 8 k))) fl_X6_76 (show 12 + k < 63 from by have := hk; omega) (cC_w0 q _ _ hk) (g_sv (ci_press hI hk)) (gDec_at DX6_grown_0 18 rfl) ?_
  refine g_iret hC (gDec_at DX6_grown_0 19 rfl) ?_
  exact ⟨rfl, rfl⟩

set_option maxRecDepth 100000 in
set_option maxHeartbeats 4000000 in
theorem c_X6_grown_bad (q : gQ3) {M : gM} {B : gB} (hI : cI M B) {k : Nat} (hk : k < 3) {y : Int32} (hy : ¬ gin y 0 2) : gCt (wC q) yX6_grown cX6_grown 4 (some .int) 8 [.ref (q.2.2 0), .int (nI k), .int y] M (gR (some (.int (-2))) M) := by
  refine gMet RX6 (by decide +kernel) rfl (Nat.le_of_ble_eq_true rfl) (fun X hC => ?_)
  have hC : gC X (wC q) cX6_grown 4 RX6 (some .int) 8 := hC
  show gG X (wC q) _ 4 M 0 [(0, .ref (q.2.2 0)), (1, .int (nI k)), (2, .int y)] []
  refine g_aload_n hC (gDec_at DX6_grown_0 0 rfl) rfl ?_
  refine g_get (w := wC q) hC 0 (v := .ref (q.2.2 9)) fl_X6_19 (show 0 < 63 from by decide) rfl rfl (gDec_at DX6_grown_0 1 rfl) ?_
  refine g_iload_n hC (gDec_at DX6_grown_0 2 rfl) rfl ?_
  refine g_callVd (w := wC q) hC 9 (c_X0_woodNumbered q hk) vf_X0_woodNumbered ml_X6_56 (by decide) (show 9 < 63 from by decide) rfl rfl rfl rfl rfl (Nat.le_of_ble_eq_true rfl) (gDec_at DX6_grown_0 3 rfl) ?_
  refine g_astore_n hC (gDec_at DX6_grown_0 4 rfl) (by decide) (L' := [(3, .ref (q.2.2 (12 + k))), (0, .ref (q.2.2 0)), (1, .int (nI k)), (2, .int y)]) rfl ?_
  refine g_aload_n hC (gDec_at DX6_grown_0 5 rfl) rfl ?_
  refine g_ifnonnull hC (gDec_at DX6_grown_0 6 rfl) 15 (by decide) ?_
  refine g_iload_n hC (gDec_at DX6_grown_0 9 rfl) rfl ?_
  refine g_tableOut hC (gDec_at DX6_grown_0 10 rfl) 59 (by unfold gin at hy; omega) (by decide) ?_
  refine g_bipush hC (gDec_at DX6_grown_0 20 rfl) (v := -2) (by decide) ?_
  refine g_iret hC (gDec_at DX6_grown_0 21 rfl) ?_
  exact ⟨rfl, rfl⟩

set_option maxRecDepth 100000 in
set_option maxHeartbeats 4000000 in
theorem c_X6_about_out (q : gQ3) {M : gM} {B : gB} (hI : cI M B) {x0 : Int32} (hx0 : ¬ isPl B x0) {y : Int32} : gCt (wC q) yX6_about cX6_about 4 (some .int) 8 [.ref (q.2.2 0), .int x0, .int y] M (gR (some (.int (-1))) M) := by
  refine gMet RX6 (by decide +kernel) rfl (Nat.le_of_ble_eq_true rfl) (fun X hC => ?_)
  have hC : gC X (wC q) cX6_about 4 RX6 (some .int) 8 := hC
  show gG X (wC q) _ 4 M 0 [(0, .ref (q.2.2 0)), (1, .int x0), (2, .int y)] []
  refine g_aload_n hC (gDec_at DX6_about_0 0 rfl) rfl ?_
  refine g_get (w := wC q) hC 0 (v := .ref (q.2.2 9)) fl_X6_19 (show 0 < 63 from by decide) rfl rfl (gDec_at DX6_about_0 1 rfl) ?_
  refine g_iload_n hC (gDec_at DX6_about_0 2 rfl) rfl ?_
  refine g_callVd (w := wC q) hC 9 (c_X0_placeTold_out q hI hx0) vf_X0_placeTold ml_X6_79 (by decide) (show 9 < 63 from by decide) rfl rfl rfl rfl rfl (Nat.le_of_ble_eq_true rfl) (gDec_at DX6_about_0 3 rfl) ?_
  refine g_astore_nN hC (gDec_at DX6_about_0 4 rfl) (by decide) (L' := [(3, .null), (0, .ref (q.2.2 0)), (1, .int x0), (2, .int y)]) rfl ?_
  refine g_aload_nN hC (gDec_at DX6_about_0 5 rfl) rfl ?_
  refine g_ifnonnullN hC (gDec_at DX6_about_0 6 rfl) ?_ 15 (by decide)
  refine g_iconst hC (gDec_at DX6_about_0 7 rfl) (v := -1) (by decide) ?_
  refine g_iret hC (gDec_at DX6_about_0 8 rfl) ?_
  exact ⟨rfl, rfl⟩

set_option maxRecDepth 100000 in
set_option maxHeartbeats 4000000 in
theorem c_X6_about_0 (q : gQ3) {M : gM} {B : gB} (hI : cI M B) {j : Nat} (hj : j < 12) (ht : j % 6 < B 9 0) : gCt (wC q) yX6_about cX6_about 4 (some .int) 8 [.ref (q.2.2 0), .int (nI (10 * (j / 6) + j % 6)), .int (nI 0)] M (gR (some (.int (nI (B 0 j)))) M) := by
  refine gMet RX6 (by decide +kernel) rfl (Nat.le_of_ble_eq_true rfl) (fun X hC => ?_)
  have hC : gC X (wC q) cX6_about 4 RX6 (some .int) 8 := hC
  show gG X (wC q) _ 4 M 0 [(0, .ref (q.2.2 0)), (1, .int (nI (10 * (j / 6) + j % 6))), (2, .int (nI 0))] []
  have h4 := bv_f4 hI.2.2 hj ht
  refine g_aload_n hC (gDec_at DX6_about_0 0 rfl) rfl ?_
  refine g_get (w := wC q) hC 0 (v := .ref (q.2.2 9)) fl_X6_19 (show 0 < 63 from by decide) rfl rfl (gDec_at DX6_about_0 1 rfl) ?_
  refine g_iload_n hC (gDec_at DX6_about_0 2 rfl) rfl ?_
  refine g_callVd (w := wC q) hC 9 (c_X0_placeTold q hI hj ht) vf_X0_placeTold ml_X6_79 (by decide) (show 9 < 63 from by decide) rfl rfl rfl rfl rfl (Nat.le_of_ble_eq_true rfl) (gDec_at DX6_about_0 3 rfl) ?_
  refine g_astore_n hC (gDec_at DX6_about_0 4 rfl) (by decide) (L' := [(3, .ref (q.2.2 (15 + j))), (0, .ref (q.2.2 0)), (1, .int (nI (10 * (j / 6) + j % 6))), (2, .int (nI 0))]) rfl ?_
  refine g_aload_n hC (gDec_at DX6_about_0 5 rfl) rfl ?_
  refine g_ifnonnull hC (gDec_at DX6_about_0 6 rfl) 15 (by decide) ?_
  refine g_iload_n hC (gDec_at DX6_about_0 9 rfl) rfl ?_
  refine g_tableIn hC (gDec_at DX6_about_0 10 rfl) 56 (by decide) (by decide) rfl (by decide) ?_
  refine g_aload_n hC (gDec_at DX6_about_0 11 rfl) rfl ?_
  refine g_get (w := wC q) hC (15 + j) (v := .int (nI (B 0 j))) fl_X6_89 (show 15 + j < 63 from by have := hj; omega) (cC_p0 q _ _ hj) (g_sv (ci_f0 hI hj ht)) (gDec_at DX6_about_0 12 rfl) ?_
  refine g_iret hC (gDec_at DX6_about_0 13 rfl) ?_
  exact ⟨rfl, rfl⟩

set_option maxRecDepth 100000 in
set_option maxHeartbeats 4000000 in
theorem c_X6_about_1 (q : gQ3) {M : gM} {B : gB} (hI : cI M B) {j : Nat} (hj : j < 12) (ht : j % 6 < B 9 0) : gCt (wC q) yX6_about cX6_about 4 (some .int) 8 [.ref (q.2.2 0), .int (nI (10 * (j / 6) + j % 6)), .int (nI 1)] M (gR (some (.int (nI (B 1 j)))) M) := by
  refine gMet RX6 (by decide +kernel) rfl (Nat.le_of_ble_eq_true rfl) (fun X hC => ?_)
  have hC : gC X (wC q) cX6_about 4 RX6 (some .int) 8 := hC
  show gG X (wC q) _ 4 M 0 [(0, .ref (q.2.2 0)), (1, .int (nI (10 * (j / 6) + j % 6))), (2, .int (nI 1))] []
  have h4 := bv_f4 hI.2.2 hj ht
  refine g_aload_n hC (gDec_at DX6_about_0 0 rfl) rfl ?_
  refine g_get (w := wC q) hC 0 (v := .ref (q.2.2 9)) fl_X6_19 (show 0 < 63 from by decide) rfl rfl (gDec_at DX6_about_0 1 rfl) ?_
  refine g_iload_n hC (gDec_at DX6_about_0 2 rfl) rfl ?_
  refine g_callVd (w := wC q) hC 9 (c_X0_placeTold q hI hj ht) vf_X0_placeTold ml_X6_79 (by decide) (show 9 < 63 from by decide) rfl rfl rfl rfl rfl (Nat.le_of_ble_eq_true rfl) (gDec_at DX6_about_0 3 rfl) ?_
  refine g_astore_n hC (gDec_at DX6_about_0 4 rfl) (by decide) (L' := [(3, .ref (q.2.2 (15 + j))), (0, .ref (q.2.2 0)), (1, .int (nI (10 * (j / 6) + j % 6))), (2, .int (nI 1))]) rfl ?_
  refine g_aload_n hC (gDec_at DX6_about_0 5 rfl) rfl ?_
  refine g_ifnonnull hC (gDec_at DX6_about_0 6 rfl) 15 (by decide) ?_
  refine g_iload_n hC (gDec_at DX6_about_0 9 rfl) rfl ?_
  refine g_tableIn hC (gDec_at DX6_about_0 10 rfl) 61 (by decide) (by decide) rfl (by decide) ?_
  refine g_aload_n hC (gDec_at DX6_about_0 14 rfl) rfl ?_
  refine g_get (w := wC q) hC (15 + j) (v := .int (nI (B 1 j))) fl_X6_92 (show 15 + j < 63 from by have := hj; omega) (cC_p0 q _ _ hj) (g_sv (ci_f1 hI hj ht)) (gDec_at DX6_about_0 15 rfl) ?_
  refine g_iret hC (gDec_at DX6_about_0 16 rfl) ?_
  exact ⟨rfl, rfl⟩

set_option maxRecDepth 100000 in
set_option maxHeartbeats 4000000 in
theorem c_X6_about_2 (q : gQ3) {M : gM} {B : gB} (hI : cI M B) {j : Nat} (hj : j < 12) (ht : j % 6 < B 9 0) : gCt (wC q) yX6_about cX6_about 4 (some .int) 8 [.ref (q.2.2 0), .int (nI (10 * (j / 6) + j % 6)), .int (nI 2)] M (gR (some (.int (nI (B 2 j)))) M) := by
  refine gMet RX6 (by decide +kernel) rfl (Nat.le_of_ble_eq_true rfl) (fun X hC => ?_)
  have hC : gC X (wC q) cX6_about 4 RX6 (some .int) 8 := hC
  show gG X (wC q) _ 4 M 0 [(0, .ref (q.2.2 0)), (1, .int (nI (10 * (j / 6) + j % 6))), (2, .int (nI 2))] []
  have h4 := bv_f4 hI.2.2 hj ht
  refine g_aload_n hC (gDec_at DX6_about_0 0 rfl) rfl ?_
  refine g_get (w := wC q) hC 0 (v := .ref (q.2.2 9)) fl_X6_19 (show 0 < 63 from by decide) rfl rfl (gDec_at DX6_about_0 1 rfl) ?_
  refine g_iload_n hC (gDec_at DX6_about_0 2 rfl) rfl ?_
  refine g_callVd (w := wC q) hC 9 (c_X0_placeTold q hI hj ht) vf_X0_placeTold ml_X6_79 (by decide) (show 9 < 63 from by decide) rfl rfl rfl rfl rfl (Nat.le_of_ble_eq_true rfl) (gDec_at DX6_about_0 3 rfl) ?_
  refine g_astore_n hC (gDec_at DX6_about_0 4 rfl) (by decide) (L' := [(3, .ref (q.2.2 (15 + j))), (0, .ref (q.2.2 0)), (1, .int (nI (10 * (j / 6) + j % 6))), (2, .int (nI 2))]) rfl ?_
  refine g_aload_n hC (gDec_at DX6_about_0 5 rfl) rfl ?_
  refine g_ifnonnull hC (gDec_at DX6_about_0 6 rfl) 15 (by decide) ?_
  refine g_iload_n hC (gDec_at DX6_about_0 9 rfl) rfl ?_
  refine g_tableIn hC (gDec_at DX6_about_0 10 rfl) 66 (by decide) (by decide) rfl (by decide) ?_
  refine g_aload_n hC (gDec_at DX6_about_0 17 rfl) rfl ?_
  refine g_get (w := wC q) hC (15 + j) (v := .int (nI (B 2 j))) fl_X6_95 (show 15 + j < 63 from by have := hj; omega) (cC_p0 q _ _ hj) (g_sv (ci_f2 hI hj ht)) (gDec_at DX6_about_0 18 rfl) ?_
  refine g_iret hC (gDec_at DX6_about_0 19 rfl) ?_
  exact ⟨rfl, rfl⟩

set_option maxRecDepth 100000 in
set_option maxHeartbeats 4000000 in
theorem c_X6_about_3 (q : gQ3) {M : gM} {B : gB} (hI : cI M B) {j : Nat} (hj : j < 12) (ht : j % 6 < B 9 0) : gCt (wC q) yX6_about cX6_about 4 (some .int) 8 [.ref (q.2.2 0), .int (nI (10 * (j / 6) + j % 6)), .int (nI 3)] M (gR (some (.int (nI (B 3 j)))) M) := by
  refine gMet RX6 (by decide +kernel) rfl (Nat.le_of_ble_eq_true rfl) (fun X hC => ?_)
  have hC : gC X (wC q) cX6_about 4 RX6 (some .int) 8 := hC
  show gG X (wC q) _ 4 M 0 [(0, .ref (q.2.2 0)), (1, .int (nI (10 * (j / 6) + j % 6))), (2, .int (nI 3))] []
  have h4 := bv_f4 hI.2.2 hj ht
  refine g_aload_n hC (gDec_at DX6_about_0 0 rfl) rfl ?_
  refine g_get (w := wC q) hC 0 (v := .ref (q.2.2 9)) fl_X6_19 (show 0 < 63 from by decide) rfl rfl (gDec_at DX6_about_0 1 rfl) ?_
  refine g_iload_n hC (gDec_at DX6_about_0 2 rfl) rfl ?_
  refine g_callVd (w := wC q) hC 9 (c_X0_placeTold q hI hj ht) vf_X0_placeTold ml_X6_79 (by decide) (show 9 < 63 from by decide) rfl rfl rfl rfl rfl (Nat.le_of_ble_eq_true rfl) (gDec_at DX6_about_0 3 rfl) ?_
  refine g_astore_n hC (gDec_at DX6_about_0 4 rfl) (by decide) (L' := [(3, .ref (q.2.2 (15 + j))), (0, .ref (q.2.2 0)), (1, .int (nI (10 * (j / 6) + j % 6))), (2, .int (nI 3))]) rfl ?_
  refine g_aload_n hC (gDec_at DX6_about_0 5 rfl) rfl ?_
  refine g_ifnonnull hC (gDec_at DX6_about_0 6 rfl) 15 (by decide) ?_
  refine g_iload_n hC (gDec_at DX6_about_0 9 rfl) rfl ?_
  refine g_tableIn hC (gDec_at DX6_about_0 10 rfl) 71 (by decide) (by decide) rfl (by decide) ?_
  refine g_aload_n hC (gDec_at DX6_about_0 20 rfl) rfl ?_
  refine g_get (w := wC q) hC (15 + j) (v := .int (nI (B 3 j))) fl_X6_98 (show 15 + j < 63 from by have := hj; omega) (cC_p0 q _ _ hj) (g_sv (ci_f3 hI hj ht)) (gDec_at DX6_about_0 21 rfl) ?_
  refine g_iret hC (gDec_at DX6_about_0 22 rfl) ?_
  exact ⟨rfl, rfl⟩

set_option maxRecDepth 100000 in
set_option maxHeartbeats 4000000 in
theorem c_X6_about_4 (q : gQ3) {M : gM} {B : gB} (hI : cI M B) {j : Nat} (hj : j < 12) (ht : j % 6 < B 9 0) : gCt (wC q) yX6_about cX6_about 4 (some .int) 8 [.ref (q.2.2 0), .int (nI (10 * (j / 6) + j % 6)), .int (nI 4)] M (gR (some (.int (nI (B 4 j)))) M) := by
  refine gMet RX6 (by decide +kernel) rfl (Nat.le_of_ble_eq_true rfl) (fun X hC => ?_)
  have hC : gC X (wC q) cX6_about 4 RX6 (some .int) 8 := hC
  show gG X (wC q) _ 4 M 0 [(0, .ref (q.2.2 0)), (1, .int (nI (10 * (j / 6) + j % 6))), (2, .int (nI 4))] []
  have h4 := bv_f4 hI.2.2 hj ht
  refine g_aload_n hC (gDec_at DX6_about_0 0 rfl) rfl ?_
  refine g_get (w := wC q) hC 0 (v := .ref (q.2.2 9)) fl_X6_19 (show 0 < 63 from by decide) rfl rfl (gDec_at DX6_about_0 1 rfl) ?_
  refine g_iload_n hC (gDec_at DX6_about_0 2 rfl) rfl ?_
  refine g_callVd (w := wC q) hC 9 (c_X0_placeTold q hI hj ht) vf_X0_placeTold ml_X6_79 (by decide) (show 9 < 63 from by decide) rfl rfl rfl rfl rfl (Nat.le_of_ble_eq_true rfl) (gDec_at DX6_about_0 3 rfl) ?_
  refine g_astore_n hC (gDec_at DX6_about_0 4 rfl) (by decide) (L' := [(3, .ref (q.2.2 (15 + j))), (0, .ref (q.2.2 0)), (1, .int (nI (10 * (j / 6) + j % 6))), (2, .int (nI 4))]) rfl ?_
  refine g_aload_n hC (gDec_at DX6_about_0 5 rfl) rfl ?_
  refine g_ifnonnull hC (gDec_at DX6_about_0 6 rfl) 15 (by decide) ?_
  refine g_iload_n hC (gDec_at DX6_about_0 9 rfl) rfl ?_
  refine g_tableIn hC (gDec_at DX6_about_0 10 rfl) 76 (by decide) (by decide) rfl (by decide) ?_
  refine g_aload_n hC (gDec_at DX6_about_0 23 rfl) rfl ?_
  refine g_get (w := wC q) hC (15 + j) (v := .int (nI (B 4 j))) fl_X6_83 (show 15 + j < 63 from by have := hj; omega) (cC_p0 q _ _ hj) (g_sv (ci_f4 hI hj ht)) (gDec_at DX6_about_0 24 rfl) ?_
  refine g_if_eqN hC (by omega) (gDec_at DX6_about_0 25 rfl) 87 (by decide) (fun h80 => ?_) (fun h80 => ?_)
  · skip
    refine g_iconst hC (gDec_at DX6_about_0 28 rfl) (v := nI 0) (by decide) ?_
    refine g_iret hC (gDec_at DX6_about_0 29 rfl) ?_
    exact ⟨by rw [show B 4 j = 0 by omega], rfl⟩
  · skip
    refine g_iconst hC (gDec_at DX6_about_0 26 rfl) (v := nI 1) (by decide) ?_
    refine g_goto hC (gDec_at DX6_about_0 27 rfl) 88 (by decide) ?_
    refine g_iret hC (gDec_at DX6_about_0 29 rfl) ?_
    exact ⟨by rw [show B 4 j = 1 by omega], rfl⟩

set_option maxRecDepth 100000 in
set_option maxHeartbeats 4000000 in
theorem c_X6_about_5 (q : gQ3) {M : gM} {B : gB} (hI : cI M B) {j : Nat} (hj : j < 12) (ht : j % 6 < B 9 0) : gCt (wC q) yX6_about cX6_about 4 (some .int) 8 [.ref (q.2.2 0), .int (nI (10 * (j / 6) + j % 6)), .int (nI 5)] M (gR (some (.int (nI (B 5 j)))) M) := by
  refine gMet RX6 (by decide +kernel) rfl (Nat.le_of_ble_eq_true rfl) (fun X hC => ?_)
  have hC : gC X (wC q) cX6_about 4 RX6 (some .int) 8 := hC
  show gG X (wC q) _ 4 M 0 [(0, .ref (q.2.2 0)), (1, .int (nI (10 * (j / 6) + j % 6))), (2, .int (nI 5))] []
  have h4 := bv_f4 hI.2.2 hj ht
  refine g_aload_n hC (gDec_at DX6_about_0 0 rfl) rfl ?_
  refine g_get (w := wC q) hC 0 (v := .ref (q.2.2 9)) fl_X6_19 (show 0 < 63 from by decide) rfl rfl (gDec_at DX6_about_0 1 rfl) ?_
  refine g_iload_n hC (gDec_at DX6_about_0 2 rfl) rfl ?_
  refine g_callVd (w := wC q) hC 9 (c_X0_placeTold q hI hj ht) vf_X0_placeTold ml_X6_79 (by decide) (show 9 < 63 from by decide) rfl rfl rfl rfl rfl (Nat.le_of_ble_eq_true rfl) (gDec_at DX6_about_0 3 rfl) ?_
  refine g_astore_n hC (gDec_at DX6_about_0 4 rfl) (by decide) (L' := [(3, .ref (q.2.2 (15 + j))), (0, .ref (q.2.2 0)), (1, .int (nI (10 * (j / 6) + j % 6))), (2, .int (nI 5))]) rfl ?_
  refine g_aload_n hC (gDec_at DX6_about_0 5 rfl) rfl ?_
  refine g_ifnonnull hC (gDec_at DX6_about_0 6 rfl) 15 (by decide) ?_
  refine g_iload_n hC (gDec_at DX6_about_0 9 rfl) rfl ?_
  refine g_tableIn hC (gDec_at DX6_about_0 10 rfl) 89 (by decide) (by decide) rfl (by decide) ?_
  refine g_aload_n hC (gDec_at DX6_about_0 30 rfl) rfl ?_
  refine g_get (w := wC q) hC (15 + j) (v := .int (nI (B 5 j))) fl_X6_101 (show 15 + j < 63 from by have := hj; omega) (cC_p0 q _ _ hj) (g_sv (ci_f5 hI hj ht)) (gDec_at DX6_about_0 31 rfl) ?_
  refine g_iret hC (gDec_at DX6_about_0 32 rfl) ?_
  exact ⟨rfl, rfl⟩

set_option maxRecDepth 100000 in
set_option maxHeartbeats 4000000 in
theorem c_X6_about_bad (q : gQ3) {M : gM} {B : gB} (hI : cI M B) {j : Nat} (hj : j < 12) (ht : j % 6 < B 9 0) {y : Int32} (hy : ¬ gin y 0 5) : gCt (wC q) yX6_about cX6_about 4 (some .int) 8 [.ref (q.2.2 0), .int (nI (10 * (j / 6) + j % 6)), .int y] M (gR (some (.int (-2))) M) := by
  refine gMet RX6 (by decide +kernel) rfl (Nat.le_of_ble_eq_true rfl) (fun X hC => ?_)
  have hC : gC X (wC q) cX6_about 4 RX6 (some .int) 8 := hC
  show gG X (wC q) _ 4 M 0 [(0, .ref (q.2.2 0)), (1, .int (nI (10 * (j / 6) + j % 6))), (2, .int y)] []
  refine g_aload_n hC (gDec_at DX6_about_0 0 rfl) rfl ?_
  refine g_get (w := wC q) hC 0 (v := .ref (q.2.2 9)) fl_X6_19 (show 0 < 63 from by decide) rfl rfl (gDec_at DX6_about_0 1 rfl) ?_
  refine g_iload_n hC (gDec_at DX6_about_0 2 rfl) rfl ?_
  refine g_callVd (w := wC q) hC 9 (c_X0_placeTold q hI hj ht) vf_X0_placeTold ml_X6_79 (by decide) (show 9 < 63 from by decide) rfl rfl rfl rfl rfl (Nat.le_of_ble_eq_true rfl) (gDec_at DX6_about_0 3 rfl) ?_
  refine g_astore_n hC (gDec_at DX6_about_0 4 rfl) (by decide) (L' := [(3, .ref (q.2.2 (15 + j))), (0, .ref (q.2.2 0)), (1, .int (nI (10 * (j / 6) + j % 6))), (2, .int y)]) rfl ?_
  refine g_aload_n hC (gDec_at DX6_about_0 5 rfl) rfl ?_
  refine g_ifnonnull hC (gDec_at DX6_about_0 6 rfl) 15 (by decide) ?_
  refine g_iload_n hC (gDec_at DX6_about_0 9 rfl) rfl ?_
  refine g_tableOut hC (gDec_at DX6_about_0 10 rfl) 94 (by unfold gin at hy; omega) (by decide) ?_
  refine g_bipush hC (gDec_at DX6_about_0 33 rfl) (v := -2) (by decide) ?_
  refine g_iret hC (gDec_at DX6_about_0 34 rfl) ?_
  exact ⟨rfl, rfl⟩
