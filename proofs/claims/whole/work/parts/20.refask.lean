/-! THE REFERENCE, the methods that only ask -/
set_option maxRecDepth 100000 in
set_option maxHeartbeats 4000000 in
theorem c_X7_allSeen (q : gQ3) {M : gM} {B : gB} (hI : mI M B) : gCt (wM q) yX7_allSeen cX7_allSeen 3 (some .int) 1 [.ref (q.2.2 0)] M (gR (some (.int (nI (sSeen B)))) M) := by
  refine gMet RX7 (by decide +kernel) rfl (Nat.le_of_ble_eq_true rfl) (fun X hC => ?_)
  have hC : gC X (wM q) cX7_allSeen 3 RX7 (some .int) 1 := hC
  show gG X (wM q) _ 3 M 0 [(0, .ref (q.2.2 0))] []
  have hm := bv_many hI.2.2
  refine g_iconst hC (gDec_at DX7_allSeen_0 0 rfl) (v := nI 0) (by decide) ?_
  refine g_istore_n hC (gDec_at DX7_allSeen_0 1 rfl) (by decide) (L' := [(1, .int (nI 0)), (0, .ref (q.2.2 0))]) rfl ?_
  refine g_iconst hC (gDec_at DX7_allSeen_0 2 rfl) (v := nI 0) (by decide) ?_
  refine g_istore_n hC (gDec_at DX7_allSeen_0 3 rfl) (by decide) (L' := [(2, .int (nI 0)), (1, .int (nI 0)), (0, .ref (q.2.2 0))]) rfl ?_
  have loop4 : ∀ (fu i : Nat), i ≤ 12 → 12 - i < fu → gG X (wM q) (gR (some (.int (nI (sSeen B)))) M) 3 M 4 [(0, .ref (q.2.2 0)), (1, .int (nI (gsm (fun j => if j % 6 < B 9 0 then B 5 j else 0) i))), (2, .int (nI i))] [] := by
    intro fu; induction fu with
    | zero => intro i h1 h2; omega
    | succ fu ih =>
      intro i hi hfu 
      refine g_iload_n hC (gDec_at DX7_allSeen_0 4 rfl) rfl ?_
      refine g_bipush hC (gDec_at DX7_allSeen_0 5 rfl) (v := nI 12) (by decide) ?_
      refine g_icmp_geN hC (by omega) (by omega) (gDec_at DX7_allSeen_0 6 rfl) 37 (by decide) (fun h7 => ?_) (fun h7 => ?_)
      · skip
        obtain rfl : i = 12 := by omega
        refine g_iload_n hC (gDec_at DX7_allSeen_0 22 rfl) rfl ?_
        refine g_iret hC (gDec_at DX7_allSeen_0 23 rfl) ?_
        exact ⟨rfl, rfl⟩
      · skip
        refine g_iload_n hC (gDec_at DX7_allSeen_0 7 rfl) rfl ?_
        refine g_aload_n hC (gDec_at DX7_allSeen_0 8 rfl) rfl ?_
        refine g_iload_n hC (gDec_at DX7_allSeen_0 9 rfl) rfl ?_
        refine g_callVd (w := wM q) hC 0 (c_X7_isThere q hI (i := i) (by omega)) vf_X7_isThere ml_X7_128 (by decide) (show 0 < 17 from by decide) rfl rfl rfl rfl rfl (Nat.le_of_ble_eq_true rfl) (gDec_at DX7_allSeen_0 10 rfl) ?_
        refine g_if_eqB hC (gDec_at DX7_allSeen_0 11 rfl) 28 (by decide) (fun h16 => ?_) (fun h16 => ?_)
        · skip
          refine g_iconst hC (gDec_at DX7_allSeen_0 17 rfl) (v := nI 0) (by decide) ?_
          refine g_iaddN hC (gDec_at DX7_allSeen_0 18 rfl) ?_
          refine g_istore_n hC (gDec_at DX7_allSeen_0 19 rfl) (by decide) (L' := [(1, .int (nI ((gsm (fun j => if j % 6 < B 9 0 then B 5 j else 0) i) + 0))), (0, .ref (q.2.2 0)), (2, .int (nI i))]) rfl ?_
          refine g_iincN hC (gDec_at DX7_allSeen_0 20 rfl) rfl (by decide) (L' := [(2, .int (nI (i + 1))), (1, .int (nI ((gsm (fun j => if j % 6 < B 9 0 then B 5 j else 0) i) + 0))), (0, .ref (q.2.2 0))]) rfl ?_
          refine g_goto hC (gDec_at DX7_allSeen_0 21 rfl) 4 (by decide) ?_
          refine g_sub [2, 1, 0] (L' := [(0, .ref (q.2.2 0)), (1, .int (nI ((gsm (fun j => if j % 6 < B 9 0 then B 5 j else 0) i) + 0))), (2, .int (nI (i + 1)))]) rfl ?_
          have h9 := ih (i + 1) (by omega) (by omega)
          rw [gsm_s0 (f := (fun j => if j % 6 < B 9 0 then B 5 j else 0)) (if_neg h16)] at h9
          exact h9
        · skip
          refine g_aload_n hC (gDec_at DX7_allSeen_0 12 rfl) rfl ?_
          refine g_get (w := wM q) hC 0 (v := .ref (q.2.2 7)) fl_X7_32 (show 0 < 17 from by decide) rfl rfl (gDec_at DX7_allSeen_0 13 rfl) ?_
          refine g_iload_n hC (gDec_at DX7_allSeen_0 14 rfl) rfl ?_
          refine g_iald (w := wM q) hC 7 0 i (x := (nI (B 5 i))) (show 7 < 17 from by decide) rfl rfl (by omega) (by decide) (mi_f5 hI (by omega) (by omega)) (gDec_at DX7_allSeen_0 15 rfl) ?_
          refine g_goto hC (gDec_at DX7_allSeen_0 16 rfl) 29 (by decide) ?_
          refine g_iaddN hC (gDec_at DX7_allSeen_0 18 rfl) ?_
          refine g_istore_n hC (gDec_at DX7_allSeen_0 19 rfl) (by decide) (L' := [(1, .int (nI ((gsm (fun j => if j % 6 < B 9 0 then B 5 j else 0) i) + (B 5 i)))), (0, .ref (q.2.2 0)), (2, .int (nI i))]) rfl ?_
          refine g_iincN hC (gDec_at DX7_allSeen_0 20 rfl) rfl (by decide) (L' := [(2, .int (nI (i + 1))), (1, .int (nI ((gsm (fun j => if j % 6 < B 9 0 then B 5 j else 0) i) + (B 5 i)))), (0, .ref (q.2.2 0))]) rfl ?_
          refine g_goto hC (gDec_at DX7_allSeen_0 21 rfl) 4 (by decide) ?_
          refine g_sub [2, 1, 0] (L' := [(0, .ref (q.2.2 0)), (1, .int (nI ((gsm (fun j => if j % 6 < B 9 0 then B 5 j else 0) i) + (B 5 i)))), (2, .int (nI (i + 1)))]) rfl ?_
          have h9 := ih (i + 1) (by omega) (by omega)
          rw [gsm_s (f := (fun j => if j % 6 < B 9 0 then B 5 j else 0)) (if_pos h16)] at h9
          exact h9
  exact g_sub [2, 1, 0] rfl (loop4 (12 + 1 - 0) 0 (by omega) (by omega))

theorem sExt_max {B : gB} {f : Nat → Nat} (hm : 1 ≤ B 9 0) : ∀ n, 0 < n → f (sExt B f 1 n) = sFmax B f n
  | 0, h => absurd h (Nat.lt_irrefl 0)
  | 1, _ => by
    rw [sExt_1]
    show f 0 = if 0 % 6 < B 9 0 then max 0 (f 0) else 0
    rw [if_pos (by omega)]; omega
  | n + 2, _ => by
    have ih := sExt_max (B := B) (f := f) hm (n + 1) (by omega)
    show f (if (n + 1) % 6 < B 9 0 ∧ ((0 < 1 ∧ f (sExt B f 1 (n + 1)) < f (n + 1)) ∨ (1 = 0 ∧ f (n + 1) < f (sExt B f 1 (n + 1)))) then n + 1 else sExt B f 1 (n + 1)) = if (n + 1) % 6 < B 9 0 then max (sFmax B f (n + 1)) (f (n + 1)) else sFmax B f (n + 1)
    by_cases h1 : (n + 1) % 6 < B 9 0
    · rw [if_pos h1]
      by_cases h2 : f (sExt B f 1 (n + 1)) < f (n + 1)
      · rw [if_pos ⟨h1, Or.inl ⟨by omega, h2⟩⟩]; omega
      · rw [if_neg (fun z => by rcases z.2 with z | z <;> omega), ih]; omega
    · rw [if_neg h1, if_neg (fun z => h1 z.1), ih]
theorem sExt_min {B : gB} {f : Nat → Nat} (hm : 1 ≤ B 9 0) (hb : ∀ j, f j ≤ 9223372036854775807) : ∀ n, 0 < n → f (sExt B f 0 n) = sFmin B f n
  | 0, h => absurd h (Nat.lt_irrefl 0)
  | 1, _ => by
    rw [sExt_1]
    have h0 := hb 0
    show f 0 = if 0 % 6 < B 9 0 then min 9223372036854775807 (f 0) else 9223372036854775807
    rw [if_pos (by omega)]; omega
  | n + 2, _ => by
    have ih := sExt_min (B := B) (f := f) hm hb (n + 1) (by omega)
    show f (if (n + 1) % 6 < B 9 0 ∧ ((0 < 0 ∧ f (sExt B f 0 (n + 1)) < f (n + 1)) ∨ (0 = 0 ∧ f (n + 1) < f (sExt B f 0 (n + 1)))) then n + 1 else sExt B f 0 (n + 1)) = if (n + 1) % 6 < B 9 0 then min (sFmin B f (n + 1)) (f (n + 1)) else sFmin B f (n + 1)
    by_cases h1 : (n + 1) % 6 < B 9 0
    · rw [if_pos h1]
      by_cases h2 : f (n + 1) < f (sExt B f 0 (n + 1))
      · rw [if_pos ⟨h1, Or.inr ⟨rfl, h2⟩⟩]; omega
      · rw [if_neg (fun z => by rcases z.2 with z | z <;> omega), ih]; omega
    · rw [if_neg h1, if_neg (fun z => h1 z.1), ih]
theorem lsub_int {a b : Nat} (ha : a < 4611686018427387904) (hb : b < 4611686018427387904) : (lN a - lN b).toInt = (a : Int) - b := by
  have h1 : (lN a).toInt = a := pk_lT (by omega)
  have h2 : (lN b).toInt = b := pk_lT (by omega)
  rw [Int64.toInt_sub, h1, h2]
  rw [Int.bmod_eq_of_le] <;> omega
theorem lsub_gt0 {a b : Nat} (ha : a < 4611686018427387904) (hb : b < 4611686018427387904) : lN 0 < lN a - lN b ↔ b < a := by
  rw [Int64.lt_iff_toInt_lt, lsub_int ha hb, show (lN 0).toInt = 0 from rfl]; omega
theorem lsub_ge0 {a b : Nat} (ha : a < 4611686018427387904) (hb : b < 4611686018427387904) : lN 0 ≤ lN a - lN b ↔ b ≤ a := by
  rw [Int64.le_iff_toInt_le, lsub_int ha hb, show (lN 0).toInt = 0 from rfl]; omega
set_option maxRecDepth 100000 in
set_option maxHeartbeats 4000000 in
theorem c_X7_extreme (q : gQ3) {M : gM} {B : gB} (hI : mI M B) {x g : Nat} (hx : x ≤ 40) (hg : g ≤ 1) : gCt (wM q) yX7_extreme cX7_extreme 7 (some .int) 5 [.ref (q.2.2 0), .int (nI x), .int (nI g)] M (gR (some (.int (nI (sExt B (sStr B (sPull B x) (sAll B)) g 12)))) M) := by
  refine gMet RX7 (by decide +kernel) rfl (Nat.le_of_ble_eq_true rfl) (fun X hC => ?_)
  have hC : gC X (wM q) cX7_extreme 7 RX7 (some .int) 5 := hC
  show gG X (wM q) _ 7 M 0 [(0, .ref (q.2.2 0)), (1, .int (nI x)), (2, .int (nI g))] []
  have hm := bv_many hI.2.2
  have hpl := sPull_le B hx
  have hst := fun j => sStr_le B j (gives := sAll B) hpl
  refine g_iconst hC (gDec_at DX7_extreme_0 0 rfl) (v := nI 0) (by decide) ?_
  refine g_istore_n hC (gDec_at DX7_extreme_0 1 rfl) (by decide) (L' := [(3, .int (nI 0)), (0, .ref (q.2.2 0)), (1, .int (nI x)), (2, .int (nI g))]) rfl ?_
  refine g_iconst hC (gDec_at DX7_extreme_0 2 rfl) (v := nI 1) (by decide) ?_
  refine g_istore hC (gDec_at DX7_extreme_0 3 rfl) (by decide) (L' := [(4, .int (nI 1)), (3, .int (nI 0)), (0, .ref (q.2.2 0)), (1, .int (nI x)), (2, .int (nI g))]) rfl ?_
  have loop5 : ∀ (fu i : Nat) (fd : Nat), i ≤ 12 → 12 - i < fu → fd = sExt B (sStr B (sPull B x) (sAll B)) g i → 1 ≤ i → gG X (wM q) (gR (some (.int (nI (sExt B (sStr B (sPull B x) (sAll B)) g 12)))) M) 7 M 5 [(0, .ref (q.2.2 0)), (1, .int (nI x)), (2, .int (nI g)), (3, .int (nI fd)), (4, .int (nI i))] [] := by
    intro fu; induction fu with
    | zero => intro i fd h1 h2; omega
    | succ fu ih =>
      intro i fd hi hfu hf hi1
      subst hf
      have hel := sExt_lt (B := B) (f := (sStr B (sPull B x) (sAll B))) (g := g) hm.1 i (by omega)
      have hsi := hst i
      have hse := hst (sExt B (sStr B (sPull B x) (sAll B)) g i)
      skip
      · skip
        refine g_iload hC (gDec_at DX7_extreme_0 4 rfl) rfl ?_
        refine g_bipush hC (gDec_at DX7_extreme_0 5 rfl) (v := nI 12) (by decide) ?_
        refine g_icmp_geN hC (by omega) (by omega) (gDec_at DX7_extreme_0 6 rfl) 72 (by decide) (fun h9 => ?_) (fun h9 => ?_)
        · skip
          obtain rfl : i = 12 := by omega
          refine g_iload_n hC (gDec_at DX7_extreme_0 39 rfl) rfl ?_
          refine g_iret hC (gDec_at DX7_extreme_0 40 rfl) ?_
          exact ⟨rfl, rfl⟩
        · skip
          refine g_aload_n hC (gDec_at DX7_extreme_0 7 rfl) rfl ?_
          refine g_iload hC (gDec_at DX7_extreme_0 8 rfl) rfl ?_
          refine g_callVd (w := wM q) hC 0 (c_X7_isThere q hI (i := i) (by omega)) vf_X7_isThere ml_X7_128 (by decide) (show 0 < 17 from by decide) rfl rfl rfl rfl rfl (Nat.le_of_ble_eq_true rfl) (gDec_at DX7_extreme_0 9 rfl) ?_
          refine g_if_eqB hC (gDec_at DX7_extreme_0 10 rfl) 66 (by decide) (fun h18 => ?_) (fun h18 => ?_)
          · skip
            refine g_iincN hC (gDec_at DX7_extreme_0 37 rfl) rfl (by decide) (L' := [(4, .int (nI (i + 1))), (0, .ref (q.2.2 0)), (1, .int (nI x)), (2, .int (nI g)), (3, .int (nI (sExt B (sStr B (sPull B x) (sAll B)) g i)))]) rfl ?_
            refine g_goto hC (gDec_at DX7_extreme_0 38 rfl) 5 (by decide) ?_
            refine g_sub [1, 2, 3, 4, 0] (L' := [(0, .ref (q.2.2 0)), (1, .int (nI x)), (2, .int (nI g)), (3, .int (nI (sExt B (sStr B (sPull B x) (sAll B)) g i))), (4, .int (nI (i + 1)))]) rfl ?_
            have h9 := ih (i + 1) _ (by omega) (by omega) (by rw [show sExt B (sStr B (sPull B x) (sAll B)) g (i + 1) = sExt B (sStr B (sPull B x) (sAll B)) g i from if_neg (fun z => h18 z.1)]) (by omega)
            exact h9
          · skip
            refine g_aload_n hC (gDec_at DX7_extreme_0 11 rfl) rfl ?_
            refine g_iload hC (gDec_at DX7_extreme_0 12 rfl) rfl ?_
            refine g_iload_n hC (gDec_at DX7_extreme_0 13 rfl) rfl ?_
            refine g_callVd (w := wM q) hC 0 (c_X7_strainOf q hI (j := i) (by omega) (by omega) (x := x) (by omega)) vf_X7_strainOf ml_X7_156 (by decide) (show 0 < 17 from by decide) rfl rfl rfl rfl rfl (Nat.le_of_ble_eq_true rfl) (gDec_at DX7_extreme_0 14 rfl) ?_
            refine g_aload_n hC (gDec_at DX7_extreme_0 15 rfl) rfl ?_
            refine g_iload_n hC (gDec_at DX7_extreme_0 16 rfl) rfl ?_
            refine g_iload_n hC (gDec_at DX7_extreme_0 17 rfl) rfl ?_
            refine g_callVd (w := wM q) hC 0 (c_X7_strainOf q hI (j := (sExt B (sStr B (sPull B x) (sAll B)) g i)) (by omega) hel.2 (x := x) (by omega)) vf_X7_strainOf ml_X7_156 (by decide) (show 0 < 17 from by decide) rfl rfl rfl rfl rfl (Nat.le_of_ble_eq_true rfl) (gDec_at DX7_extreme_0 18 rfl) ?_
            refine g_lsub hC (gDec_at DX7_extreme_0 19 rfl) (v := (lN (sStr B (sPull B x) (sAll B) i) - lN (sStr B (sPull B x) (sAll B) (sExt B (sStr B (sPull B x) (sAll B)) g i)))) rfl ?_
            refine g_lstore hC (gDec_at DX7_extreme_0 20 rfl) (by decide) (L' := [(5, .long (lN (sStr B (sPull B x) (sAll B) i) - lN (sStr B (sPull B x) (sAll B) (sExt B (sStr B (sPull B x) (sAll B)) g i)))), (0, .ref (q.2.2 0)), (1, .int (nI x)), (2, .int (nI g)), (3, .int (nI (sExt B (sStr B (sPull B x) (sAll B)) g i))), (4, .int (nI i))]) rfl ?_
            refine g_iload_n hC (gDec_at DX7_extreme_0 21 rfl) rfl ?_
            refine g_if_eqN hC (by omega) (gDec_at DX7_extreme_0 22 rfl) 48 (by decide) (fun h38 => ?_) (fun h38 => ?_)
            · skip
              refine g_iload_n hC (gDec_at DX7_extreme_0 27 rfl) rfl ?_
              refine g_if_neN hC (by omega) (gDec_at DX7_extreme_0 28 rfl) 64 (by decide) (fun h49 => ?_) (fun h49 => ?_)
              · skip
                refine g_iload_n hC (gDec_at DX7_extreme_0 35 rfl) rfl ?_
                refine g_istore_n hC (gDec_at DX7_extreme_0 36 rfl) (by decide) (L' := [(3, .int (nI (sExt B (sStr B (sPull B x) (sAll B)) g i))), (5, .long (lN (sStr B (sPull B x) (sAll B) i) - lN (sStr B (sPull B x) (sAll B) (sExt B (sStr B (sPull B x) (sAll B)) g i)))), (0, .ref (q.2.2 0)), (1, .int (nI x)), (2, .int (nI g)), (4, .int (nI i))]) rfl ?_
                refine g_iincN hC (gDec_at DX7_extreme_0 37 rfl) rfl (by decide) (L' := [(4, .int (nI (i + 1))), (3, .int (nI (sExt B (sStr B (sPull B x) (sAll B)) g i))), (5, .long (lN (sStr B (sPull B x) (sAll B) i) - lN (sStr B (sPull B x) (sAll B) (sExt B (sStr B (sPull B x) (sAll B)) g i)))), (0, .ref (q.2.2 0)), (1, .int (nI x)), (2, .int (nI g))]) rfl ?_
                refine g_goto hC (gDec_at DX7_extreme_0 38 rfl) 5 (by decide) ?_
                refine g_sub [3, 4, 5, 1, 0] (L' := [(0, .ref (q.2.2 0)), (1, .int (nI x)), (2, .int (nI g)), (3, .int (nI (sExt B (sStr B (sPull B x) (sAll B)) g i))), (4, .int (nI (i + 1)))]) rfl ?_
                have h9 := ih (i + 1) _ (by omega) (by omega) (by rw [show sExt B (sStr B (sPull B x) (sAll B)) g (i + 1) = sExt B (sStr B (sPull B x) (sAll B)) g i from if_neg (fun z => by have z2 := z.2; omega)]) (by omega)
                exact h9
              · skip
                refine g_lload hC (gDec_at DX7_extreme_0 29 rfl) rfl ?_
                refine g_lconst hC (gDec_at DX7_extreme_0 30 rfl) (v := lN 0) (by decide) ?_
                refine g_lc_ge hC (gDec_at DX7_extreme_0 31 rfl) (gDec_at DX7_extreme_0 32 rfl) 64 (by decide) (fun h55 => ?_) (fun h55 => ?_)
                · skip
                  have h55n := (lsub_ge0 (by omega) (by omega)).mp h55
                  refine g_iload_n hC (gDec_at DX7_extreme_0 35 rfl) rfl ?_
                  refine g_istore_n hC (gDec_at DX7_extreme_0 36 rfl) (by decide) (L' := [(3, .int (nI (sExt B (sStr B (sPull B x) (sAll B)) g i))), (5, .long (lN (sStr B (sPull B x) (sAll B) i) - lN (sStr B (sPull B x) (sAll B) (sExt B (sStr B (sPull B x) (sAll B)) g i)))), (0, .ref (q.2.2 0)), (1, .int (nI x)), (2, .int (nI g)), (4, .int (nI i))]) rfl ?_
                  refine g_iincN hC (gDec_at DX7_extreme_0 37 rfl) rfl (by decide) (L' := [(4, .int (nI (i + 1))), (3, .int (nI (sExt B (sStr B (sPull B x) (sAll B)) g i))), (5, .long (lN (sStr B (sPull B x) (sAll B) i) - lN (sStr B (sPull B x) (sAll B) (sExt B (sStr B (sPull B x) (sAll B)) g i)))), (0, .ref (q.2.2 0)), (1, .int (nI x)), (2, .int (nI g))]) rfl ?_
                  refine g_goto hC (gDec_at DX7_extreme_0 38 rfl) 5 (by decide) ?_
                  refine g_sub [3, 4, 5, 1, 0] (L' := [(0, .ref (q.2.2 0)), (1, .int (nI x)), (2, .int (nI g)), (3, .int (nI (sExt B (sStr B (sPull B x) (sAll B)) g i))), (4, .int (nI (i + 1)))]) rfl ?_
                  have h9 := ih (i + 1) _ (by omega) (by omega) (by rw [show sExt B (sStr B (sPull B x) (sAll B)) g (i + 1) = sExt B (sStr B (sPull B x) (sAll B)) g i from if_neg (fun z => by have z2 := z.2; omega)]) (by omega)
                  exact h9
                · skip
                  have h55n := mt (lsub_ge0 (by omega) (by omega)).mpr h55
                  refine g_iload hC (gDec_at DX7_extreme_0 33 rfl) rfl ?_
                  refine g_goto hC (gDec_at DX7_extreme_0 34 rfl) 65 (by decide) ?_
                  refine g_istore_n hC (gDec_at DX7_extreme_0 36 rfl) (by decide) (L' := [(3, .int (nI i)), (5, .long (lN (sStr B (sPull B x) (sAll B) i) - lN (sStr B (sPull B x) (sAll B) (sExt B (sStr B (sPull B x) (sAll B)) g i)))), (0, .ref (q.2.2 0)), (1, .int (nI x)), (2, .int (nI g)), (4, .int (nI i))]) rfl ?_
                  refine g_iincN hC (gDec_at DX7_extreme_0 37 rfl) rfl (by decide) (L' := [(4, .int (nI (i + 1))), (3, .int (nI i)), (5, .long (lN (sStr B (sPull B x) (sAll B) i) - lN (sStr B (sPull B x) (sAll B) (sExt B (sStr B (sPull B x) (sAll B)) g i)))), (0, .ref (q.2.2 0)), (1, .int (nI x)), (2, .int (nI g))]) rfl ?_
                  refine g_goto hC (gDec_at DX7_extreme_0 38 rfl) 5 (by decide) ?_
                  refine g_sub [3, 4, 5, 1, 0] (L' := [(0, .ref (q.2.2 0)), (1, .int (nI x)), (2, .int (nI g)), (3, .int (nI i)), (4, .int (nI (i + 1)))]) rfl ?_
                  have h9 := ih (i + 1) _ (by omega) (by omega) (show i = sExt B (sStr B (sPull B x) (sAll B)) g (i + 1) from (if_pos ⟨h18, by omega⟩).symm) (by omega)
                  exact h9
            · skip
              refine g_lload hC (gDec_at DX7_extreme_0 23 rfl) rfl ?_
              refine g_lconst hC (gDec_at DX7_extreme_0 24 rfl) (v := lN 0) (by decide) ?_
              refine g_lc_gt hC (gDec_at DX7_extreme_0 25 rfl) (gDec_at DX7_extreme_0 26 rfl) 59 (by decide) (fun h44 => ?_) (fun h44 => ?_)
              · skip
                have h44n := (lsub_gt0 (by omega) (by omega)).mp h44
                refine g_iload hC (gDec_at DX7_extreme_0 33 rfl) rfl ?_
                refine g_goto hC (gDec_at DX7_extreme_0 34 rfl) 65 (by decide) ?_
                refine g_istore_n hC (gDec_at DX7_extreme_0 36 rfl) (by decide) (L' := [(3, .int (nI i)), (5, .long (lN (sStr B (sPull B x) (sAll B) i) - lN (sStr B (sPull B x) (sAll B) (sExt B (sStr B (sPull B x) (sAll B)) g i)))), (0, .ref (q.2.2 0)), (1, .int (nI x)), (2, .int (nI g)), (4, .int (nI i))]) rfl ?_
                refine g_iincN hC (gDec_at DX7_extreme_0 37 rfl) rfl (by decide) (L' := [(4, .int (nI (i + 1))), (3, .int (nI i)), (5, .long (lN (sStr B (sPull B x) (sAll B) i) - lN (sStr B (sPull B x) (sAll B) (sExt B (sStr B (sPull B x) (sAll B)) g i)))), (0, .ref (q.2.2 0)), (1, .int (nI x)), (2, .int (nI g))]) rfl ?_
                refine g_goto hC (gDec_at DX7_extreme_0 38 rfl) 5 (by decide) ?_
                refine g_sub [3, 4, 5, 1, 0] (L' := [(0, .ref (q.2.2 0)), (1, .int (nI x)), (2, .int (nI g)), (3, .int (nI i)), (4, .int (nI (i + 1)))]) rfl ?_
                have h9 := ih (i + 1) _ (by omega) (by omega) (show i = sExt B (sStr B (sPull B x) (sAll B)) g (i + 1) from (if_pos ⟨h18, by omega⟩).symm) (by omega)
                exact h9
              · skip
                have h44n := mt (lsub_gt0 (by omega) (by omega)).mpr h44
                refine g_iload_n hC (gDec_at DX7_extreme_0 27 rfl) rfl ?_
                refine g_if_neN hC (by omega) (gDec_at DX7_extreme_0 28 rfl) 64 (by decide) (fun h49_1 => ?_) (fun h49_1 => ?_)
                · skip
                  refine g_iload_n hC (gDec_at DX7_extreme_0 35 rfl) rfl ?_
                  refine g_istore_n hC (gDec_at DX7_extreme_0 36 rfl) (by decide) (L' := [(3, .int (nI (sExt B (sStr B (sPull B x) (sAll B)) g i))), (5, .long (lN (sStr B (sPull B x) (sAll B) i) - lN (sStr B (sPull B x) (sAll B) (sExt B (sStr B (sPull B x) (sAll B)) g i)))), (0, .ref (q.2.2 0)), (1, .int (nI x)), (2, .int (nI g)), (4, .int (nI i))]) rfl ?_
                  refine g_iincN hC (gDec_at DX7_extreme_0 37 rfl) rfl (by decide) (L' := [(4, .int (nI (i + 1))), (3, .int (nI (sExt B (sStr B (sPull B x) (sAll B)) g i))), (5, .long (lN (sStr B (sPull B x) (sAll B) i) - lN (sStr B (sPull B x) (sAll B) (sExt B (sStr B (sPull B x) (sAll B)) g i)))), (0, .ref (q.2.2 0)), (1, .int (nI x)), (2, .int (nI g))]) rfl ?_
                  refine g_goto hC (gDec_at DX7_extreme_0 38 rfl) 5 (by decide) ?_
                  refine g_sub [3, 4, 5, 1, 0] (L' := [(0, .ref (q.2.2 0)), (1, .int (nI x)), (2, .int (nI g)), (3, .int (nI (sExt B (sStr B (sPull B x) (sAll B)) g i))), (4, .int (nI (i + 1)))]) rfl ?_
                  have h9 := ih (i + 1) _ (by omega) (by omega) (by rw [show sExt B (sStr B (sPull B x) (sAll B)) g (i + 1) = sExt B (sStr B (sPull B x) (sAll B)) g i from if_neg (fun z => by have z2 := z.2; omega)]) (by omega)
                  exact h9
                · skip
                  refine g_lload hC (gDec_at DX7_extreme_0 29 rfl) rfl ?_
                  refine g_lconst hC (gDec_at DX7_extreme_0 30 rfl) (v := lN 0) (by decide) ?_
                  refine g_lc_ge hC (gDec_at DX7_extreme_0 31 rfl) (gDec_at DX7_extreme_0 32 rfl) 64 (by decide) (fun h55_1 => ?_) (fun h55_1 => ?_)
                  · skip
                    have h55_1n := (lsub_ge0 (by omega) (by omega)).mp h55_1
                    refine g_iload_n hC (gDec_at DX7_extreme_0 35 rfl) rfl ?_
                    refine g_istore_n hC (gDec_at DX7_extreme_0 36 rfl) (by decide) (L' := [(3, .int (nI (sExt B (sStr B (sPull B x) (sAll B)) g i))), (5, .long (lN (sStr B (sPull B x) (sAll B) i) - lN (sStr B (sPull B x) (sAll B) (sExt B (sStr B (sPull B x) (sAll B)) g i)))), (0, .ref (q.2.2 0)), (1, .int (nI x)), (2, .int (nI g)), (4, .int (nI i))]) rfl ?_
                    refine g_iincN hC (gDec_at DX7_extreme_0 37 rfl) rfl (by decide) (L' := [(4, .int (nI (i + 1))), (3, .int (nI (sExt B (sStr B (sPull B x) (sAll B)) g i))), (5, .long (lN (sStr B (sPull B x) (sAll B) i) - lN (sStr B (sPull B x) (sAll B) (sExt B (sStr B (sPull B x) (sAll B)) g i)))), (0, .ref (q.2.2 0)), (1, .int (nI x)), (2, .int (nI g))]) rfl ?_
                    refine g_goto hC (gDec_at DX7_extreme_0 38 rfl) 5 (by decide) ?_
                    refine g_sub [3, 4, 5, 1, 0] (L' := [(0, .ref (q.2.2 0)), (1, .int (nI x)), (2, .int (nI g)), (3, .int (nI (sExt B (sStr B (sPull B x) (sAll B)) g i))), (4, .int (nI (i + 1)))]) rfl ?_
                    have h9 := ih (i + 1) _ (by omega) (by omega) (by rw [show sExt B (sStr B (sPull B x) (sAll B)) g (i + 1) = sExt B (sStr B (sPull B x) (sAll B)) g i from if_neg (fun z => by have z2 := z.2; omega)]) (by omega)
                    exact h9
                  · skip
                    have h55_1n := mt (lsub_ge0 (by omega) (by omega)).mpr h55_1
                    refine g_iload hC (gDec_at DX7_extreme_0 33 rfl) rfl ?_
                    refine g_goto hC (gDec_at DX7_extreme_0 34 rfl) 65 (by decide) ?_
                    refine g_istore_n hC (gDec_at DX7_extreme_0 36 rfl) (by decide) (L' := [(3, .int (nI i)), (5, .long (lN (sStr B (sPull B x) (sAll B) i) - lN (sStr B (sPull B x) (sAll B) (sExt B (sStr B (sPull B x) (sAll B)) g i)))), (0, .ref (q.2.2 0)), (1, .int (nI x)), (2, .int (nI g)), (4, .int (nI i))]) rfl ?_
                    refine g_iincN hC (gDec_at DX7_extreme_0 37 rfl) rfl (by decide) (L' := [(4, .int (nI (i + 1))), (3, .int (nI i)), (5, .long (lN (sStr B (sPull B x) (sAll B) i) - lN (sStr B (sPull B x) (sAll B) (sExt B (sStr B (sPull B x) (sAll B)) g i)))), (0, .ref (q.2.2 0)), (1, .int (nI x)), (2, .int (nI g))]) rfl ?_
                    refine g_goto hC (gDec_at DX7_extreme_0 38 rfl) 5 (by decide) ?_
                    refine g_sub [3, 4, 5, 1, 0] (L' := [(0, .ref (q.2.2 0)), (1, .int (nI x)), (2, .int (nI g)), (3, .int (nI i)), (4, .int (nI (i + 1)))]) rfl ?_
                    have h9 := ih (i + 1) _ (by omega) (by omega) (show i = sExt B (sStr B (sPull B x) (sAll B)) g (i + 1) from (if_pos ⟨h18, by omega⟩).symm) (by omega)
                    exact h9
  exact g_sub [2, 3, 4, 1, 0] rfl (loop5 (12 + 1 - 1) 1 0 (by omega) (by omega) (sExt_1 _ _ _).symm (by omega))

set_option maxRecDepth 100000 in
set_option maxHeartbeats 4000000 in
theorem c_X7_evenOf (q : gQ3) {M : gM} {B : gB} (hI : mI M B) {x : Nat} (hx : x ≤ 40) : gCt (wM q) yX7_evenOf cX7_evenOf 4 (some .int) 6 [.ref (q.2.2 0), .int (nI x)] M (gR (some (.int (nI (sEvn B (sPull B x) (sAll B))))) M) := by
  refine gMet RX7 (by decide +kernel) rfl (Nat.le_of_ble_eq_true rfl) (fun X hC => ?_)
  have hC : gC X (wM q) cX7_evenOf 4 RX7 (some .int) 6 := hC
  show gG X (wM q) _ 4 M 0 [(0, .ref (q.2.2 0)), (1, .int (nI x))] []
  have hm := bv_many hI.2.2
  have hpl := sPull_le B hx
  have hst := fun j => sStr_le B j (gives := sAll B) hpl
  have hs1 := hst (sExt B (sStr B (sPull B x) (sAll B)) 1 12)
  have hs0 := hst (sExt B (sStr B (sPull B x) (sAll B)) 0 12)
  have hl1 := sExt_lt (B := B) (f := (sStr B (sPull B x) (sAll B))) (g := 1) hm.1 12 (by omega)
  have hl0 := sExt_lt (B := B) (f := (sStr B (sPull B x) (sAll B))) (g := 0) hm.1 12 (by omega)
  have e1 := sExt_max (B := B) (f := (sStr B (sPull B x) (sAll B))) hm.1 12 (by omega)
  have e0 := sExt_min (B := B) (f := (sStr B (sPull B x) (sAll B))) hm.1 (fun j => by have := hst j; omega) 12 (by omega)
  refine g_aload_n hC (gDec_at DX7_evenOf_0 0 rfl) rfl ?_
  refine g_aload_n hC (gDec_at DX7_evenOf_0 1 rfl) rfl ?_
  refine g_iload_n hC (gDec_at DX7_evenOf_0 2 rfl) rfl ?_
  refine g_iconst hC (gDec_at DX7_evenOf_0 3 rfl) (v := nI 1) (by decide) ?_
  refine g_callVd (w := wM q) hC 0 (c_X7_extreme q hI (x := x) (g := 1) (by omega) (by omega)) vf_X7_extreme ml_X7_170 (by decide) (show 0 < 17 from by decide) rfl rfl rfl rfl rfl (Nat.le_of_ble_eq_true rfl) (gDec_at DX7_evenOf_0 4 rfl) ?_
  refine g_iload_n hC (gDec_at DX7_evenOf_0 5 rfl) rfl ?_
  refine g_callVd (w := wM q) hC 0 (c_X7_strainOf q hI (j := (sExt B (sStr B (sPull B x) (sAll B)) 1 12)) hl1.1 hl1.2 (x := x) (by omega)) vf_X7_strainOf ml_X7_156 (by decide) (show 0 < 17 from by decide) rfl rfl rfl rfl rfl (Nat.le_of_ble_eq_true rfl) (gDec_at DX7_evenOf_0 6 rfl) ?_
  refine g_lstore_n hC (gDec_at DX7_evenOf_0 7 rfl) (by decide) (L' := [(2, .long (lN (sStr B (sPull B x) (sAll B) (sExt B (sStr B (sPull B x) (sAll B)) 1 12)))), (0, .ref (q.2.2 0)), (1, .int (nI x))]) rfl ?_
  refine g_lload_n hC (gDec_at DX7_evenOf_0 8 rfl) rfl ?_
  refine g_lconst hC (gDec_at DX7_evenOf_0 9 rfl) (v := lN 0) (by decide) ?_
  refine g_lc_neN hC (by omega) (by omega) (gDec_at DX7_evenOf_0 10 rfl) (gDec_at DX7_evenOf_0 11 rfl) 24 (by decide) (fun h14 => ?_) (fun h14 => ?_)
  · skip
    refine g_ldc2 hC cl_X7_160 (v' := lN 1000) (by decide) (gDec_at DX7_evenOf_0 14 rfl) ?_
    refine g_aload_n hC (gDec_at DX7_evenOf_0 15 rfl) rfl ?_
    refine g_aload_n hC (gDec_at DX7_evenOf_0 16 rfl) rfl ?_
    refine g_iload_n hC (gDec_at DX7_evenOf_0 17 rfl) rfl ?_
    refine g_iconst hC (gDec_at DX7_evenOf_0 18 rfl) (v := nI 0) (by decide) ?_
    refine g_callVd (w := wM q) hC 0 (c_X7_extreme q hI (x := x) (g := 0) (by omega) (by omega)) vf_X7_extreme ml_X7_170 (by decide) (show 0 < 17 from by decide) rfl rfl rfl rfl rfl (Nat.le_of_ble_eq_true rfl) (gDec_at DX7_evenOf_0 19 rfl) ?_
    refine g_iload_n hC (gDec_at DX7_evenOf_0 20 rfl) rfl ?_
    refine g_callVd (w := wM q) hC 0 (c_X7_strainOf q hI (j := (sExt B (sStr B (sPull B x) (sAll B)) 0 12)) hl0.1 hl0.2 (x := x) (by omega)) vf_X7_strainOf ml_X7_156 (by decide) (show 0 < 17 from by decide) rfl rfl rfl rfl rfl (Nat.le_of_ble_eq_true rfl) (gDec_at DX7_evenOf_0 21 rfl) ?_
    refine g_lmulN hC (gDec_at DX7_evenOf_0 22 rfl) ?_
    refine g_lload_n hC (gDec_at DX7_evenOf_0 23 rfl) rfl ?_
    refine g_ldivN hC (by omega) (by omega) (by omega) (gDec_at DX7_evenOf_0 24 rfl) ?_
    refine g_l2iN hC (gDec_at DX7_evenOf_0 25 rfl) ?_
    refine g_iret hC (gDec_at DX7_evenOf_0 26 rfl) ?_
    exact ⟨by unfold sEvn; rw [← e1, ← e0, if_neg (by omega)], rfl⟩
  · skip
    refine g_sipush hC (gDec_at DX7_evenOf_0 12 rfl) (v := nI 1000) (by decide) ?_
    refine g_goto hC (gDec_at DX7_evenOf_0 13 rfl) 42 (by decide) ?_
    refine g_iret hC (gDec_at DX7_evenOf_0 26 rfl) ?_
    exact ⟨by unfold sEvn; rw [← e1, if_pos (by omega)], rfl⟩

set_option maxRecDepth 100000 in
set_option maxHeartbeats 4000000 in
theorem c_X7_isHeavy (q : gQ3) {M : gM} {B : gB} (hI : mI M B) {x f : Nat} (hx : x ≤ 40) (hf : f ≤ 999) : gCt (wM q) yX7_isHeavy cX7_isHeavy 3 (some .boolean) 4 [.ref (q.2.2 0), .int (nI x), .int (nI f)] M (gR (some (.int (gb (f * sAll B ≤ sPull B x)))) M) := by
  refine gMet RX7 (by decide +kernel) rfl (Nat.le_of_ble_eq_true rfl) (fun X hC => ?_)
  have hC : gC X (wM q) cX7_isHeavy 3 RX7 (some .boolean) 4 := hC
  show gG X (wM q) _ 3 M 0 [(0, .ref (q.2.2 0)), (1, .int (nI x)), (2, .int (nI f))] []
  have hpl := sPull_le B hx
  have hfg := mul_bd hf (sAll_le B)
  refine g_aload_n hC (gDec_at DX7_isHeavy_0 0 rfl) rfl ?_
  refine g_iload_n hC (gDec_at DX7_isHeavy_0 1 rfl) rfl ?_
  refine g_callVd (w := wM q) hC 0 (c_X7_pull q hI (x := x) (by omega)) vf_X7_pull ml_X7_136 (by decide) (show 0 < 17 from by decide) rfl rfl rfl rfl rfl (Nat.le_of_ble_eq_true rfl) (gDec_at DX7_isHeavy_0 2 rfl) ?_
  refine g_iload_n hC (gDec_at DX7_isHeavy_0 3 rfl) rfl ?_
  refine g_i2lN hC (by omega) (gDec_at DX7_isHeavy_0 4 rfl) ?_
  refine g_aload_n hC (gDec_at DX7_isHeavy_0 5 rfl) rfl ?_
  refine g_callVd (w := wM q) hC 0 (c_X7_allGive q hI) vf_X7_allGive ml_X7_141 (by decide) (show 0 < 17 from by decide) rfl rfl rfl rfl rfl (Nat.le_of_ble_eq_true rfl) (gDec_at DX7_isHeavy_0 6 rfl) ?_
  refine g_lmulN hC (gDec_at DX7_isHeavy_0 7 rfl) ?_
  refine g_lc_ltN hC (by omega) (by omega) (gDec_at DX7_isHeavy_0 8 rfl) (gDec_at DX7_isHeavy_0 9 rfl) 20 (by decide) (fun h12 => ?_) (fun h12 => ?_)
  · skip
    refine g_iconst hC (gDec_at DX7_isHeavy_0 12 rfl) (v := nI 0) (by decide) ?_
    refine g_zret hC (Or.inl rfl) (gDec_at DX7_isHeavy_0 13 rfl) ?_
    exact ⟨by rw [gb_f (show ¬ f * sAll B ≤ sPull B x by omega)]; rfl, rfl⟩
  · skip
    refine g_iconst hC (gDec_at DX7_isHeavy_0 10 rfl) (v := nI 1) (by decide) ?_
    refine g_goto hC (gDec_at DX7_isHeavy_0 11 rfl) 21 (by decide) ?_
    refine g_zret hC (Or.inr rfl) (gDec_at DX7_isHeavy_0 13 rfl) ?_
    exact ⟨by rw [gb_t (show f * sAll B ≤ sPull B x by omega)]; rfl, rfl⟩

set_option maxRecDepth 100000 in
set_option maxHeartbeats 4000000 in
theorem c_X7_pullLine (q : gQ3) {M : gM} {B : gB} (hI : mI M B) {j : Nat} (hj : j < 12) (ht : j % 6 < B 9 0) : gCt (wM q) yX7_pullLine cX7_pullLine 3 (some .long) 0 [.ref (q.2.2 0), .int (nI j)] M (gR (some (.long (lN (1000 * sPl B j)))) M) := by
  refine gMet RX7 (by decide +kernel) rfl (Nat.le_of_ble_eq_true rfl) (fun X hC => ?_)
  have hC : gC X (wM q) cX7_pullLine 3 RX7 (some .long) 0 := hC
  show gG X (wM q) _ 3 M 0 [(0, .ref (q.2.2 0)), (1, .int (nI j))] []
  have h2 := bv_f2 hI.2.2 hj ht
  have h4 := bv_f4 hI.2.2 hj ht
  have h7 := bv_pull hI.2.2 h2
  refine g_aload_n hC (gDec_at DX7_pullLine_0 0 rfl) rfl ?_
  refine g_get (w := wM q) hC 0 (v := .ref (q.2.2 11)) fl_X7_47 (show 0 < 17 from by decide) rfl rfl (gDec_at DX7_pullLine_0 1 rfl) ?_
  refine g_iconst hC (gDec_at DX7_pullLine_0 2 rfl) (v := nI 3) (by decide) ?_
  refine g_aload_n hC (gDec_at DX7_pullLine_0 3 rfl) rfl ?_
  refine g_get (w := wM q) hC 0 (v := .ref (q.2.2 4)) fl_X7_23 (show 0 < 17 from by decide) rfl rfl (gDec_at DX7_pullLine_0 4 rfl) ?_
  refine g_iload_n hC (gDec_at DX7_pullLine_0 5 rfl) rfl ?_
  refine g_iald (w := wM q) hC 4 0 j (x := (nI (B 2 j))) (show 4 < 17 from by decide) rfl rfl (by omega) (by decide) (mi_f2 hI hj ht) (gDec_at DX7_pullLine_0 6 rfl) ?_
  refine g_imulN hC (gDec_at DX7_pullLine_0 7 rfl) ?_
  refine g_iconst hC (gDec_at DX7_pullLine_0 8 rfl) (v := nI 1) (by decide) ?_
  refine g_iaddN hC (gDec_at DX7_pullLine_0 9 rfl) ?_
  refine g_iald (w := wM q) hC 11 0 ((3 * (B 2 j)) + 1) (x := (nI (B 7 (B 2 j)))) (show 11 < 17 from by decide) rfl rfl (by omega) (by decide) (mi_pull hI (k := (B 2 j)) h2) (gDec_at DX7_pullLine_0 10 rfl) ?_
  refine g_istore_n hC (gDec_at DX7_pullLine_0 11 rfl) (by decide) (L' := [(2, .int (nI (B 7 (B 2 j)))), (0, .ref (q.2.2 0)), (1, .int (nI j))]) rfl ?_
  refine g_ldc2 hC cl_X7_160 (v' := lN 1000) (by decide) (gDec_at DX7_pullLine_0 12 rfl) ?_
  refine g_aload_n hC (gDec_at DX7_pullLine_0 13 rfl) rfl ?_
  refine g_get (w := wM q) hC 0 (v := .ref (q.2.2 6)) fl_X7_29 (show 0 < 17 from by decide) rfl rfl (gDec_at DX7_pullLine_0 14 rfl) ?_
  refine g_iload_n hC (gDec_at DX7_pullLine_0 15 rfl) rfl ?_
  refine g_iald (w := wM q) hC 6 0 j (x := (nI (B 4 j))) (show 6 < 17 from by decide) rfl rfl (by omega) (by decide) (mi_f4 hI hj ht) (gDec_at DX7_pullLine_0 16 rfl) ?_
  refine g_iconst hC (gDec_at DX7_pullLine_0 17 rfl) (v := nI 1) (by decide) ?_
  refine g_icmp_neN hC (by omega) (by omega) (gDec_at DX7_pullLine_0 18 rfl) 35 (by decide) (fun h26 => ?_) (fun h26 => ?_)
  · skip
    refine g_iload_n hC (gDec_at DX7_pullLine_0 23 rfl) rfl ?_
    refine g_i2lN hC (by omega) (gDec_at DX7_pullLine_0 24 rfl) ?_
    refine g_lmulN hC (gDec_at DX7_pullLine_0 25 rfl) ?_
    refine g_lret hC (gDec_at DX7_pullLine_0 26 rfl) ?_
    exact ⟨by unfold sPl; rw [if_pos (by omega)], rfl⟩
  · skip
    refine g_iload_n hC (gDec_at DX7_pullLine_0 19 rfl) rfl ?_
    refine g_iconst hC (gDec_at DX7_pullLine_0 20 rfl) (v := nI 2) (by decide) ?_
    refine g_idivN hC (by omega) (by omega) (by omega) (gDec_at DX7_pullLine_0 21 rfl) ?_
    refine g_goto hC (gDec_at DX7_pullLine_0 22 rfl) 36 (by decide) ?_
    refine g_i2lN hC (by omega) (gDec_at DX7_pullLine_0 24 rfl) ?_
    refine g_lmulN hC (gDec_at DX7_pullLine_0 25 rfl) ?_
    refine g_lret hC (gDec_at DX7_pullLine_0 26 rfl) ?_
    exact ⟨by unfold sPl; rw [if_neg (by omega)], rfl⟩

set_option maxRecDepth 100000 in
set_option maxHeartbeats 4000000 in
theorem c_X7_formOf (q : gQ3) {M : gM} {B : gB} (hI : mI M B) {j : Nat} (hj : j < 12) (ht : j % 6 < B 9 0) {f s : Nat} (hf : f ≤ 999) (hs : s ≤ 99) : gCt (wM q) yX7_formOf cX7_formOf 5 (some .int) 0 [.ref (q.2.2 0), .int (nI j), .int (nI f), .int (nI s)] M (gR (some (.int (fk (sForm B j f s)))) M) := by
  refine gMet RX7 (by decide +kernel) rfl (Nat.le_of_ble_eq_true rfl) (fun X hC => ?_)
  have hC : gC X (wM q) cX7_formOf 5 RX7 (some .int) 0 := hC
  show gG X (wM q) _ 5 M 0 [(0, .ref (q.2.2 0)), (1, .int (nI j)), (2, .int (nI f)), (3, .int (nI s))] []
  have h0 := bv_f0 hI.2.2 hj ht
  have h2 := bv_f2 hI.2.2 hj ht
  have he := bv_e hI.2.2 h2
  have h6 : j % 6 + 1 ≤ 6 := by omega
  have hn := mul_bd hf h6
  have heq : 1000 * f * (j % 6 + 1) = f * (j % 6 + 1) * 1000 := by rw [Nat.mul_assoc 1000, Nat.mul_comm 1000]
  refine g_iconst hC (gDec_at DX7_formOf_0 0 rfl) (v := nI 4) (by decide) ?_
  refine g_istore hC (gDec_at DX7_formOf_0 1 rfl) (by decide) (L' := [(4, .int (nI 4)), (0, .ref (q.2.2 0)), (1, .int (nI j)), (2, .int (nI f)), (3, .int (nI s))]) rfl ?_
  have loop3 : ∀ (fu i : Nat), i ≤ 41 → 41 - i < fu → 4 ≤ i → sForm B j f s = ffirst (fun d => 1000 * f * (j % 6 + 1) ≤ s * B 6 (B 2 j) * B 0 j * d * d) (41 - i) i → gG X (wM q) (gR (some (.int (fk (sForm B j f s)))) M) 5 M 3 [(0, .ref (q.2.2 0)), (1, .int (nI j)), (2, .int (nI f)), (3, .int (nI s)), (4, .int (nI i))] [] := by
    intro fu; induction fu with
    | zero => intro i h1 h2; omega
    | succ fu ih =>
      intro i hi hfu h4i hff
      have hdd := mul_bd (mul_bd (mul_bd (mul_bd hs he.2) h0.2) (by omega : i ≤ 41)) (by omega : i ≤ 41)
      refine g_iload hC (gDec_at DX7_formOf_0 2 rfl) rfl ?_
      refine g_bipush hC (gDec_at DX7_formOf_0 3 rfl) (v := nI 40) (by decide) ?_
      refine g_icmp_gtN hC (by omega) (by omega) (gDec_at DX7_formOf_0 4 rfl) 69 (by decide) (fun h7 => ?_) (fun h7 => ?_)
      · skip
        obtain rfl : i = 41 := by omega
        refine g_bipush hC (gDec_at DX7_formOf_0 46 rfl) (v := -9) (by decide) ?_
        refine g_iret hC (gDec_at DX7_formOf_0 47 rfl) ?_
        exact ⟨by rw [show sForm B j f s = 0 from hff]; rfl, rfl⟩
      · skip
        refine g_iload_n hC (gDec_at DX7_formOf_0 5 rfl) rfl ?_
        refine g_iload_n hC (gDec_at DX7_formOf_0 6 rfl) rfl ?_
        refine g_bipush hC (gDec_at DX7_formOf_0 7 rfl) (v := nI 6) (by decide) ?_
        refine g_iremN hC (by omega) (by omega) (by omega) (gDec_at DX7_formOf_0 8 rfl) ?_
        refine g_iconst hC (gDec_at DX7_formOf_0 9 rfl) (v := nI 1) (by decide) ?_
        refine g_iaddN hC (gDec_at DX7_formOf_0 10 rfl) ?_
        refine g_imulN hC (gDec_at DX7_formOf_0 11 rfl) ?_
        refine g_i2lN hC (by omega) (gDec_at DX7_formOf_0 12 rfl) ?_
        refine g_ldc2 hC cl_X7_160 (v' := lN 1000) (by decide) (gDec_at DX7_formOf_0 13 rfl) ?_
        refine g_lmulN hC (gDec_at DX7_formOf_0 14 rfl) ?_
        refine g_iload_n hC (gDec_at DX7_formOf_0 15 rfl) rfl ?_
        refine g_i2lN hC (by omega) (gDec_at DX7_formOf_0 16 rfl) ?_
        refine g_aload_n hC (gDec_at DX7_formOf_0 17 rfl) rfl ?_
        refine g_get (w := wM q) hC 0 (v := .ref (q.2.2 11)) fl_X7_47 (show 0 < 17 from by decide) rfl rfl (gDec_at DX7_formOf_0 18 rfl) ?_
        refine g_iconst hC (gDec_at DX7_formOf_0 19 rfl) (v := nI 3) (by decide) ?_
        refine g_aload_n hC (gDec_at DX7_formOf_0 20 rfl) rfl ?_
        refine g_get (w := wM q) hC 0 (v := .ref (q.2.2 4)) fl_X7_23 (show 0 < 17 from by decide) rfl rfl (gDec_at DX7_formOf_0 21 rfl) ?_
        refine g_iload_n hC (gDec_at DX7_formOf_0 22 rfl) rfl ?_
        refine g_iald (w := wM q) hC 4 0 j (x := (nI (B 2 j))) (show 4 < 17 from by decide) rfl rfl (by omega) (by decide) (mi_f2 hI hj ht) (gDec_at DX7_formOf_0 23 rfl) ?_
        refine g_imulN hC (gDec_at DX7_formOf_0 24 rfl) ?_
        refine g_iald (w := wM q) hC 11 0 (3 * (B 2 j)) (x := (nI (B 6 (B 2 j)))) (show 11 < 17 from by decide) rfl rfl (by omega) (by decide) (mi_e hI (k := (B 2 j)) h2) (gDec_at DX7_formOf_0 25 rfl) ?_
        refine g_i2lN hC (by omega) (gDec_at DX7_formOf_0 26 rfl) ?_
        refine g_lmulN hC (gDec_at DX7_formOf_0 27 rfl) ?_
        refine g_aload_n hC (gDec_at DX7_formOf_0 28 rfl) rfl ?_
        refine g_get (w := wM q) hC 0 (v := .ref (q.2.2 2)) fl_X7_17 (show 0 < 17 from by decide) rfl rfl (gDec_at DX7_formOf_0 29 rfl) ?_
        refine g_iload_n hC (gDec_at DX7_formOf_0 30 rfl) rfl ?_
        refine g_iald (w := wM q) hC 2 0 j (x := (nI (B 0 j))) (show 2 < 17 from by decide) rfl rfl (by omega) (by decide) (mi_f0 hI hj ht) (gDec_at DX7_formOf_0 31 rfl) ?_
        refine g_i2lN hC (by omega) (gDec_at DX7_formOf_0 32 rfl) ?_
        refine g_lmulN hC (gDec_at DX7_formOf_0 33 rfl) ?_
        refine g_iload hC (gDec_at DX7_formOf_0 34 rfl) rfl ?_
        refine g_i2lN hC (by omega) (gDec_at DX7_formOf_0 35 rfl) ?_
        refine g_lmulN hC (gDec_at DX7_formOf_0 36 rfl) ?_
        refine g_iload hC (gDec_at DX7_formOf_0 37 rfl) rfl ?_
        refine g_i2lN hC (by omega) (gDec_at DX7_formOf_0 38 rfl) ?_
        refine g_lmulN hC (gDec_at DX7_formOf_0 39 rfl) ?_
        refine g_lc_gtN hC (by omega) (by omega) (gDec_at DX7_formOf_0 40 rfl) (gDec_at DX7_formOf_0 41 rfl) 63 (by decide) (fun h56 => ?_) (fun h56 => ?_)
        · skip
          refine g_iincN hC (gDec_at DX7_formOf_0 44 rfl) rfl (by decide) (L' := [(4, .int (nI (i + 1))), (0, .ref (q.2.2 0)), (1, .int (nI j)), (2, .int (nI f)), (3, .int (nI s))]) rfl ?_
          refine g_goto hC (gDec_at DX7_formOf_0 45 rfl) 3 (by decide) ?_
          refine g_sub [1, 2, 3, 4, 0] (L' := [(0, .ref (q.2.2 0)), (1, .int (nI j)), (2, .int (nI f)), (3, .int (nI s)), (4, .int (nI (i + 1)))]) rfl ?_
          have h9 := ih (i + 1) (by omega) (by omega) (by omega) (by rw [hff, show 41 - i = (41 - (i + 1)) + 1 by omega]; exact if_neg (by omega))
          exact h9
        · skip
          refine g_iload hC (gDec_at DX7_formOf_0 42 rfl) rfl ?_
          refine g_iret hC (gDec_at DX7_formOf_0 43 rfl) ?_
          exact ⟨by rw [show sForm B j f s = i from by rw [hff, show 41 - i = (40 - i) + 1 by omega]; exact if_pos (by omega)]; unfold fk; rw [if_neg (by omega)], rfl⟩
  exact g_sub [1, 2, 3, 4, 0] rfl (loop3 (41 + 1 - 4) 4 (by omega) (by omega) (by omega) rfl)

set_option maxRecDepth 100000 in
set_option maxHeartbeats 4000000 in
theorem c_X7_noForm_2 (q : gQ3) {M : gM} {f : Nat} (hfa : 1 ≤ f) (hfb : f ≤ 999) {s : Nat} (hsa : 1 ≤ s) (hsb : s ≤ 99) : gCt (wM q) yX7_noForm cX7_noForm 2 (some .boolean) 1 [.int (nI f), .int (nI s)] M (gR (some (.int (nI 0))) M) := by
  refine gMet RX7 (by decide +kernel) rfl (Nat.le_of_ble_eq_true rfl) (fun X hC => ?_)
  have hC : gC X (wM q) cX7_noForm 2 RX7 (some .boolean) 1 := hC
  show gG X (wM q) _ 2 M 0 [(0, .int (nI f)), (1, .int (nI s))] []
  refine g_iload_n hC (gDec_at DX7_noForm_0 0 rfl) rfl ?_
  refine g_i2lN hC (by omega) (gDec_at DX7_noForm_0 1 rfl) ?_
  refine g_lconst hC (gDec_at DX7_noForm_0 2 rfl) (v := lN 1) (by decide) ?_
  refine g_ldc2 hC cl_X7_168 (v' := lN 999) (by decide) (gDec_at DX7_noForm_0 3 rfl) ?_
  refine g_callSd (w := wM q) hC (c_X7_in_yes q (v := f) (a := 1) (b := 999) (by omega) (by omega) (by omega)) sf_X7_in ml_X7_72 (by decide) rfl rfl (Nat.le_of_ble_eq_true rfl) (gDec_at DX7_noForm_0 4 rfl) ?_
  refine g_if_eqN hC (by decide) (gDec_at DX7_noForm_0 5 rfl) 24 (by decide) (fun h => absurd h (by decide)) (fun h => ?_)
  refine g_iload_n hC (gDec_at DX7_noForm_0 6 rfl) rfl ?_
  refine g_i2lN hC (by omega) (gDec_at DX7_noForm_0 7 rfl) ?_
  refine g_lconst hC (gDec_at DX7_noForm_0 8 rfl) (v := lN 1) (by decide) ?_
  refine g_ldc2 hC cl_X7_106 (v' := lN 99) (by decide) (gDec_at DX7_noForm_0 9 rfl) ?_
  refine g_callSd (w := wM q) hC (c_X7_in_yes q (v := s) (a := 1) (b := 99) (by omega) (by omega) (by omega)) sf_X7_in ml_X7_72 (by decide) rfl rfl (Nat.le_of_ble_eq_true rfl) (gDec_at DX7_noForm_0 10 rfl) ?_
  refine g_if_neN hC (by decide) (gDec_at DX7_noForm_0 11 rfl) 28 (by decide) (fun h => ?_) (fun h => absurd h (by decide))
  refine g_iconst hC (gDec_at DX7_noForm_0 14 rfl) (v := nI 0) (by decide) ?_
  refine g_zret hC (Or.inl rfl) (gDec_at DX7_noForm_0 15 rfl) ?_
  exact ⟨rfl, rfl⟩

set_option maxRecDepth 100000 in
set_option maxHeartbeats 4000000 in
theorem c_X7_noForm_1 (q : gQ3) {M : gM} {f : Nat} (hfa : 1 ≤ f) (hfb : f ≤ 999) {s : Int32} (hs : ¬ gin s 1 99) : gCt (wM q) yX7_noForm cX7_noForm 2 (some .boolean) 1 [.int (nI f), .int s] M (gR (some (.int (nI 1))) M) := by
  refine gMet RX7 (by decide +kernel) rfl (Nat.le_of_ble_eq_true rfl) (fun X hC => ?_)
  have hC : gC X (wM q) cX7_noForm 2 RX7 (some .boolean) 1 := hC
  show gG X (wM q) _ 2 M 0 [(0, .int (nI f)), (1, .int s)] []
  refine g_iload_n hC (gDec_at DX7_noForm_0 0 rfl) rfl ?_
  refine g_i2lN hC (by omega) (gDec_at DX7_noForm_0 1 rfl) ?_
  refine g_lconst hC (gDec_at DX7_noForm_0 2 rfl) (v := lN 1) (by decide) ?_
  refine g_ldc2 hC cl_X7_168 (v' := lN 999) (by decide) (gDec_at DX7_noForm_0 3 rfl) ?_
  refine g_callSd (w := wM q) hC (c_X7_in_yes q (v := f) (a := 1) (b := 999) (by omega) (by omega) (by omega)) sf_X7_in ml_X7_72 (by decide) rfl rfl (Nat.le_of_ble_eq_true rfl) (gDec_at DX7_noForm_0 4 rfl) ?_
  refine g_if_eqN hC (by decide) (gDec_at DX7_noForm_0 5 rfl) 24 (by decide) (fun h => absurd h (by decide)) (fun h => ?_)
  refine g_iload_n hC (gDec_at DX7_noForm_0 6 rfl) rfl ?_
  refine g_i2l hC (gDec_at DX7_noForm_0 7 rfl) rfl ?_
  refine g_lconst hC (gDec_at DX7_noForm_0 8 rfl) (v := lN 1) (by decide) ?_
  refine g_ldc2 hC cl_X7_106 (v' := lN 99) (by decide) (gDec_at DX7_noForm_0 9 rfl) ?_
  refine g_callSd (w := wM q) hC (c_X7_in_no q (by omega) (by omega) hs) sf_X7_in ml_X7_72 (by decide) rfl rfl (Nat.le_of_ble_eq_true rfl) (gDec_at DX7_noForm_0 10 rfl) ?_
  refine g_if_neN hC (by decide) (gDec_at DX7_noForm_0 11 rfl) 28 (by decide) (fun h => absurd h (by decide)) (fun h => ?_)
  refine g_iconst hC (gDec_at DX7_noForm_0 12 rfl) (v := nI 1) (by decide) ?_
  refine g_goto hC (gDec_at DX7_noForm_0 13 rfl) 29 (by decide) ?_
  refine g_zret hC (Or.inr rfl) (gDec_at DX7_noForm_0 15 rfl) ?_
  exact ⟨rfl, rfl⟩

set_option maxRecDepth 100000 in
set_option maxHeartbeats 4000000 in
theorem c_X7_noForm_0 (q : gQ3) {M : gM} {f : Int32} (hf : ¬ gin f 1 999) {s : Int32} : gCt (wM q) yX7_noForm cX7_noForm 2 (some .boolean) 1 [.int f, .int s] M (gR (some (.int (nI 1))) M) := by
  refine gMet RX7 (by decide +kernel) rfl (Nat.le_of_ble_eq_true rfl) (fun X hC => ?_)
  have hC : gC X (wM q) cX7_noForm 2 RX7 (some .boolean) 1 := hC
  show gG X (wM q) _ 2 M 0 [(0, .int f), (1, .int s)] []
  refine g_iload_n hC (gDec_at DX7_noForm_0 0 rfl) rfl ?_
  refine g_i2l hC (gDec_at DX7_noForm_0 1 rfl) rfl ?_
  refine g_lconst hC (gDec_at DX7_noForm_0 2 rfl) (v := lN 1) (by decide) ?_
  refine g_ldc2 hC cl_X7_168 (v' := lN 999) (by decide) (gDec_at DX7_noForm_0 3 rfl) ?_
  refine g_callSd (w := wM q) hC (c_X7_in_no q (by omega) (by omega) hf) sf_X7_in ml_X7_72 (by decide) rfl rfl (Nat.le_of_ble_eq_true rfl) (gDec_at DX7_noForm_0 4 rfl) ?_
  refine g_if_eqN hC (by decide) (gDec_at DX7_noForm_0 5 rfl) 24 (by decide) (fun h => ?_) (fun h => absurd h (by decide))
  refine g_iconst hC (gDec_at DX7_noForm_0 12 rfl) (v := nI 1) (by decide) ?_
  refine g_goto hC (gDec_at DX7_noForm_0 13 rfl) 29 (by decide) ?_
  refine g_zret hC (Or.inr rfl) (gDec_at DX7_noForm_0 15 rfl) ?_
  exact ⟨rfl, rfl⟩

set_option maxRecDepth 100000 in
set_option maxHeartbeats 4000000 in
theorem c_X7_noSearch_3 (q : gQ3) {M : gM} {x : Nat} (hxa : 0 ≤ x) (hxb : x ≤ 40) {f : Nat} (hfa : 0 ≤ f) (hfb : f ≤ 999) {n : Nat} (hna : 1 ≤ n) (hnb : n ≤ 3) : gCt (wM q) yX7_noSearch cX7_noSearch 3 (some .boolean) 2 [.int (nI x), .int (nI f), .int (nI n)] M (gR (some (.int (nI 0))) M) := by
  refine gMet RX7 (by decide +kernel) rfl (Nat.le_of_ble_eq_true rfl) (fun X hC => ?_)
  have hC : gC X (wM q) cX7_noSearch 3 RX7 (some .boolean) 2 := hC
  show gG X (wM q) _ 3 M 0 [(0, .int (nI x)), (1, .int (nI f)), (2, .int (nI n))] []
  refine g_iload_n hC (gDec_at DX7_noSearch_0 0 rfl) rfl ?_
  refine g_callSd (w := wM q) hC (c_X7_noInches_in q (k := x) (by omega)) sf_X7_noInches ml_X7_147 (by decide) rfl rfl (Nat.le_of_ble_eq_true rfl) (gDec_at DX7_noSearch_0 1 rfl) ?_
  refine g_if_neN hC (by decide) (gDec_at DX7_noSearch_0 2 rfl) 31 (by decide) (fun h => absurd h (by decide)) (fun h => ?_)
  refine g_iload_n hC (gDec_at DX7_noSearch_0 3 rfl) rfl ?_
  refine g_i2lN hC (by omega) (gDec_at DX7_noSearch_0 4 rfl) ?_
  refine g_lconst hC (gDec_at DX7_noSearch_0 5 rfl) (v := lN 0) (by decide) ?_
  refine g_ldc2 hC cl_X7_168 (v' := lN 999) (by decide) (gDec_at DX7_noSearch_0 6 rfl) ?_
  refine g_callSd (w := wM q) hC (c_X7_in_yes q (v := f) (a := 0) (b := 999) (by omega) (by omega) (by omega)) sf_X7_in ml_X7_72 (by decide) rfl rfl (Nat.le_of_ble_eq_true rfl) (gDec_at DX7_noSearch_0 7 rfl) ?_
  refine g_if_eqN hC (by decide) (gDec_at DX7_noSearch_0 8 rfl) 31 (by decide) (fun h => absurd h (by decide)) (fun h => ?_)
  refine g_iload_n hC (gDec_at DX7_noSearch_0 9 rfl) rfl ?_
  refine g_i2lN hC (by omega) (gDec_at DX7_noSearch_0 10 rfl) ?_
  refine g_lconst hC (gDec_at DX7_noSearch_0 11 rfl) (v := lN 1) (by decide) ?_
  refine g_ldc2 hC cl_X7_197 (v' := lN 3) (by decide) (gDec_at DX7_noSearch_0 12 rfl) ?_
  refine g_callSd (w := wM q) hC (c_X7_in_yes q (v := n) (a := 1) (b := 3) (by omega) (by omega) (by omega)) sf_X7_in ml_X7_72 (by decide) rfl rfl (Nat.le_of_ble_eq_true rfl) (gDec_at DX7_noSearch_0 13 rfl) ?_
  refine g_if_neN hC (by decide) (gDec_at DX7_noSearch_0 14 rfl) 35 (by decide) (fun h => ?_) (fun h => absurd h (by decide))
  refine g_iconst hC (gDec_at DX7_noSearch_0 17 rfl) (v := nI 0) (by decide) ?_
  refine g_zret hC (Or.inl rfl) (gDec_at DX7_noSearch_0 18 rfl) ?_
  exact ⟨rfl, rfl⟩

set_option maxRecDepth 100000 in
set_option maxHeartbeats 4000000 in
theorem c_X7_noSearch_2 (q : gQ3) {M : gM} {x : Nat} (hxa : 0 ≤ x) (hxb : x ≤ 40) {f : Nat} (hfa : 0 ≤ f) (hfb : f ≤ 999) {n : Int32} (hn : ¬ gin n 1 3) : gCt (wM q) yX7_noSearch cX7_noSearch 3 (some .boolean) 2 [.int (nI x), .int (nI f), .int n] M (gR (some (.int (nI 1))) M) := by
  refine gMet RX7 (by decide +kernel) rfl (Nat.le_of_ble_eq_true rfl) (fun X hC => ?_)
  have hC : gC X (wM q) cX7_noSearch 3 RX7 (some .boolean) 2 := hC
  show gG X (wM q) _ 3 M 0 [(0, .int (nI x)), (1, .int (nI f)), (2, .int n)] []
  refine g_iload_n hC (gDec_at DX7_noSearch_0 0 rfl) rfl ?_
  refine g_callSd (w := wM q) hC (c_X7_noInches_in q (k := x) (by omega)) sf_X7_noInches ml_X7_147 (by decide) rfl rfl (Nat.le_of_ble_eq_true rfl) (gDec_at DX7_noSearch_0 1 rfl) ?_
  refine g_if_neN hC (by decide) (gDec_at DX7_noSearch_0 2 rfl) 31 (by decide) (fun h => absurd h (by decide)) (fun h => ?_)
  refine g_iload_n hC (gDec_at DX7_noSearch_0 3 rfl) rfl ?_
  refine g_i2lN hC (by omega) (gDec_at DX7_noSearch_0 4 rfl) ?_
  refine g_lconst hC (gDec_at DX7_noSearch_0 5 rfl) (v := lN 0) (by decide) ?_
  refine g_ldc2 hC cl_X7_168 (v' := lN 999) (by decide) (gDec_at DX7_noSearch_0 6 rfl) ?_
  refine g_callSd (w := wM q) hC (c_X7_in_yes q (v := f) (a := 0) (b := 999) (by omega) (by omega) (by omega)) sf_X7_in ml_X7_72 (by decide) rfl rfl (Nat.le_of_ble_eq_true rfl) (gDec_at DX7_noSearch_0 7 rfl) ?_
  refine g_if_eqN hC (by decide) (gDec_at DX7_noSearch_0 8 rfl) 31 (by decide) (fun h => absurd h (by decide)) (fun h => ?_)
  refine g_iload_n hC (gDec_at DX7_noSearch_0 9 rfl) rfl ?_
  refine g_i2l hC (gDec_at DX7_noSearch_0 10 rfl) rfl ?_
  refine g_lconst hC (gDec_at DX7_noSearch_0 11 rfl) (v := lN 1) (by decide) ?_
  refine g_ldc2 hC cl_X7_197 (v' := lN 3) (by decide) (gDec_at DX7_noSearch_0 12 rfl) ?_
  refine g_callSd (w := wM q) hC (c_X7_in_no q (by omega) (by omega) hn) sf_X7_in ml_X7_72 (by decide) rfl rfl (Nat.le_of_ble_eq_true rfl) (gDec_at DX7_noSearch_0 13 rfl) ?_
  refine g_if_neN hC (by decide) (gDec_at DX7_noSearch_0 14 rfl) 35 (by decide) (fun h => absurd h (by decide)) (fun h => ?_)
  refine g_iconst hC (gDec_at DX7_noSearch_0 15 rfl) (v := nI 1) (by decide) ?_
  refine g_goto hC (gDec_at DX7_noSearch_0 16 rfl) 36 (by decide) ?_
  refine g_zret hC (Or.inr rfl) (gDec_at DX7_noSearch_0 18 rfl) ?_
  exact ⟨rfl, rfl⟩

set_option maxRecDepth 100000 in
set_option maxHeartbeats 4000000 in
theorem c_X7_noSearch_1 (q : gQ3) {M : gM} {x : Nat} (hxa : 0 ≤ x) (hxb : x ≤ 40) {f : Int32} (hf : ¬ gin f 0 999) {n : Int32} : gCt (wM q) yX7_noSearch cX7_noSearch 3 (some .boolean) 2 [.int (nI x), .int f, .int n] M (gR (some (.int (nI 1))) M) := by
  refine gMet RX7 (by decide +kernel) rfl (Nat.le_of_ble_eq_true rfl) (fun X hC => ?_)
  have hC : gC X (wM q) cX7_noSearch 3 RX7 (some .boolean) 2 := hC
  show gG X (wM q) _ 3 M 0 [(0, .int (nI x)), (1, .int f), (2, .int n)] []
  refine g_iload_n hC (gDec_at DX7_noSearch_0 0 rfl) rfl ?_
  refine g_callSd (w := wM q) hC (c_X7_noInches_in q (k := x) (by omega)) sf_X7_noInches ml_X7_147 (by decide) rfl rfl (Nat.le_of_ble_eq_true rfl) (gDec_at DX7_noSearch_0 1 rfl) ?_
  refine g_if_neN hC (by decide) (gDec_at DX7_noSearch_0 2 rfl) 31 (by decide) (fun h => absurd h (by decide)) (fun h => ?_)
  refine g_iload_n hC (gDec_at DX7_noSearch_0 3 rfl) rfl ?_
  refine g_i2l hC (gDec_at DX7_noSearch_0 4 rfl) rfl ?_
  refine g_lconst hC (gDec_at DX7_noSearch_0 5 rfl) (v := lN 0) (by decide) ?_
  refine g_ldc2 hC cl_X7_168 (v' := lN 999) (by decide) (gDec_at DX7_noSearch_0 6 rfl) ?_
  refine g_callSd (w := wM q) hC (c_X7_in_no q (by omega) (by omega) hf) sf_X7_in ml_X7_72 (by decide) rfl rfl (Nat.le_of_ble_eq_true rfl) (gDec_at DX7_noSearch_0 7 rfl) ?_
  refine g_if_eqN hC (by decide) (gDec_at DX7_noSearch_0 8 rfl) 31 (by decide) (fun h => ?_) (fun h => absurd h (by decide))
  refine g_iconst hC (gDec_at DX7_noSearch_0 15 rfl) (v := nI 1) (by decide) ?_
  refine g_goto hC (gDec_at DX7_noSearch_0 16 rfl) 36 (by decide) ?_
  refine g_zret hC (Or.inr rfl) (gDec_at DX7_noSearch_0 18 rfl) ?_
  exact ⟨rfl, rfl⟩

set_option maxRecDepth 100000 in
set_option maxHeartbeats 4000000 in
theorem c_X7_noSearch_0 (q : gQ3) {M : gM} {x : Int32} (hx : ¬ gin x 0 40) {f : Int32} {n : Int32} : gCt (wM q) yX7_noSearch cX7_noSearch 3 (some .boolean) 2 [.int x, .int f, .int n] M (gR (some (.int (nI 1))) M) := by
  refine gMet RX7 (by decide +kernel) rfl (Nat.le_of_ble_eq_true rfl) (fun X hC => ?_)
  have hC : gC X (wM q) cX7_noSearch 3 RX7 (some .boolean) 2 := hC
  show gG X (wM q) _ 3 M 0 [(0, .int x), (1, .int f), (2, .int n)] []
  refine g_iload_n hC (gDec_at DX7_noSearch_0 0 rfl) rfl ?_
  refine g_callSd (w := wM q) hC (c_X7_noInches_out q hx) sf_X7_noInches ml_X7_147 (by decide) rfl rfl (Nat.le_of_ble_eq_true rfl) (gDec_at DX7_noSearch_0 1 rfl) ?_
  refine g_if_neN hC (by decide) (gDec_at DX7_noSearch_0 2 rfl) 31 (by decide) (fun h => ?_) (fun h => absurd h (by decide))
  refine g_iconst hC (gDec_at DX7_noSearch_0 15 rfl) (v := nI 1) (by decide) ?_
  refine g_goto hC (gDec_at DX7_noSearch_0 16 rfl) 36 (by decide) ?_
  refine g_zret hC (Or.inr rfl) (gDec_at DX7_noSearch_0 18 rfl) ?_
  exact ⟨rfl, rfl⟩

set_option maxRecDepth 100000 in
set_option maxHeartbeats 4000000 in
theorem c_X7_give_out (q : gQ3) {M : gM} {B : gB} (hI : mI M B) {x0 : Int32} (hx0 : ¬ isPl B x0) : gCt (wM q) yX7_give cX7_give 2 (some .long) 8 [.ref (q.2.2 0), .int x0] M (gR (some (.long (-1))) M) := by
  refine gMet RX7 (by decide +kernel) rfl (Nat.le_of_ble_eq_true rfl) (fun X hC => ?_)
  have hC : gC X (wM q) cX7_give 2 RX7 (some .long) 8 := hC
  show gG X (wM q) _ 2 M 0 [(0, .ref (q.2.2 0)), (1, .int x0)] []
  refine g_aload_n hC (gDec_at DX7_give_0 0 rfl) rfl ?_
  refine g_iconst hC (gDec_at DX7_give_0 1 rfl) (v := nI 0) (by decide) ?_
  refine g_putI (w := wM q) hC 0 fl_X7_67 fp_7_0 (show 0 < 17 from by decide) rfl (Nat.le_of_ble_eq_true rfl) rfl rfl (gDec_at DX7_give_0 2 rfl) ?_
  refine g_M (mi_0 hI) ?_
  refine g_aload_n hC (gDec_at DX7_give_0 3 rfl) rfl ?_
  refine g_iload_n hC (gDec_at DX7_give_0 4 rfl) rfl ?_
  refine g_callVd (w := wM q) hC 0 (c_X7_noPlace_out q hI hx0) vf_X7_noPlace ml_X7_108 (by decide) (show 0 < 17 from by decide) rfl rfl rfl rfl rfl (Nat.le_of_ble_eq_true rfl) (gDec_at DX7_give_0 5 rfl) ?_
  refine g_if_eqN hC (by decide) (gDec_at DX7_give_0 6 rfl) 19 (by decide) (fun h => absurd h (by decide)) (fun h => ?_)
  refine g_ldc2 hC cl_X7_145 (v' := -1) rfl (gDec_at DX7_give_0 7 rfl) ?_
  refine g_goto hC (gDec_at DX7_give_0 8 rfl) 27 (by decide) ?_
  refine g_lret hC (gDec_at DX7_give_0 13 rfl) ?_
  exact ⟨rfl, rfl⟩

set_option maxRecDepth 100000 in
set_option maxHeartbeats 4000000 in
theorem c_X7_give_ok (q : gQ3) {M : gM} {B : gB} (hI : mI M B) {j : Nat} (hj : j < 12) (ht : j % 6 < B 9 0) : gCt (wM q) yX7_give cX7_give 2 (some .long) 8 [.ref (q.2.2 0), .int (nI (10 * (j / 6) + j % 6))] M (gR (some (.long (lN (sGive B j (B 1 j))))) M) := by
  refine gMet RX7 (by decide +kernel) rfl (Nat.le_of_ble_eq_true rfl) (fun X hC => ?_)
  have hC : gC X (wM q) cX7_give 2 RX7 (some .long) 8 := hC
  show gG X (wM q) _ 2 M 0 [(0, .ref (q.2.2 0)), (1, .int (nI (10 * (j / 6) + j % 6)))] []
  refine g_aload_n hC (gDec_at DX7_give_0 0 rfl) rfl ?_
  refine g_iconst hC (gDec_at DX7_give_0 1 rfl) (v := nI 0) (by decide) ?_
  refine g_putI (w := wM q) hC 0 fl_X7_67 fp_7_0 (show 0 < 17 from by decide) rfl (Nat.le_of_ble_eq_true rfl) rfl rfl (gDec_at DX7_give_0 2 rfl) ?_
  refine g_M (mi_0 hI) ?_
  refine g_aload_n hC (gDec_at DX7_give_0 3 rfl) rfl ?_
  refine g_iload_n hC (gDec_at DX7_give_0 4 rfl) rfl ?_
  refine g_callVd (w := wM q) hC 0 (c_X7_noPlace_in q hI hj (ht)) vf_X7_noPlace ml_X7_108 (by decide) (show 0 < 17 from by decide) rfl rfl rfl rfl rfl (Nat.le_of_ble_eq_true rfl) (gDec_at DX7_give_0 5 rfl) ?_
  refine g_if_eqN hC (by decide) (gDec_at DX7_give_0 6 rfl) 19 (by decide) (fun h => ?_) (fun h => absurd h (by decide))
  refine g_aload_n hC (gDec_at DX7_give_0 9 rfl) rfl ?_
  refine g_iload_n hC (gDec_at DX7_give_0 10 rfl) rfl ?_
  refine g_callSd (w := wM q) hC (c_X7_index q hj) sf_X7_index ml_X7_111 (by decide) rfl rfl (Nat.le_of_ble_eq_true rfl) (gDec_at DX7_give_0 11 rfl) ?_
  refine g_callVd (w := wM q) hC 0 (c_X7_giveOf q hI (j := j) hj ht) vf_X7_giveOf ml_X7_121 (by decide) (show 0 < 17 from by decide) rfl rfl rfl rfl rfl (Nat.le_of_ble_eq_true rfl) (gDec_at DX7_give_0 12 rfl) ?_
  refine g_lret hC (gDec_at DX7_give_0 13 rfl) ?_
  exact ⟨rfl, rfl⟩

set_option maxRecDepth 100000 in
set_option maxHeartbeats 4000000 in
theorem c_X7_limb_out (q : gQ3) {M : gM} {B : gB} (hI : mI M B) {x0 : Int32} (hx0 : ¬ gin x0 0 1) : gCt (wM q) yX7_limb cX7_limb 2 (some .long) 8 [.ref (q.2.2 0), .int x0] M (gR (some (.long (-1))) M) := by
  refine gMet RX7 (by decide +kernel) rfl (Nat.le_of_ble_eq_true rfl) (fun X hC => ?_)
  have hC : gC X (wM q) cX7_limb 2 RX7 (some .long) 8 := hC
  show gG X (wM q) _ 2 M 0 [(0, .ref (q.2.2 0)), (1, .int x0)] []
  refine g_aload_n hC (gDec_at DX7_limb_0 0 rfl) rfl ?_
  refine g_iconst hC (gDec_at DX7_limb_0 1 rfl) (v := nI 0) (by decide) ?_
  refine g_putI (w := wM q) hC 0 fl_X7_67 fp_7_0 (show 0 < 17 from by decide) rfl (Nat.le_of_ble_eq_true rfl) rfl rfl (gDec_at DX7_limb_0 2 rfl) ?_
  refine g_M (mi_0 hI) ?_
  refine g_iload_n hC (gDec_at DX7_limb_0 3 rfl) rfl ?_
  refine g_i2l hC (gDec_at DX7_limb_0 4 rfl) rfl ?_
  refine g_lconst hC (gDec_at DX7_limb_0 5 rfl) (v := lN 0) (by decide) ?_
  refine g_lconst hC (gDec_at DX7_limb_0 6 rfl) (v := lN 1) (by decide) ?_
  refine g_callSd (w := wM q) hC (c_X7_in_no q (by omega) (by omega) hx0) sf_X7_in ml_X7_72 (by decide) rfl rfl (Nat.le_of_ble_eq_true rfl) (gDec_at DX7_limb_0 7 rfl) ?_
  refine g_if_eqN hC (by decide) (gDec_at DX7_limb_0 8 rfl) 23 (by decide) (fun h => ?_) (fun h => absurd h (by decide))
  refine g_ldc2 hC cl_X7_145 (v' := -1) rfl (gDec_at DX7_limb_0 13 rfl) ?_
  refine g_lret hC (gDec_at DX7_limb_0 14 rfl) ?_
  exact ⟨rfl, rfl⟩

set_option maxRecDepth 100000 in
set_option maxHeartbeats 4000000 in
theorem c_X7_limb_ok (q : gQ3) {M : gM} {B : gB} (hI : mI M B) {l : Nat} (hl : l < 2) : gCt (wM q) yX7_limb cX7_limb 2 (some .long) 8 [.ref (q.2.2 0), .int (nI l)] M (gR (some (.long (lN (sLimb B l)))) M) := by
  refine gMet RX7 (by decide +kernel) rfl (Nat.le_of_ble_eq_true rfl) (fun X hC => ?_)
  have hC : gC X (wM q) cX7_limb 2 RX7 (some .long) 8 := hC
  show gG X (wM q) _ 2 M 0 [(0, .ref (q.2.2 0)), (1, .int (nI l))] []
  refine g_aload_n hC (gDec_at DX7_limb_0 0 rfl) rfl ?_
  refine g_iconst hC (gDec_at DX7_limb_0 1 rfl) (v := nI 0) (by decide) ?_
  refine g_putI (w := wM q) hC 0 fl_X7_67 fp_7_0 (show 0 < 17 from by decide) rfl (Nat.le_of_ble_eq_true rfl) rfl rfl (gDec_at DX7_limb_0 2 rfl) ?_
  refine g_M (mi_0 hI) ?_
  refine g_iload_n hC (gDec_at DX7_limb_0 3 rfl) rfl ?_
  refine g_i2lN hC (by omega) (gDec_at DX7_limb_0 4 rfl) ?_
  refine g_lconst hC (gDec_at DX7_limb_0 5 rfl) (v := lN 0) (by decide) ?_
  refine g_lconst hC (gDec_at DX7_limb_0 6 rfl) (v := lN 1) (by decide) ?_
  refine g_callSd (w := wM q) hC (c_X7_in_yes q (v := l) (a := 0) (b := 1) (by omega) (by omega) (by omega)) sf_X7_in ml_X7_72 (by decide) rfl rfl (Nat.le_of_ble_eq_true rfl) (gDec_at DX7_limb_0 7 rfl) ?_
  refine g_if_eqN hC (by decide) (gDec_at DX7_limb_0 8 rfl) 23 (by decide) (fun h => absurd h (by decide)) (fun h => ?_)
  refine g_aload_n hC (gDec_at DX7_limb_0 9 rfl) rfl ?_
  refine g_iload_n hC (gDec_at DX7_limb_0 10 rfl) rfl ?_
  refine g_callVd (w := wM q) hC 0 (c_X7_limbOf q hI (l := l) (by omega)) vf_X7_limbOf ml_X7_125 (by decide) (show 0 < 17 from by decide) rfl rfl rfl rfl rfl (Nat.le_of_ble_eq_true rfl) (gDec_at DX7_limb_0 11 rfl) ?_
  refine g_goto hC (gDec_at DX7_limb_0 12 rfl) 26 (by decide) ?_
  refine g_lret hC (gDec_at DX7_limb_0 14 rfl) ?_
  exact ⟨rfl, rfl⟩

set_option maxRecDepth 100000 in
set_option maxHeartbeats 4000000 in
theorem c_X7_follow_ok (q : gQ3) {M : gM} {B : gB} (hI : mI M B) : gCt (wM q) yX7_follow cX7_follow 1 (some .int) 8 [.ref (q.2.2 0)] M (gR (some (.int (nI (sSets B / 10)))) M) := by
  refine gMet RX7 (by decide +kernel) rfl (Nat.le_of_ble_eq_true rfl) (fun X hC => ?_)
  have hC : gC X (wM q) cX7_follow 1 RX7 (some .int) 8 := hC
  show gG X (wM q) _ 1 M 0 [(0, .ref (q.2.2 0))] []
  have hs := sSets_le hI.2.2
  refine g_aload_n hC (gDec_at DX7_follow_0 0 rfl) rfl ?_
  refine g_iconst hC (gDec_at DX7_follow_0 1 rfl) (v := nI 0) (by decide) ?_
  refine g_putI (w := wM q) hC 0 fl_X7_67 fp_7_0 (show 0 < 17 from by decide) rfl (Nat.le_of_ble_eq_true rfl) rfl rfl (gDec_at DX7_follow_0 2 rfl) ?_
  refine g_M (mi_0 hI) ?_
  refine g_aload_n hC (gDec_at DX7_follow_0 3 rfl) rfl ?_
  refine g_callVd (w := wM q) hC 0 (c_X7_allSets q hI) vf_X7_allSets ml_X7_131 (by decide) (show 0 < 17 from by decide) rfl rfl rfl rfl rfl (Nat.le_of_ble_eq_true rfl) (gDec_at DX7_follow_0 4 rfl) ?_
  refine g_bipush hC (gDec_at DX7_follow_0 5 rfl) (v := nI 10) (by decide) ?_
  refine g_idivN hC (by omega) (by omega) (by omega) (gDec_at DX7_follow_0 6 rfl) ?_
  refine g_iret hC (gDec_at DX7_follow_0 7 rfl) ?_
  exact ⟨rfl, rfl⟩

set_option maxRecDepth 100000 in
set_option maxHeartbeats 4000000 in
theorem c_X7_weight_out (q : gQ3) {M : gM} {B : gB} (hI : mI M B) {x0 : Int32} (hx0 : ¬ gin x0 0 40) {u : Nat} (hu : u ≤ 1) : gCt (wM q) yX7_weight cX7_weight 3 (some .long) 8 [.ref (q.2.2 0), .int x0, .int (nI u)] M (gR (some (.long (-2))) M) := by
  refine gMet RX7 (by decide +kernel) rfl (Nat.le_of_ble_eq_true rfl) (fun X hC => ?_)
  have hC : gC X (wM q) cX7_weight 3 RX7 (some .long) 8 := hC
  show gG X (wM q) _ 3 M 0 [(0, .ref (q.2.2 0)), (1, .int x0), (2, .int (nI u))] []
  refine g_aload_n hC (gDec_at DX7_weight_0 0 rfl) rfl ?_
  refine g_iconst hC (gDec_at DX7_weight_0 1 rfl) (v := nI 0) (by decide) ?_
  refine g_putI (w := wM q) hC 0 fl_X7_67 fp_7_0 (show 0 < 17 from by decide) rfl (Nat.le_of_ble_eq_true rfl) rfl rfl (gDec_at DX7_weight_0 2 rfl) ?_
  refine g_M (mi_0 hI) ?_
  refine g_iload_n hC (gDec_at DX7_weight_0 3 rfl) rfl ?_
  refine g_callSd (w := wM q) hC (c_X7_noInches_out q hx0) sf_X7_noInches ml_X7_147 (by decide) rfl rfl (Nat.le_of_ble_eq_true rfl) (gDec_at DX7_weight_0 4 rfl) ?_
  refine g_if_eqN hC (by decide) (gDec_at DX7_weight_0 5 rfl) 18 (by decide) (fun h => absurd h (by decide)) (fun h => ?_)
  refine g_ldc2 hC cl_X7_150 (v' := -2) rfl (gDec_at DX7_weight_0 6 rfl) ?_
  refine g_goto hC (gDec_at DX7_weight_0 7 rfl) 31 (by decide) ?_
  refine g_lret hC (gDec_at DX7_weight_0 15 rfl) ?_
  exact ⟨rfl, rfl⟩

set_option maxRecDepth 100000 in
set_option maxHeartbeats 4000000 in
theorem c_X7_weight_ok (q : gQ3) {M : gM} {B : gB} (hI : mI M B) {x : Nat} (hx : x ≤ 40) {u : Nat} (hu : u ≤ 1) : gCt (wM q) yX7_weight cX7_weight 3 (some .long) 8 [.ref (q.2.2 0), .int (nI x), .int (nI u)] M (gR (some (.long (lN (sTo (sPull B x) (sAll B) u)))) M) := by
  refine gMet RX7 (by decide +kernel) rfl (Nat.le_of_ble_eq_true rfl) (fun X hC => ?_)
  have hC : gC X (wM q) cX7_weight 3 RX7 (some .long) 8 := hC
  show gG X (wM q) _ 3 M 0 [(0, .ref (q.2.2 0)), (1, .int (nI x)), (2, .int (nI u))] []
  have hpl := sPull_le B hx
  have hal := sAll_le B
  have has := sAll_ps hI.2.2
  refine g_aload_n hC (gDec_at DX7_weight_0 0 rfl) rfl ?_
  refine g_iconst hC (gDec_at DX7_weight_0 1 rfl) (v := nI 0) (by decide) ?_
  refine g_putI (w := wM q) hC 0 fl_X7_67 fp_7_0 (show 0 < 17 from by decide) rfl (Nat.le_of_ble_eq_true rfl) rfl rfl (gDec_at DX7_weight_0 2 rfl) ?_
  refine g_M (mi_0 hI) ?_
  refine g_iload_n hC (gDec_at DX7_weight_0 3 rfl) rfl ?_
  refine g_callSd (w := wM q) hC (c_X7_noInches_in q (k := x) (by omega)) sf_X7_noInches ml_X7_147 (by decide) rfl rfl (Nat.le_of_ble_eq_true rfl) (gDec_at DX7_weight_0 4 rfl) ?_
  refine g_if_eqN hC (by decide) (gDec_at DX7_weight_0 5 rfl) 18 (by decide) (fun h => ?_) (fun h => absurd h (by decide))
  refine g_aload_n hC (gDec_at DX7_weight_0 8 rfl) rfl ?_
  refine g_iload_n hC (gDec_at DX7_weight_0 9 rfl) rfl ?_
  refine g_callVd (w := wM q) hC 0 (c_X7_pull q hI (x := x) (by omega)) vf_X7_pull ml_X7_136 (by decide) (show 0 < 17 from by decide) rfl rfl rfl rfl rfl (Nat.le_of_ble_eq_true rfl) (gDec_at DX7_weight_0 10 rfl) ?_
  refine g_aload_n hC (gDec_at DX7_weight_0 11 rfl) rfl ?_
  refine g_callVd (w := wM q) hC 0 (c_X7_allGive q hI) vf_X7_allGive ml_X7_141 (by decide) (show 0 < 17 from by decide) rfl rfl rfl rfl rfl (Nat.le_of_ble_eq_true rfl) (gDec_at DX7_weight_0 12 rfl) ?_
  refine g_iload_n hC (gDec_at DX7_weight_0 13 rfl) rfl ?_
  refine g_callSd (w := wM q) hC (c_X7_told q (a := (sPull B x)) (b := (sAll B)) (u := u) (by omega) (by omega) (by omega) (by omega)) sf_X7_told ml_X7_152 (by decide) rfl rfl (Nat.le_of_ble_eq_true rfl) (gDec_at DX7_weight_0 14 rfl) ?_
  refine g_lret hC (gDec_at DX7_weight_0 15 rfl) ?_
  exact ⟨rfl, rfl⟩

set_option maxRecDepth 100000 in
set_option maxHeartbeats 4000000 in
theorem c_X7_strain_out (q : gQ3) {M : gM} {B : gB} (hI : mI M B) {x0 : Int32} (hx0 : ¬ isPl B x0) {x1 : Int32} : gCt (wM q) yX7_strain cX7_strain 3 (some .long) 8 [.ref (q.2.2 0), .int x0, .int x1] M (gR (some (.long (-1))) M) := by
  refine gMet RX7 (by decide +kernel) rfl (Nat.le_of_ble_eq_true rfl) (fun X hC => ?_)
  have hC : gC X (wM q) cX7_strain 3 RX7 (some .long) 8 := hC
  show gG X (wM q) _ 3 M 0 [(0, .ref (q.2.2 0)), (1, .int x0), (2, .int x1)] []
  refine g_aload_n hC (gDec_at DX7_strain_0 0 rfl) rfl ?_
  refine g_iconst hC (gDec_at DX7_strain_0 1 rfl) (v := nI 0) (by decide) ?_
  refine g_putI (w := wM q) hC 0 fl_X7_67 fp_7_0 (show 0 < 17 from by decide) rfl (Nat.le_of_ble_eq_true rfl) rfl rfl (gDec_at DX7_strain_0 2 rfl) ?_
  refine g_M (mi_0 hI) ?_
  refine g_aload_n hC (gDec_at DX7_strain_0 3 rfl) rfl ?_
  refine g_iload_n hC (gDec_at DX7_strain_0 4 rfl) rfl ?_
  refine g_callVd (w := wM q) hC 0 (c_X7_noPlace_out q hI hx0) vf_X7_noPlace ml_X7_108 (by decide) (show 0 < 17 from by decide) rfl rfl rfl rfl rfl (Nat.le_of_ble_eq_true rfl) (gDec_at DX7_strain_0 5 rfl) ?_
  refine g_if_eqN hC (by decide) (gDec_at DX7_strain_0 6 rfl) 17 (by decide) (fun h => absurd h (by decide)) (fun h => ?_)
  refine g_ldc2 hC cl_X7_145 (v' := -1) rfl (gDec_at DX7_strain_0 7 rfl) ?_
  refine g_lret hC (gDec_at DX7_strain_0 8 rfl) ?_
  exact ⟨rfl, rfl⟩

set_option maxRecDepth 100000 in
set_option maxHeartbeats 4000000 in
theorem c_X7_strain_bad (q : gQ3) {M : gM} {B : gB} (hI : mI M B) {j : Nat} (hj : j < 12) (ht : j % 6 < B 9 0) {x1 : Int32} (hx1 : ¬ gin x1 0 40) : gCt (wM q) yX7_strain cX7_strain 3 (some .long) 8 [.ref (q.2.2 0), .int (nI (10 * (j / 6) + j % 6)), .int x1] M (gR (some (.long (-2))) M) := by
  refine gMet RX7 (by decide +kernel) rfl (Nat.le_of_ble_eq_true rfl) (fun X hC => ?_)
  have hC : gC X (wM q) cX7_strain 3 RX7 (some .long) 8 := hC
  show gG X (wM q) _ 3 M 0 [(0, .ref (q.2.2 0)), (1, .int (nI (10 * (j / 6) + j % 6))), (2, .int x1)] []
  refine g_aload_n hC (gDec_at DX7_strain_0 0 rfl) rfl ?_
  refine g_iconst hC (gDec_at DX7_strain_0 1 rfl) (v := nI 0) (by decide) ?_
  refine g_putI (w := wM q) hC 0 fl_X7_67 fp_7_0 (show 0 < 17 from by decide) rfl (Nat.le_of_ble_eq_true rfl) rfl rfl (gDec_at DX7_strain_0 2 rfl) ?_
  refine g_M (mi_0 hI) ?_
  refine g_aload_n hC (gDec_at DX7_strain_0 3 rfl) rfl ?_
  refine g_iload_n hC (gDec_at DX7_strain_0 4 rfl) rfl ?_
  refine g_callVd (w := wM q) hC 0 (c_X7_noPlace_in q hI hj (ht)) vf_X7_noPlace ml_X7_108 (by decide) (show 0 < 17 from by decide) rfl rfl rfl rfl rfl (Nat.le_of_ble_eq_true rfl) (gDec_at DX7_strain_0 5 rfl) ?_
  refine g_if_eqN hC (by decide) (gDec_at DX7_strain_0 6 rfl) 17 (by decide) (fun h => ?_) (fun h => absurd h (by decide))
  refine g_iload_n hC (gDec_at DX7_strain_0 9 rfl) rfl ?_
  refine g_callSd (w := wM q) hC (c_X7_noInches_out q hx1) sf_X7_noInches ml_X7_147 (by decide) rfl rfl (Nat.le_of_ble_eq_true rfl) (gDec_at DX7_strain_0 10 rfl) ?_
  refine g_if_eqN hC (by decide) (gDec_at DX7_strain_0 11 rfl) 30 (by decide) (fun h => absurd h (by decide)) (fun h => ?_)
  refine g_ldc2 hC cl_X7_150 (v' := -2) rfl (gDec_at DX7_strain_0 12 rfl) ?_
  refine g_goto hC (gDec_at DX7_strain_0 13 rfl) 39 (by decide) ?_
  refine g_lret hC (gDec_at DX7_strain_0 19 rfl) ?_
  exact ⟨rfl, rfl⟩

set_option maxRecDepth 100000 in
set_option maxHeartbeats 4000000 in
theorem c_X7_strain_ok (q : gQ3) {M : gM} {B : gB} (hI : mI M B) {j : Nat} (hj : j < 12) (ht : j % 6 < B 9 0) {x : Nat} (hx : x ≤ 40) : gCt (wM q) yX7_strain cX7_strain 3 (some .long) 8 [.ref (q.2.2 0), .int (nI (10 * (j / 6) + j % 6)), .int (nI x)] M (gR (some (.long (lN (sStr B (sPull B x) (sAll B) j)))) M) := by
  refine gMet RX7 (by decide +kernel) rfl (Nat.le_of_ble_eq_true rfl) (fun X hC => ?_)
  have hC : gC X (wM q) cX7_strain 3 RX7 (some .long) 8 := hC
  show gG X (wM q) _ 3 M 0 [(0, .ref (q.2.2 0)), (1, .int (nI (10 * (j / 6) + j % 6))), (2, .int (nI x))] []
  have hpl := sPull_le B hx
  have hal := sAll_le B
  have has := sAll_ps hI.2.2
  refine g_aload_n hC (gDec_at DX7_strain_0 0 rfl) rfl ?_
  refine g_iconst hC (gDec_at DX7_strain_0 1 rfl) (v := nI 0) (by decide) ?_
  refine g_putI (w := wM q) hC 0 fl_X7_67 fp_7_0 (show 0 < 17 from by decide) rfl (Nat.le_of_ble_eq_true rfl) rfl rfl (gDec_at DX7_strain_0 2 rfl) ?_
  refine g_M (mi_0 hI) ?_
  refine g_aload_n hC (gDec_at DX7_strain_0 3 rfl) rfl ?_
  refine g_iload_n hC (gDec_at DX7_strain_0 4 rfl) rfl ?_
  refine g_callVd (w := wM q) hC 0 (c_X7_noPlace_in q hI hj (ht)) vf_X7_noPlace ml_X7_108 (by decide) (show 0 < 17 from by decide) rfl rfl rfl rfl rfl (Nat.le_of_ble_eq_true rfl) (gDec_at DX7_strain_0 5 rfl) ?_
  refine g_if_eqN hC (by decide) (gDec_at DX7_strain_0 6 rfl) 17 (by decide) (fun h => ?_) (fun h => absurd h (by decide))
  refine g_iload_n hC (gDec_at DX7_strain_0 9 rfl) rfl ?_
  refine g_callSd (w := wM q) hC (c_X7_noInches_in q (k := x) (by omega)) sf_X7_noInches ml_X7_147 (by decide) rfl rfl (Nat.le_of_ble_eq_true rfl) (gDec_at DX7_strain_0 10 rfl) ?_
  refine g_if_eqN hC (by decide) (gDec_at DX7_strain_0 11 rfl) 30 (by decide) (fun h => ?_) (fun h => absurd h (by decide))
  refine g_aload_n hC (gDec_at DX7_strain_0 14 rfl) rfl ?_
  refine g_iload_n hC (gDec_at DX7_strain_0 15 rfl) rfl ?_
  refine g_callSd (w := wM q) hC (c_X7_index q hj) sf_X7_index ml_X7_111 (by decide) rfl rfl (Nat.le_of_ble_eq_true rfl) (gDec_at DX7_strain_0 16 rfl) ?_
  refine g_iload_n hC (gDec_at DX7_strain_0 17 rfl) rfl ?_
  refine g_callVd (w := wM q) hC 0 (c_X7_strainOf q hI (j := j) hj ht (x := x) (by omega)) vf_X7_strainOf ml_X7_156 (by decide) (show 0 < 17 from by decide) rfl rfl rfl rfl rfl (Nat.le_of_ble_eq_true rfl) (gDec_at DX7_strain_0 18 rfl) ?_
  refine g_lret hC (gDec_at DX7_strain_0 19 rfl) ?_
  exact ⟨rfl, rfl⟩

set_option maxRecDepth 100000 in
set_option maxHeartbeats 4000000 in
theorem c_X7_hinge_out (q : gQ3) {M : gM} {B : gB} (hI : mI M B) {x0 : Int32} (hx0 : ¬ gin x0 0 40) : gCt (wM q) yX7_hinge cX7_hinge 2 (some .int) 8 [.ref (q.2.2 0), .int x0] M (gR (some (.int (-2))) M) := by
  refine gMet RX7 (by decide +kernel) rfl (Nat.le_of_ble_eq_true rfl) (fun X hC => ?_)
  have hC : gC X (wM q) cX7_hinge 2 RX7 (some .int) 8 := hC
  show gG X (wM q) _ 2 M 0 [(0, .ref (q.2.2 0)), (1, .int x0)] []
  refine g_aload_n hC (gDec_at DX7_hinge_0 0 rfl) rfl ?_
  refine g_iconst hC (gDec_at DX7_hinge_0 1 rfl) (v := nI 0) (by decide) ?_
  refine g_putI (w := wM q) hC 0 fl_X7_67 fp_7_0 (show 0 < 17 from by decide) rfl (Nat.le_of_ble_eq_true rfl) rfl rfl (gDec_at DX7_hinge_0 2 rfl) ?_
  refine g_M (mi_0 hI) ?_
  refine g_iload_n hC (gDec_at DX7_hinge_0 3 rfl) rfl ?_
  refine g_callSd (w := wM q) hC (c_X7_noInches_out q hx0) sf_X7_noInches ml_X7_147 (by decide) rfl rfl (Nat.le_of_ble_eq_true rfl) (gDec_at DX7_hinge_0 4 rfl) ?_
  refine g_if_eqN hC (by decide) (gDec_at DX7_hinge_0 5 rfl) 17 (by decide) (fun h => absurd h (by decide)) (fun h => ?_)
  refine g_bipush hC (gDec_at DX7_hinge_0 6 rfl) (v := -2) (by decide) ?_
  refine g_goto hC (gDec_at DX7_hinge_0 7 rfl) 26 (by decide) ?_
  refine g_iret hC (gDec_at DX7_hinge_0 13 rfl) ?_
  exact ⟨rfl, rfl⟩

set_option maxRecDepth 100000 in
set_option maxHeartbeats 4000000 in
theorem c_X7_hinge_ok (q : gQ3) {M : gM} {B : gB} (hI : mI M B) {x : Nat} (hx : x ≤ 40) : gCt (wM q) yX7_hinge cX7_hinge 2 (some .int) 8 [.ref (q.2.2 0), .int (nI x)] M (gR (some (.int (nI (sTold (sExt B (sStr B (sPull B x) (sAll B)) 1 12))))) M) := by
  refine gMet RX7 (by decide +kernel) rfl (Nat.le_of_ble_eq_true rfl) (fun X hC => ?_)
  have hC : gC X (wM q) cX7_hinge 2 RX7 (some .int) 8 := hC
  show gG X (wM q) _ 2 M 0 [(0, .ref (q.2.2 0)), (1, .int (nI x))] []
  have hm := bv_many hI.2.2
  have hpl := sPull_le B hx
  have hst := fun j => sStr_le B j (gives := sAll B) hpl
  have hs1 := hst (sExt B (sStr B (sPull B x) (sAll B)) 1 12)
  have hs0 := hst (sExt B (sStr B (sPull B x) (sAll B)) 0 12)
  have hl1 := sExt_lt (B := B) (f := (sStr B (sPull B x) (sAll B))) (g := 1) hm.1 12 (by omega)
  have hl0 := sExt_lt (B := B) (f := (sStr B (sPull B x) (sAll B))) (g := 0) hm.1 12 (by omega)
  refine g_aload_n hC (gDec_at DX7_hinge_0 0 rfl) rfl ?_
  refine g_iconst hC (gDec_at DX7_hinge_0 1 rfl) (v := nI 0) (by decide) ?_
  refine g_putI (w := wM q) hC 0 fl_X7_67 fp_7_0 (show 0 < 17 from by decide) rfl (Nat.le_of_ble_eq_true rfl) rfl rfl (gDec_at DX7_hinge_0 2 rfl) ?_
  refine g_M (mi_0 hI) ?_
  refine g_iload_n hC (gDec_at DX7_hinge_0 3 rfl) rfl ?_
  refine g_callSd (w := wM q) hC (c_X7_noInches_in q (k := x) (by omega)) sf_X7_noInches ml_X7_147 (by decide) rfl rfl (Nat.le_of_ble_eq_true rfl) (gDec_at DX7_hinge_0 4 rfl) ?_
  refine g_if_eqN hC (by decide) (gDec_at DX7_hinge_0 5 rfl) 17 (by decide) (fun h => ?_) (fun h => absurd h (by decide))
  refine g_aload_n hC (gDec_at DX7_hinge_0 8 rfl) rfl ?_
  refine g_iload_n hC (gDec_at DX7_hinge_0 9 rfl) rfl ?_
  refine g_iconst hC (gDec_at DX7_hinge_0 10 rfl) (v := nI 1) (by decide) ?_
  refine g_callVd (w := wM q) hC 0 (c_X7_extreme q hI (x := x) (g := 1) (by omega) (by omega)) vf_X7_extreme ml_X7_170 (by decide) (show 0 < 17 from by decide) rfl rfl rfl rfl rfl (Nat.le_of_ble_eq_true rfl) (gDec_at DX7_hinge_0 11 rfl) ?_
  refine g_callSd (w := wM q) hC (c_X7_code q (i := (sExt B (sStr B (sPull B x) (sAll B)) 1 12)) (by omega)) sf_X7_code ml_X7_165 (by decide) rfl rfl (Nat.le_of_ble_eq_true rfl) (gDec_at DX7_hinge_0 12 rfl) ?_
  refine g_iret hC (gDec_at DX7_hinge_0 13 rfl) ?_
  exact ⟨rfl, rfl⟩

set_option maxRecDepth 100000 in
set_option maxHeartbeats 4000000 in
theorem c_X7_stiff_out (q : gQ3) {M : gM} {B : gB} (hI : mI M B) {x0 : Int32} (hx0 : ¬ gin x0 0 40) : gCt (wM q) yX7_stiff cX7_stiff 2 (some .int) 8 [.ref (q.2.2 0), .int x0] M (gR (some (.int (-2))) M) := by
  refine gMet RX7 (by decide +kernel) rfl (Nat.le_of_ble_eq_true rfl) (fun X hC => ?_)
  have hC : gC X (wM q) cX7_stiff 2 RX7 (some .int) 8 := hC
  show gG X (wM q) _ 2 M 0 [(0, .ref (q.2.2 0)), (1, .int x0)] []
  refine g_aload_n hC (gDec_at DX7_stiff_0 0 rfl) rfl ?_
  refine g_iconst hC (gDec_at DX7_stiff_0 1 rfl) (v := nI 0) (by decide) ?_
  refine g_putI (w := wM q) hC 0 fl_X7_67 fp_7_0 (show 0 < 17 from by decide) rfl (Nat.le_of_ble_eq_true rfl) rfl rfl (gDec_at DX7_stiff_0 2 rfl) ?_
  refine g_M (mi_0 hI) ?_
  refine g_iload_n hC (gDec_at DX7_stiff_0 3 rfl) rfl ?_
  refine g_callSd (w := wM q) hC (c_X7_noInches_out q hx0) sf_X7_noInches ml_X7_147 (by decide) rfl rfl (Nat.le_of_ble_eq_true rfl) (gDec_at DX7_stiff_0 4 rfl) ?_
  refine g_if_eqN hC (by decide) (gDec_at DX7_stiff_0 5 rfl) 17 (by decide) (fun h => absurd h (by decide)) (fun h => ?_)
  refine g_bipush hC (gDec_at DX7_stiff_0 6 rfl) (v := -2) (by decide) ?_
  refine g_goto hC (gDec_at DX7_stiff_0 7 rfl) 26 (by decide) ?_
  refine g_iret hC (gDec_at DX7_stiff_0 13 rfl) ?_
  exact ⟨rfl, rfl⟩

set_option maxRecDepth 100000 in
set_option maxHeartbeats 4000000 in
theorem c_X7_stiff_ok (q : gQ3) {M : gM} {B : gB} (hI : mI M B) {x : Nat} (hx : x ≤ 40) : gCt (wM q) yX7_stiff cX7_stiff 2 (some .int) 8 [.ref (q.2.2 0), .int (nI x)] M (gR (some (.int (nI (sTold (sExt B (sStr B (sPull B x) (sAll B)) 0 12))))) M) := by
  refine gMet RX7 (by decide +kernel) rfl (Nat.le_of_ble_eq_true rfl) (fun X hC => ?_)
  have hC : gC X (wM q) cX7_stiff 2 RX7 (some .int) 8 := hC
  show gG X (wM q) _ 2 M 0 [(0, .ref (q.2.2 0)), (1, .int (nI x))] []
  have hm := bv_many hI.2.2
  have hpl := sPull_le B hx
  have hst := fun j => sStr_le B j (gives := sAll B) hpl
  have hs1 := hst (sExt B (sStr B (sPull B x) (sAll B)) 1 12)
  have hs0 := hst (sExt B (sStr B (sPull B x) (sAll B)) 0 12)
  have hl1 := sExt_lt (B := B) (f := (sStr B (sPull B x) (sAll B))) (g := 1) hm.1 12 (by omega)
  have hl0 := sExt_lt (B := B) (f := (sStr B (sPull B x) (sAll B))) (g := 0) hm.1 12 (by omega)
  refine g_aload_n hC (gDec_at DX7_stiff_0 0 rfl) rfl ?_
  refine g_iconst hC (gDec_at DX7_stiff_0 1 rfl) (v := nI 0) (by decide) ?_
  refine g_putI (w := wM q) hC 0 fl_X7_67 fp_7_0 (show 0 < 17 from by decide) rfl (Nat.le_of_ble_eq_true rfl) rfl rfl (gDec_at DX7_stiff_0 2 rfl) ?_
  refine g_M (mi_0 hI) ?_
  refine g_iload_n hC (gDec_at DX7_stiff_0 3 rfl) rfl ?_
  refine g_callSd (w := wM q) hC (c_X7_noInches_in q (k := x) (by omega)) sf_X7_noInches ml_X7_147 (by decide) rfl rfl (Nat.le_of_ble_eq_true rfl) (gDec_at DX7_stiff_0 4 rfl) ?_
  refine g_if_eqN hC (by decide) (gDec_at DX7_stiff_0 5 rfl) 17 (by decide) (fun h => ?_) (fun h => absurd h (by decide))
  refine g_aload_n hC (gDec_at DX7_stiff_0 8 rfl) rfl ?_
  refine g_iload_n hC (gDec_at DX7_stiff_0 9 rfl) rfl ?_
  refine g_iconst hC (gDec_at DX7_stiff_0 10 rfl) (v := nI 0) (by decide) ?_
  refine g_callVd (w := wM q) hC 0 (c_X7_extreme q hI (x := x) (g := 0) (by omega) (by omega)) vf_X7_extreme ml_X7_170 (by decide) (show 0 < 17 from by decide) rfl rfl rfl rfl rfl (Nat.le_of_ble_eq_true rfl) (gDec_at DX7_stiff_0 11 rfl) ?_
  refine g_callSd (w := wM q) hC (c_X7_code q (i := (sExt B (sStr B (sPull B x) (sAll B)) 0 12)) (by omega)) sf_X7_code ml_X7_165 (by decide) rfl rfl (Nat.le_of_ble_eq_true rfl) (gDec_at DX7_stiff_0 12 rfl) ?_
  refine g_iret hC (gDec_at DX7_stiff_0 13 rfl) ?_
  exact ⟨rfl, rfl⟩

set_option maxRecDepth 100000 in
set_option maxHeartbeats 4000000 in
theorem c_X7_even_out (q : gQ3) {M : gM} {B : gB} (hI : mI M B) {x0 : Int32} (hx0 : ¬ gin x0 0 40) : gCt (wM q) yX7_even cX7_even 2 (some .int) 8 [.ref (q.2.2 0), .int x0] M (gR (some (.int (-2))) M) := by
  refine gMet RX7 (by decide +kernel) rfl (Nat.le_of_ble_eq_true rfl) (fun X hC => ?_)
  have hC : gC X (wM q) cX7_even 2 RX7 (some .int) 8 := hC
  show gG X (wM q) _ 2 M 0 [(0, .ref (q.2.2 0)), (1, .int x0)] []
  refine g_aload_n hC (gDec_at DX7_even_0 0 rfl) rfl ?_
  refine g_iconst hC (gDec_at DX7_even_0 1 rfl) (v := nI 0) (by decide) ?_
  refine g_putI (w := wM q) hC 0 fl_X7_67 fp_7_0 (show 0 < 17 from by decide) rfl (Nat.le_of_ble_eq_true rfl) rfl rfl (gDec_at DX7_even_0 2 rfl) ?_
  refine g_M (mi_0 hI) ?_
  refine g_iload_n hC (gDec_at DX7_even_0 3 rfl) rfl ?_
  refine g_callSd (w := wM q) hC (c_X7_noInches_out q hx0) sf_X7_noInches ml_X7_147 (by decide) rfl rfl (Nat.le_of_ble_eq_true rfl) (gDec_at DX7_even_0 4 rfl) ?_
  refine g_if_eqN hC (by decide) (gDec_at DX7_even_0 5 rfl) 17 (by decide) (fun h => absurd h (by decide)) (fun h => ?_)
  refine g_bipush hC (gDec_at DX7_even_0 6 rfl) (v := -2) (by decide) ?_
  refine g_goto hC (gDec_at DX7_even_0 7 rfl) 22 (by decide) ?_
  refine g_iret hC (gDec_at DX7_even_0 11 rfl) ?_
  exact ⟨rfl, rfl⟩

set_option maxRecDepth 100000 in
set_option maxHeartbeats 4000000 in
theorem c_X7_even_ok (q : gQ3) {M : gM} {B : gB} (hI : mI M B) {x : Nat} (hx : x ≤ 40) : gCt (wM q) yX7_even cX7_even 2 (some .int) 8 [.ref (q.2.2 0), .int (nI x)] M (gR (some (.int (nI (sEvn B (sPull B x) (sAll B))))) M) := by
  refine gMet RX7 (by decide +kernel) rfl (Nat.le_of_ble_eq_true rfl) (fun X hC => ?_)
  have hC : gC X (wM q) cX7_even 2 RX7 (some .int) 8 := hC
  show gG X (wM q) _ 2 M 0 [(0, .ref (q.2.2 0)), (1, .int (nI x))] []
  refine g_aload_n hC (gDec_at DX7_even_0 0 rfl) rfl ?_
  refine g_iconst hC (gDec_at DX7_even_0 1 rfl) (v := nI 0) (by decide) ?_
  refine g_putI (w := wM q) hC 0 fl_X7_67 fp_7_0 (show 0 < 17 from by decide) rfl (Nat.le_of_ble_eq_true rfl) rfl rfl (gDec_at DX7_even_0 2 rfl) ?_
  refine g_M (mi_0 hI) ?_
  refine g_iload_n hC (gDec_at DX7_even_0 3 rfl) rfl ?_
  refine g_callSd (w := wM q) hC (c_X7_noInches_in q (k := x) (by omega)) sf_X7_noInches ml_X7_147 (by decide) rfl rfl (Nat.le_of_ble_eq_true rfl) (gDec_at DX7_even_0 4 rfl) ?_
  refine g_if_eqN hC (by decide) (gDec_at DX7_even_0 5 rfl) 17 (by decide) (fun h => ?_) (fun h => absurd h (by decide))
  refine g_aload_n hC (gDec_at DX7_even_0 8 rfl) rfl ?_
  refine g_iload_n hC (gDec_at DX7_even_0 9 rfl) rfl ?_
  refine g_callVd (w := wM q) hC 0 (c_X7_evenOf q hI (x := x) (by omega)) vf_X7_evenOf ml_X7_174 (by decide) (show 0 < 17 from by decide) rfl rfl rfl rfl rfl (Nat.le_of_ble_eq_true rfl) (gDec_at DX7_even_0 10 rfl) ?_
  refine g_iret hC (gDec_at DX7_even_0 11 rfl) ?_
  exact ⟨rfl, rfl⟩

set_option maxRecDepth 100000 in
set_option maxHeartbeats 4000000 in
theorem c_X7_form_out (q : gQ3) {M : gM} {B : gB} (hI : mI M B) {x0 : Int32} (hx0 : ¬ isPl B x0) {f s : Int32} : gCt (wM q) yX7_form cX7_form 4 (some .int) 8 [.ref (q.2.2 0), .int x0, .int f, .int s] M (gR (some (.int (-1))) M) := by
  refine gMet RX7 (by decide +kernel) rfl (Nat.le_of_ble_eq_true rfl) (fun X hC => ?_)
  have hC : gC X (wM q) cX7_form 4 RX7 (some .int) 8 := hC
  show gG X (wM q) _ 4 M 0 [(0, .ref (q.2.2 0)), (1, .int x0), (2, .int f), (3, .int s)] []
  refine g_aload_n hC (gDec_at DX7_form_0 0 rfl) rfl ?_
  refine g_iconst hC (gDec_at DX7_form_0 1 rfl) (v := nI 0) (by decide) ?_
  refine g_putI (w := wM q) hC 0 fl_X7_67 fp_7_0 (show 0 < 17 from by decide) rfl (Nat.le_of_ble_eq_true rfl) rfl rfl (gDec_at DX7_form_0 2 rfl) ?_
  refine g_M (mi_0 hI) ?_
  refine g_aload_n hC (gDec_at DX7_form_0 3 rfl) rfl ?_
  refine g_iload_n hC (gDec_at DX7_form_0 4 rfl) rfl ?_
  refine g_callVd (w := wM q) hC 0 (c_X7_noPlace_out q hI hx0) vf_X7_noPlace ml_X7_108 (by decide) (show 0 < 17 from by decide) rfl rfl rfl rfl rfl (Nat.le_of_ble_eq_true rfl) (gDec_at DX7_form_0 5 rfl) ?_
  refine g_if_eqN hC (by decide) (gDec_at DX7_form_0 6 rfl) 15 (by decide) (fun h => absurd h (by decide)) (fun h => ?_)
  refine g_iconst hC (gDec_at DX7_form_0 7 rfl) (v := -1) (by decide) ?_
  refine g_iret hC (gDec_at DX7_form_0 8 rfl) ?_
  exact ⟨rfl, rfl⟩

set_option maxRecDepth 100000 in
set_option maxHeartbeats 4000000 in
theorem c_X7_form_badf (q : gQ3) {M : gM} {B : gB} (hI : mI M B) {j : Nat} (hj : j < 12) (ht : j % 6 < B 9 0) {f : Int32} (hf : ¬ gin f 1 999) {s : Int32} : gCt (wM q) yX7_form cX7_form 4 (some .int) 8 [.ref (q.2.2 0), .int (nI (10 * (j / 6) + j % 6)), .int f, .int s] M (gR (some (.int (-2))) M) := by
  refine gMet RX7 (by decide +kernel) rfl (Nat.le_of_ble_eq_true rfl) (fun X hC => ?_)
  have hC : gC X (wM q) cX7_form 4 RX7 (some .int) 8 := hC
  show gG X (wM q) _ 4 M 0 [(0, .ref (q.2.2 0)), (1, .int (nI (10 * (j / 6) + j % 6))), (2, .int f), (3, .int s)] []
  refine g_aload_n hC (gDec_at DX7_form_0 0 rfl) rfl ?_
  refine g_iconst hC (gDec_at DX7_form_0 1 rfl) (v := nI 0) (by decide) ?_
  refine g_putI (w := wM q) hC 0 fl_X7_67 fp_7_0 (show 0 < 17 from by decide) rfl (Nat.le_of_ble_eq_true rfl) rfl rfl (gDec_at DX7_form_0 2 rfl) ?_
  refine g_M (mi_0 hI) ?_
  refine g_aload_n hC (gDec_at DX7_form_0 3 rfl) rfl ?_
  refine g_iload_n hC (gDec_at DX7_form_0 4 rfl) rfl ?_
  refine g_callVd (w := wM q) hC 0 (c_X7_noPlace_in q hI hj (ht)) vf_X7_noPlace ml_X7_108 (by decide) (show 0 < 17 from by decide) rfl rfl rfl rfl rfl (Nat.le_of_ble_eq_true rfl) (gDec_at DX7_form_0 5 rfl) ?_
  refine g_if_eqN hC (by decide) (gDec_at DX7_form_0 6 rfl) 15 (by decide) (fun h => ?_) (fun h => absurd h (by decide))
  refine g_iload_n hC (gDec_at DX7_form_0 9 rfl) rfl ?_
  refine g_iload_n hC (gDec_at DX7_form_0 10 rfl) rfl ?_
  refine g_callSd (w := wM q) hC (c_X7_noForm_0 q hf) sf_X7_noForm ml_X7_206 (by decide) rfl rfl (Nat.le_of_ble_eq_true rfl) (gDec_at DX7_form_0 11 rfl) ?_
  refine g_if_eqN hC (by decide) (gDec_at DX7_form_0 12 rfl) 28 (by decide) (fun h => absurd h (by decide)) (fun h => ?_)
  refine g_bipush hC (gDec_at DX7_form_0 13 rfl) (v := -2) (by decide) ?_
  refine g_goto hC (gDec_at DX7_form_0 14 rfl) 38 (by decide) ?_
  refine g_iret hC (gDec_at DX7_form_0 21 rfl) ?_
  exact ⟨rfl, rfl⟩

set_option maxRecDepth 100000 in
set_option maxHeartbeats 4000000 in
theorem c_X7_form_bads (q : gQ3) {M : gM} {B : gB} (hI : mI M B) {j : Nat} (hj : j < 12) (ht : j % 6 < B 9 0) {f : Nat} (hfa : 1 ≤ f) (hfb : f ≤ 999) {s : Int32} (hs : ¬ gin s 1 99) : gCt (wM q) yX7_form cX7_form 4 (some .int) 8 [.ref (q.2.2 0), .int (nI (10 * (j / 6) + j % 6)), .int (nI f), .int s] M (gR (some (.int (-2))) M) := by
  refine gMet RX7 (by decide +kernel) rfl (Nat.le_of_ble_eq_true rfl) (fun X hC => ?_)
  have hC : gC X (wM q) cX7_form 4 RX7 (some .int) 8 := hC
  show gG X (wM q) _ 4 M 0 [(0, .ref (q.2.2 0)), (1, .int (nI (10 * (j / 6) + j % 6))), (2, .int (nI f)), (3, .int s)] []
  refine g_aload_n hC (gDec_at DX7_form_0 0 rfl) rfl ?_
  refine g_iconst hC (gDec_at DX7_form_0 1 rfl) (v := nI 0) (by decide) ?_
  refine g_putI (w := wM q) hC 0 fl_X7_67 fp_7_0 (show 0 < 17 from by decide) rfl (Nat.le_of_ble_eq_true rfl) rfl rfl (gDec_at DX7_form_0 2 rfl) ?_
  refine g_M (mi_0 hI) ?_
  refine g_aload_n hC (gDec_at DX7_form_0 3 rfl) rfl ?_
  refine g_iload_n hC (gDec_at DX7_form_0 4 rfl) rfl ?_
  refine g_callVd (w := wM q) hC 0 (c_X7_noPlace_in q hI hj (ht)) vf_X7_noPlace ml_X7_108 (by decide) (show 0 < 17 from by decide) rfl rfl rfl rfl rfl (Nat.le_of_ble_eq_true rfl) (gDec_at DX7_form_0 5 rfl) ?_
  refine g_if_eqN hC (by decide) (gDec_at DX7_form_0 6 rfl) 15 (by decide) (fun h => ?_) (fun h => absurd h (by decide))
  refine g_iload_n hC (gDec_at DX7_form_0 9 rfl) rfl ?_
  refine g_iload_n hC (gDec_at DX7_form_0 10 rfl) rfl ?_
  refine g_callSd (w := wM q) hC (c_X7_noForm_1 q (by omega) (by omega) hs) sf_X7_noForm ml_X7_206 (by decide) rfl rfl (Nat.le_of_ble_eq_true rfl) (gDec_at DX7_form_0 11 rfl) ?_
  refine g_if_eqN hC (by decide) (gDec_at DX7_form_0 12 rfl) 28 (by decide) (fun h => absurd h (by decide)) (fun h => ?_)
  refine g_bipush hC (gDec_at DX7_form_0 13 rfl) (v := -2) (by decide) ?_
  refine g_goto hC (gDec_at DX7_form_0 14 rfl) 38 (by decide) ?_
  refine g_iret hC (gDec_at DX7_form_0 21 rfl) ?_
  exact ⟨rfl, rfl⟩

set_option maxRecDepth 100000 in
set_option maxHeartbeats 4000000 in
theorem c_X7_form_ok (q : gQ3) {M : gM} {B : gB} (hI : mI M B) {j : Nat} (hj : j < 12) (ht : j % 6 < B 9 0) {f : Nat} (hfa : 1 ≤ f) (hfb : f ≤ 999) {s : Nat} (hsa : 1 ≤ s) (hsb : s ≤ 99) : gCt (wM q) yX7_form cX7_form 4 (some .int) 8 [.ref (q.2.2 0), .int (nI (10 * (j / 6) + j % 6)), .int (nI f), .int (nI s)] M (gR (some (.int (fk (sForm B j f s)))) M) := by
  refine gMet RX7 (by decide +kernel) rfl (Nat.le_of_ble_eq_true rfl) (fun X hC => ?_)
  have hC : gC X (wM q) cX7_form 4 RX7 (some .int) 8 := hC
  show gG X (wM q) _ 4 M 0 [(0, .ref (q.2.2 0)), (1, .int (nI (10 * (j / 6) + j % 6))), (2, .int (nI f)), (3, .int (nI s))] []
  refine g_aload_n hC (gDec_at DX7_form_0 0 rfl) rfl ?_
  refine g_iconst hC (gDec_at DX7_form_0 1 rfl) (v := nI 0) (by decide) ?_
  refine g_putI (w := wM q) hC 0 fl_X7_67 fp_7_0 (show 0 < 17 from by decide) rfl (Nat.le_of_ble_eq_true rfl) rfl rfl (gDec_at DX7_form_0 2 rfl) ?_
  refine g_M (mi_0 hI) ?_
  refine g_aload_n hC (gDec_at DX7_form_0 3 rfl) rfl ?_
  refine g_iload_n hC (gDec_at DX7_form_0 4 rfl) rfl ?_
  refine g_callVd (w := wM q) hC 0 (c_X7_noPlace_in q hI hj (ht)) vf_X7_noPlace ml_X7_108 (by decide) (show 0 < 17 from by decide) rfl rfl rfl rfl rfl (Nat.le_of_ble_eq_true rfl) (gDec_at DX7_form_0 5 rfl) ?_
  refine g_if_eqN hC (by decide) (gDec_at DX7_form_0 6 rfl) 15 (by decide) (fun h => ?_) (fun h => absurd h (by decide))
  refine g_iload_n hC (gDec_at DX7_form_0 9 rfl) rfl ?_
  refine g_iload_n hC (gDec_at DX7_form_0 10 rfl) rfl ?_
  refine g_callSd (w := wM q) hC (c_X7_noForm_2 q (by omega) (by omega) (by omega) (by omega)) sf_X7_noForm ml_X7_206 (by decide) rfl rfl (Nat.le_of_ble_eq_true rfl) (gDec_at DX7_form_0 11 rfl) ?_
  refine g_if_eqN hC (by decide) (gDec_at DX7_form_0 12 rfl) 28 (by decide) (fun h => ?_) (fun h => absurd h (by decide))
  refine g_aload_n hC (gDec_at DX7_form_0 15 rfl) rfl ?_
  refine g_iload_n hC (gDec_at DX7_form_0 16 rfl) rfl ?_
  refine g_callSd (w := wM q) hC (c_X7_index q hj) sf_X7_index ml_X7_111 (by decide) rfl rfl (Nat.le_of_ble_eq_true rfl) (gDec_at DX7_form_0 17 rfl) ?_
  refine g_iload_n hC (gDec_at DX7_form_0 18 rfl) rfl ?_
  refine g_iload_n hC (gDec_at DX7_form_0 19 rfl) rfl ?_
  refine g_callVd (w := wM q) hC 0 (c_X7_formOf q hI (j := j) hj ht (f := f) (s := s) (by omega) (by omega)) vf_X7_formOf ml_X7_209 (by decide) (show 0 < 17 from by decide) rfl rfl rfl rfl rfl (Nat.le_of_ble_eq_true rfl) (gDec_at DX7_form_0 20 rfl) ?_
  refine g_iret hC (gDec_at DX7_form_0 21 rfl) ?_
  exact ⟨rfl, rfl⟩

set_option maxRecDepth 100000 in
set_option maxHeartbeats 4000000 in
theorem c_X7_pace_badm (q : gQ3) {M : gM} {B : gB} (hI : mI M B) {m : Int32} (hm : ¬ gin m 1 99) {x0 : Int32} {u : Nat} (hu : u ≤ 1) : gCt (wM q) yX7_pace cX7_pace 6 (some .long) 8 [.ref (q.2.2 0), .int m, .int x0, .int (nI u)] M (gR (some (.long (-2))) M) := by
  refine gMet RX7 (by decide +kernel) rfl (Nat.le_of_ble_eq_true rfl) (fun X hC => ?_)
  have hC : gC X (wM q) cX7_pace 6 RX7 (some .long) 8 := hC
  show gG X (wM q) _ 6 M 0 [(0, .ref (q.2.2 0)), (1, .int m), (2, .int x0), (3, .int (nI u))] []
  refine g_aload_n hC (gDec_at DX7_pace_0 0 rfl) rfl ?_
  refine g_iconst hC (gDec_at DX7_pace_0 1 rfl) (v := nI 0) (by decide) ?_
  refine g_putI (w := wM q) hC 0 fl_X7_67 fp_7_0 (show 0 < 17 from by decide) rfl (Nat.le_of_ble_eq_true rfl) rfl rfl (gDec_at DX7_pace_0 2 rfl) ?_
  refine g_M (mi_0 hI) ?_
  refine g_iload_n hC (gDec_at DX7_pace_0 3 rfl) rfl ?_
  refine g_i2l hC (gDec_at DX7_pace_0 4 rfl) rfl ?_
  refine g_lconst hC (gDec_at DX7_pace_0 5 rfl) (v := lN 1) (by decide) ?_
  refine g_ldc2 hC cl_X7_106 (v' := lN 99) (by decide) (gDec_at DX7_pace_0 6 rfl) ?_
  refine g_callSd (w := wM q) hC (c_X7_in_no q (by omega) (by omega) hm) sf_X7_in ml_X7_72 (by decide) rfl rfl (Nat.le_of_ble_eq_true rfl) (gDec_at DX7_pace_0 7 rfl) ?_
  refine g_if_eqN hC (by decide) (gDec_at DX7_pace_0 8 rfl) 24 (by decide) (fun h => ?_) (fun h => absurd h (by decide))
  refine g_ldc2 hC cl_X7_150 (v' := -2) rfl (gDec_at DX7_pace_0 12 rfl) ?_
  refine g_lret hC (gDec_at DX7_pace_0 13 rfl) ?_
  exact ⟨rfl, rfl⟩

set_option maxRecDepth 100000 in
set_option maxHeartbeats 4000000 in
theorem c_X7_pace_badx (q : gQ3) {M : gM} {B : gB} (hI : mI M B) {m : Nat} (hma : 1 ≤ m) (hmb : m ≤ 99) {x0 : Int32} (hx0 : ¬ gin x0 0 40) {u : Nat} (hu : u ≤ 1) : gCt (wM q) yX7_pace cX7_pace 6 (some .long) 8 [.ref (q.2.2 0), .int (nI m), .int x0, .int (nI u)] M (gR (some (.long (-2))) M) := by
  refine gMet RX7 (by decide +kernel) rfl (Nat.le_of_ble_eq_true rfl) (fun X hC => ?_)
  have hC : gC X (wM q) cX7_pace 6 RX7 (some .long) 8 := hC
  show gG X (wM q) _ 6 M 0 [(0, .ref (q.2.2 0)), (1, .int (nI m)), (2, .int x0), (3, .int (nI u))] []
  refine g_aload_n hC (gDec_at DX7_pace_0 0 rfl) rfl ?_
  refine g_iconst hC (gDec_at DX7_pace_0 1 rfl) (v := nI 0) (by decide) ?_
  refine g_putI (w := wM q) hC 0 fl_X7_67 fp_7_0 (show 0 < 17 from by decide) rfl (Nat.le_of_ble_eq_true rfl) rfl rfl (gDec_at DX7_pace_0 2 rfl) ?_
  refine g_M (mi_0 hI) ?_
  refine g_iload_n hC (gDec_at DX7_pace_0 3 rfl) rfl ?_
  refine g_i2lN hC (by omega) (gDec_at DX7_pace_0 4 rfl) ?_
  refine g_lconst hC (gDec_at DX7_pace_0 5 rfl) (v := lN 1) (by decide) ?_
  refine g_ldc2 hC cl_X7_106 (v' := lN 99) (by decide) (gDec_at DX7_pace_0 6 rfl) ?_
  refine g_callSd (w := wM q) hC (c_X7_in_yes q (v := m) (a := 1) (b := 99) (by omega) (by omega) (by omega)) sf_X7_in ml_X7_72 (by decide) rfl rfl (Nat.le_of_ble_eq_true rfl) (gDec_at DX7_pace_0 7 rfl) ?_
  refine g_if_eqN hC (by decide) (gDec_at DX7_pace_0 8 rfl) 24 (by decide) (fun h => absurd h (by decide)) (fun h => ?_)
  refine g_iload_n hC (gDec_at DX7_pace_0 9 rfl) rfl ?_
  refine g_callSd (w := wM q) hC (c_X7_noInches_out q hx0) sf_X7_noInches ml_X7_147 (by decide) rfl rfl (Nat.le_of_ble_eq_true rfl) (gDec_at DX7_pace_0 10 rfl) ?_
  refine g_if_eqN hC (by decide) (gDec_at DX7_pace_0 11 rfl) 28 (by decide) (fun h => absurd h (by decide)) (fun h => ?_)
  refine g_ldc2 hC cl_X7_150 (v' := -2) rfl (gDec_at DX7_pace_0 12 rfl) ?_
  refine g_lret hC (gDec_at DX7_pace_0 13 rfl) ?_
  exact ⟨rfl, rfl⟩

set_option maxRecDepth 100000 in
set_option maxHeartbeats 4000000 in
theorem c_X7_pace_ok (q : gQ3) {M : gM} {B : gB} (hI : mI M B) {m : Nat} (hma : 1 ≤ m) (hmb : m ≤ 99) {x : Nat} (hx : x ≤ 40) {u : Nat} (hu : u ≤ 1) : gCt (wM q) yX7_pace cX7_pace 6 (some .long) 8 [.ref (q.2.2 0), .int (nI m), .int (nI x), .int (nI u)] M (gR (some (.long (lN (sTo (sPull B x * x) (sAll B * (m + sLd B / 100)) u)))) M) := by
  refine gMet RX7 (by decide +kernel) rfl (Nat.le_of_ble_eq_true rfl) (fun X hC => ?_)
  have hC : gC X (wM q) cX7_pace 6 RX7 (some .long) 8 := hC
  show gG X (wM q) _ 6 M 0 [(0, .ref (q.2.2 0)), (1, .int (nI m)), (2, .int (nI x)), (3, .int (nI u))] []
  have hpl := sPull_le B hx
  have hal := sAll_le B
  have has := sAll_ps hI.2.2
  have hmm := bv_many hI.2.2
  have hld := sLd_le hI.2.2
  have hpx := mul_bd hpl hx
  have haq := mul_bd hal (show m + sLd B / 100 ≤ 400 by omega)
  have haqp := mul_ps has (show 0 < m + sLd B / 100 by omega)
  refine g_aload_n hC (gDec_at DX7_pace_0 0 rfl) rfl ?_
  refine g_iconst hC (gDec_at DX7_pace_0 1 rfl) (v := nI 0) (by decide) ?_
  refine g_putI (w := wM q) hC 0 fl_X7_67 fp_7_0 (show 0 < 17 from by decide) rfl (Nat.le_of_ble_eq_true rfl) rfl rfl (gDec_at DX7_pace_0 2 rfl) ?_
  refine g_M (mi_0 hI) ?_
  refine g_iload_n hC (gDec_at DX7_pace_0 3 rfl) rfl ?_
  refine g_i2lN hC (by omega) (gDec_at DX7_pace_0 4 rfl) ?_
  refine g_lconst hC (gDec_at DX7_pace_0 5 rfl) (v := lN 1) (by decide) ?_
  refine g_ldc2 hC cl_X7_106 (v' := lN 99) (by decide) (gDec_at DX7_pace_0 6 rfl) ?_
  refine g_callSd (w := wM q) hC (c_X7_in_yes q (v := m) (a := 1) (b := 99) (by omega) (by omega) (by omega)) sf_X7_in ml_X7_72 (by decide) rfl rfl (Nat.le_of_ble_eq_true rfl) (gDec_at DX7_pace_0 7 rfl) ?_
  refine g_if_eqN hC (by decide) (gDec_at DX7_pace_0 8 rfl) 24 (by decide) (fun h => absurd h (by decide)) (fun h => ?_)
  refine g_iload_n hC (gDec_at DX7_pace_0 9 rfl) rfl ?_
  refine g_callSd (w := wM q) hC (c_X7_noInches_in q (k := x) (by omega)) sf_X7_noInches ml_X7_147 (by decide) rfl rfl (Nat.le_of_ble_eq_true rfl) (gDec_at DX7_pace_0 10 rfl) ?_
  refine g_if_eqN hC (by decide) (gDec_at DX7_pace_0 11 rfl) 28 (by decide) (fun h => ?_) (fun h => absurd h (by decide))
  refine g_iconst hC (gDec_at DX7_pace_0 14 rfl) (v := nI 0) (by decide) ?_
  refine g_istore hC (gDec_at DX7_pace_0 15 rfl) (by decide) (L' := [(4, .int (nI 0)), (0, .ref (q.2.2 0)), (1, .int (nI m)), (2, .int (nI x)), (3, .int (nI u))]) rfl ?_
  refine g_iconst hC (gDec_at DX7_pace_0 16 rfl) (v := nI 0) (by decide) ?_
  refine g_istore hC (gDec_at DX7_pace_0 17 rfl) (by decide) (L' := [(5, .int (nI 0)), (4, .int (nI 0)), (0, .ref (q.2.2 0)), (1, .int (nI m)), (2, .int (nI x)), (3, .int (nI u))]) rfl ?_
  have loop34 : ∀ (fu i : Nat), i ≤ 12 → 12 - i < fu → gG X (wM q) (gR (some (.long (lN (sTo (sPull B x * x) (sAll B * (m + sLd B / 100)) u)))) M) 6 M 34 [(0, .ref (q.2.2 0)), (1, .int (nI m)), (2, .int (nI x)), (3, .int (nI u)), (4, .int (nI (gsm (fun i => if i % 6 < B 9 0 then B 0 i * B 1 i * (B 9 0 - i % 6) else 0) i))), (5, .int (nI i))] [] := by
    intro fu; induction fu with
    | zero => intro i h1 h2; omega
    | succ fu ih =>
      intro i hi hfu 
      refine g_iload hC (gDec_at DX7_pace_0 18 rfl) rfl ?_
      refine g_bipush hC (gDec_at DX7_pace_0 19 rfl) (v := nI 12) (by decide) ?_
      refine g_icmp_geN hC (by omega) (by omega) (gDec_at DX7_pace_0 20 rfl) 91 (by decide) (fun h38 => ?_) (fun h38 => ?_)
      · skip
        obtain rfl : i = 12 := by omega
        rw [show gsm (fun i => if i % 6 < B 9 0 then B 0 i * B 1 i * (B 9 0 - i % 6) else 0) 12 = sLd B from rfl]
        refine g_sub [0, 1, 2, 3, 4] rfl ?_
        refine g_aload_n hC (gDec_at DX7_pace_0 48 rfl) rfl ?_
        refine g_iload_n hC (gDec_at DX7_pace_0 49 rfl) rfl ?_
        refine g_callVd (w := wM q) hC 0 (c_X7_pull q hI (x := x) (by omega)) vf_X7_pull ml_X7_136 (by decide) (show 0 < 17 from by decide) rfl rfl rfl rfl rfl (Nat.le_of_ble_eq_true rfl) (gDec_at DX7_pace_0 50 rfl) ?_
        refine g_iload_n hC (gDec_at DX7_pace_0 51 rfl) rfl ?_
        refine g_i2lN hC (by omega) (gDec_at DX7_pace_0 52 rfl) ?_
        refine g_lmulN hC (gDec_at DX7_pace_0 53 rfl) ?_
        refine g_aload_n hC (gDec_at DX7_pace_0 54 rfl) rfl ?_
        refine g_callVd (w := wM q) hC 0 (c_X7_allGive q hI) vf_X7_allGive ml_X7_141 (by decide) (show 0 < 17 from by decide) rfl rfl rfl rfl rfl (Nat.le_of_ble_eq_true rfl) (gDec_at DX7_pace_0 55 rfl) ?_
        refine g_iload_n hC (gDec_at DX7_pace_0 56 rfl) rfl ?_
        refine g_iload hC (gDec_at DX7_pace_0 57 rfl) rfl ?_
        refine g_bipush hC (gDec_at DX7_pace_0 58 rfl) (v := nI 100) (by decide) ?_
        refine g_idivN hC (by omega) (by omega) (by omega) (gDec_at DX7_pace_0 59 rfl) ?_
        refine g_iaddN hC (gDec_at DX7_pace_0 60 rfl) ?_
        refine g_i2lN hC (by omega) (gDec_at DX7_pace_0 61 rfl) ?_
        refine g_lmulN hC (gDec_at DX7_pace_0 62 rfl) ?_
        refine g_iload_n hC (gDec_at DX7_pace_0 63 rfl) rfl ?_
        refine g_callSd (w := wM q) hC (c_X7_told q (a := ((sPull B x) * x)) (b := ((sAll B) * (m + ((sLd B) / 100)))) (u := u) (by omega) (by omega) (by omega) (by omega)) sf_X7_told ml_X7_152 (by decide) rfl rfl (Nat.le_of_ble_eq_true rfl) (gDec_at DX7_pace_1 0 rfl) ?_
        refine g_lret hC (gDec_at DX7_pace_1 1 rfl) ?_
        exact ⟨rfl, rfl⟩
      · skip
        refine g_iload hC (gDec_at DX7_pace_0 21 rfl) rfl ?_
        refine g_aload_n hC (gDec_at DX7_pace_0 22 rfl) rfl ?_
        refine g_iload hC (gDec_at DX7_pace_0 23 rfl) rfl ?_
        refine g_callVd (w := wM q) hC 0 (c_X7_isThere q hI (i := i) (by omega)) vf_X7_isThere ml_X7_128 (by decide) (show 0 < 17 from by decide) rfl rfl rfl rfl rfl (Nat.le_of_ble_eq_true rfl) (gDec_at DX7_pace_0 24 rfl) ?_
        refine g_if_eqB hC (gDec_at DX7_pace_0 25 rfl) 81 (by decide) (fun h49 => ?_) (fun h49 => ?_)
        · skip
          refine g_iconst hC (gDec_at DX7_pace_0 43 rfl) (v := nI 0) (by decide) ?_
          refine g_iaddN hC (gDec_at DX7_pace_0 44 rfl) ?_
          refine g_istore hC (gDec_at DX7_pace_0 45 rfl) (by decide) (L' := [(4, .int (nI ((gsm (fun i => if i % 6 < B 9 0 then B 0 i * B 1 i * (B 9 0 - i % 6) else 0) i) + 0))), (0, .ref (q.2.2 0)), (1, .int (nI m)), (2, .int (nI x)), (3, .int (nI u)), (5, .int (nI i))]) rfl ?_
          refine g_iincN hC (gDec_at DX7_pace_0 46 rfl) rfl (by decide) (L' := [(5, .int (nI (i + 1))), (4, .int (nI ((gsm (fun i => if i % 6 < B 9 0 then B 0 i * B 1 i * (B 9 0 - i % 6) else 0) i) + 0))), (0, .ref (q.2.2 0)), (1, .int (nI m)), (2, .int (nI x)), (3, .int (nI u))]) rfl ?_
          refine g_goto hC (gDec_at DX7_pace_0 47 rfl) 34 (by decide) ?_
          refine g_sub [2, 3, 4, 5, 1, 0] (L' := [(0, .ref (q.2.2 0)), (1, .int (nI m)), (2, .int (nI x)), (3, .int (nI u)), (4, .int (nI ((gsm (fun i => if i % 6 < B 9 0 then B 0 i * B 1 i * (B 9 0 - i % 6) else 0) i) + 0))), (5, .int (nI (i + 1)))]) rfl ?_
          have h9 := ih (i + 1) (by omega) (by omega)
          rw [gsm_s0 (f := (fun i => if i % 6 < B 9 0 then B 0 i * B 1 i * (B 9 0 - i % 6) else 0)) (if_neg h49)] at h9
          exact h9
        · skip
          refine g_aload_n hC (gDec_at DX7_pace_0 26 rfl) rfl ?_
          refine g_get (w := wM q) hC 0 (v := .ref (q.2.2 2)) fl_X7_17 (show 0 < 17 from by decide) rfl rfl (gDec_at DX7_pace_0 27 rfl) ?_
          refine g_iload hC (gDec_at DX7_pace_0 28 rfl) rfl ?_
          refine g_iald (w := wM q) hC 2 0 i (x := (nI (B 0 i))) (show 2 < 17 from by decide) rfl rfl (by omega) (by decide) (mi_f0 hI (by omega) (by omega)) (gDec_at DX7_pace_0 29 rfl) ?_
          refine g_aload_n hC (gDec_at DX7_pace_0 30 rfl) rfl ?_
          refine g_get (w := wM q) hC 0 (v := .ref (q.2.2 3)) fl_X7_20 (show 0 < 17 from by decide) rfl rfl (gDec_at DX7_pace_0 31 rfl) ?_
          refine g_iload hC (gDec_at DX7_pace_0 32 rfl) rfl ?_
          refine g_iald (w := wM q) hC 3 0 i (x := (nI (B 1 i))) (show 3 < 17 from by decide) rfl rfl (by omega) (by decide) (mi_f1 hI (by omega) (by omega)) (gDec_at DX7_pace_0 33 rfl) ?_
          refine g_imulN hC (gDec_at DX7_pace_0 34 rfl) ?_
          refine g_aload_n hC (gDec_at DX7_pace_0 35 rfl) rfl ?_
          refine g_get (w := wM q) hC 0 (v := .int (nI (B 9 0))) fl_X7_13 (show 0 < 17 from by decide) rfl (g_sv (mi_many hI)) (gDec_at DX7_pace_0 36 rfl) ?_
          refine g_iload hC (gDec_at DX7_pace_0 37 rfl) rfl ?_
          refine g_bipush hC (gDec_at DX7_pace_0 38 rfl) (v := nI 6) (by decide) ?_
          refine g_iremN hC (by omega) (by omega) (by omega) (gDec_at DX7_pace_0 39 rfl) ?_
          refine g_isubN hC (by omega) (gDec_at DX7_pace_0 40 rfl) ?_
          refine g_imulN hC (gDec_at DX7_pace_0 41 rfl) ?_
          refine g_goto hC (gDec_at DX7_pace_0 42 rfl) 82 (by decide) ?_
          refine g_iaddN hC (gDec_at DX7_pace_0 44 rfl) ?_
          refine g_istore hC (gDec_at DX7_pace_0 45 rfl) (by decide) (L' := [(4, .int (nI ((gsm (fun i => if i % 6 < B 9 0 then B 0 i * B 1 i * (B 9 0 - i % 6) else 0) i) + (((B 0 i) * (B 1 i)) * ((B 9 0) - (i % 6)))))), (0, .ref (q.2.2 0)), (1, .int (nI m)), (2, .int (nI x)), (3, .int (nI u)), (5, .int (nI i))]) rfl ?_
          refine g_iincN hC (gDec_at DX7_pace_0 46 rfl) rfl (by decide) (L' := [(5, .int (nI (i + 1))), (4, .int (nI ((gsm (fun i => if i % 6 < B 9 0 then B 0 i * B 1 i * (B 9 0 - i % 6) else 0) i) + (((B 0 i) * (B 1 i)) * ((B 9 0) - (i % 6)))))), (0, .ref (q.2.2 0)), (1, .int (nI m)), (2, .int (nI x)), (3, .int (nI u))]) rfl ?_
          refine g_goto hC (gDec_at DX7_pace_0 47 rfl) 34 (by decide) ?_
          refine g_sub [2, 3, 4, 5, 1, 0] (L' := [(0, .ref (q.2.2 0)), (1, .int (nI m)), (2, .int (nI x)), (3, .int (nI u)), (4, .int (nI ((gsm (fun i => if i % 6 < B 9 0 then B 0 i * B 1 i * (B 9 0 - i % 6) else 0) i) + (((B 0 i) * (B 1 i)) * ((B 9 0) - (i % 6)))))), (5, .int (nI (i + 1)))]) rfl ?_
          have h9 := ih (i + 1) (by omega) (by omega)
          rw [gsm_s (f := (fun i => if i % 6 < B 9 0 then B 0 i * B 1 i * (B 9 0 - i % 6) else 0)) (if_pos h49)] at h9
          exact h9
  exact g_sub [2, 3, 4, 5, 1, 0] rfl (loop34 (12 + 1 - 0) 0 (by omega) (by omega))

set_option maxRecDepth 100000 in
set_option maxHeartbeats 4000000 in
theorem c_X7_wet_badm (q : gQ3) {M : gM} {B : gB} (hI : mI M B) {m : Int32} (hm : ¬ gin m 0 50) {x0 : Int32} {u : Nat} (hu : u ≤ 1) : gCt (wM q) yX7_wet cX7_wet 4 (some .long) 8 [.ref (q.2.2 0), .int m, .int x0, .int (nI u)] M (gR (some (.long (-2))) M) := by
  refine gMet RX7 (by decide +kernel) rfl (Nat.le_of_ble_eq_true rfl) (fun X hC => ?_)
  have hC : gC X (wM q) cX7_wet 4 RX7 (some .long) 8 := hC
  show gG X (wM q) _ 4 M 0 [(0, .ref (q.2.2 0)), (1, .int m), (2, .int x0), (3, .int (nI u))] []
  refine g_aload_n hC (gDec_at DX7_wet_0 0 rfl) rfl ?_
  refine g_iconst hC (gDec_at DX7_wet_0 1 rfl) (v := nI 0) (by decide) ?_
  refine g_putI (w := wM q) hC 0 fl_X7_67 fp_7_0 (show 0 < 17 from by decide) rfl (Nat.le_of_ble_eq_true rfl) rfl rfl (gDec_at DX7_wet_0 2 rfl) ?_
  refine g_M (mi_0 hI) ?_
  refine g_iload_n hC (gDec_at DX7_wet_0 3 rfl) rfl ?_
  refine g_i2l hC (gDec_at DX7_wet_0 4 rfl) rfl ?_
  refine g_lconst hC (gDec_at DX7_wet_0 5 rfl) (v := lN 0) (by decide) ?_
  refine g_ldc2 hC cl_X7_213 (v' := lN 50) (by decide) (gDec_at DX7_wet_0 6 rfl) ?_
  refine g_callSd (w := wM q) hC (c_X7_in_no q (by omega) (by omega) hm) sf_X7_in ml_X7_72 (by decide) rfl rfl (Nat.le_of_ble_eq_true rfl) (gDec_at DX7_wet_0 7 rfl) ?_
  refine g_if_eqN hC (by decide) (gDec_at DX7_wet_0 8 rfl) 24 (by decide) (fun h => ?_) (fun h => absurd h (by decide))
  refine g_ldc2 hC cl_X7_150 (v' := -2) rfl (gDec_at DX7_wet_0 12 rfl) ?_
  refine g_lret hC (gDec_at DX7_wet_0 13 rfl) ?_
  exact ⟨rfl, rfl⟩

set_option maxRecDepth 100000 in
set_option maxHeartbeats 4000000 in
theorem c_X7_wet_badx (q : gQ3) {M : gM} {B : gB} (hI : mI M B) {m : Nat} (hma : 0 ≤ m) (hmb : m ≤ 50) {x0 : Int32} (hx0 : ¬ gin x0 0 40) {u : Nat} (hu : u ≤ 1) : gCt (wM q) yX7_wet cX7_wet 4 (some .long) 8 [.ref (q.2.2 0), .int (nI m), .int x0, .int (nI u)] M (gR (some (.long (-2))) M) := by
  refine gMet RX7 (by decide +kernel) rfl (Nat.le_of_ble_eq_true rfl) (fun X hC => ?_)
  have hC : gC X (wM q) cX7_wet 4 RX7 (some .long) 8 := hC
  show gG X (wM q) _ 4 M 0 [(0, .ref (q.2.2 0)), (1, .int (nI m)), (2, .int x0), (3, .int (nI u))] []
  refine g_aload_n hC (gDec_at DX7_wet_0 0 rfl) rfl ?_
  refine g_iconst hC (gDec_at DX7_wet_0 1 rfl) (v := nI 0) (by decide) ?_
  refine g_putI (w := wM q) hC 0 fl_X7_67 fp_7_0 (show 0 < 17 from by decide) rfl (Nat.le_of_ble_eq_true rfl) rfl rfl (gDec_at DX7_wet_0 2 rfl) ?_
  refine g_M (mi_0 hI) ?_
  refine g_iload_n hC (gDec_at DX7_wet_0 3 rfl) rfl ?_
  refine g_i2lN hC (by omega) (gDec_at DX7_wet_0 4 rfl) ?_
  refine g_lconst hC (gDec_at DX7_wet_0 5 rfl) (v := lN 0) (by decide) ?_
  refine g_ldc2 hC cl_X7_213 (v' := lN 50) (by decide) (gDec_at DX7_wet_0 6 rfl) ?_
  refine g_callSd (w := wM q) hC (c_X7_in_yes q (v := m) (a := 0) (b := 50) (by omega) (by omega) (by omega)) sf_X7_in ml_X7_72 (by decide) rfl rfl (Nat.le_of_ble_eq_true rfl) (gDec_at DX7_wet_0 7 rfl) ?_
  refine g_if_eqN hC (by decide) (gDec_at DX7_wet_0 8 rfl) 24 (by decide) (fun h => absurd h (by decide)) (fun h => ?_)
  refine g_iload_n hC (gDec_at DX7_wet_0 9 rfl) rfl ?_
  refine g_callSd (w := wM q) hC (c_X7_noInches_out q hx0) sf_X7_noInches ml_X7_147 (by decide) rfl rfl (Nat.le_of_ble_eq_true rfl) (gDec_at DX7_wet_0 10 rfl) ?_
  refine g_if_eqN hC (by decide) (gDec_at DX7_wet_0 11 rfl) 28 (by decide) (fun h => absurd h (by decide)) (fun h => ?_)
  refine g_ldc2 hC cl_X7_150 (v' := -2) rfl (gDec_at DX7_wet_0 12 rfl) ?_
  refine g_lret hC (gDec_at DX7_wet_0 13 rfl) ?_
  exact ⟨rfl, rfl⟩

set_option maxRecDepth 100000 in
set_option maxHeartbeats 4000000 in
theorem c_X7_wet_ok (q : gQ3) {M : gM} {B : gB} (hI : mI M B) {m : Nat} (hma : 0 ≤ m) (hmb : m ≤ 50) {x : Nat} (hx : x ≤ 40) {u : Nat} (hu : u ≤ 1) : gCt (wM q) yX7_wet cX7_wet 4 (some .long) 8 [.ref (q.2.2 0), .int (nI m), .int (nI x), .int (nI u)] M (gR (some (.long (lN (sTo (sPull B x * (100 - m)) (sAll B * 100) u)))) M) := by
  refine gMet RX7 (by decide +kernel) rfl (Nat.le_of_ble_eq_true rfl) (fun X hC => ?_)
  have hC : gC X (wM q) cX7_wet 4 RX7 (some .long) 8 := hC
  show gG X (wM q) _ 4 M 0 [(0, .ref (q.2.2 0)), (1, .int (nI m)), (2, .int (nI x)), (3, .int (nI u))] []
  have hpl := sPull_le B hx
  have hal := sAll_le B
  have has := sAll_ps hI.2.2
  have hpx := mul_bd hpl (show 100 - m ≤ 100 by omega)
  refine g_aload_n hC (gDec_at DX7_wet_0 0 rfl) rfl ?_
  refine g_iconst hC (gDec_at DX7_wet_0 1 rfl) (v := nI 0) (by decide) ?_
  refine g_putI (w := wM q) hC 0 fl_X7_67 fp_7_0 (show 0 < 17 from by decide) rfl (Nat.le_of_ble_eq_true rfl) rfl rfl (gDec_at DX7_wet_0 2 rfl) ?_
  refine g_M (mi_0 hI) ?_
  refine g_iload_n hC (gDec_at DX7_wet_0 3 rfl) rfl ?_
  refine g_i2lN hC (by omega) (gDec_at DX7_wet_0 4 rfl) ?_
  refine g_lconst hC (gDec_at DX7_wet_0 5 rfl) (v := lN 0) (by decide) ?_
  refine g_ldc2 hC cl_X7_213 (v' := lN 50) (by decide) (gDec_at DX7_wet_0 6 rfl) ?_
  refine g_callSd (w := wM q) hC (c_X7_in_yes q (v := m) (a := 0) (b := 50) (by omega) (by omega) (by omega)) sf_X7_in ml_X7_72 (by decide) rfl rfl (Nat.le_of_ble_eq_true rfl) (gDec_at DX7_wet_0 7 rfl) ?_
  refine g_if_eqN hC (by decide) (gDec_at DX7_wet_0 8 rfl) 24 (by decide) (fun h => absurd h (by decide)) (fun h => ?_)
  refine g_iload_n hC (gDec_at DX7_wet_0 9 rfl) rfl ?_
  refine g_callSd (w := wM q) hC (c_X7_noInches_in q (k := x) (by omega)) sf_X7_noInches ml_X7_147 (by decide) rfl rfl (Nat.le_of_ble_eq_true rfl) (gDec_at DX7_wet_0 10 rfl) ?_
  refine g_if_eqN hC (by decide) (gDec_at DX7_wet_0 11 rfl) 28 (by decide) (fun h => ?_) (fun h => absurd h (by decide))
  refine g_aload_n hC (gDec_at DX7_wet_0 14 rfl) rfl ?_
  refine g_iload_n hC (gDec_at DX7_wet_0 15 rfl) rfl ?_
  refine g_callVd (w := wM q) hC 0 (c_X7_pull q hI (x := x) (by omega)) vf_X7_pull ml_X7_136 (by decide) (show 0 < 17 from by decide) rfl rfl rfl rfl rfl (Nat.le_of_ble_eq_true rfl) (gDec_at DX7_wet_0 16 rfl) ?_
  refine g_bipush hC (gDec_at DX7_wet_0 17 rfl) (v := nI 100) (by decide) ?_
  refine g_iload_n hC (gDec_at DX7_wet_0 18 rfl) rfl ?_
  refine g_isubN hC (by omega) (gDec_at DX7_wet_0 19 rfl) ?_
  refine g_i2lN hC (by omega) (gDec_at DX7_wet_0 20 rfl) ?_
  refine g_lmulN hC (gDec_at DX7_wet_0 21 rfl) ?_
  refine g_aload_n hC (gDec_at DX7_wet_0 22 rfl) rfl ?_
  refine g_callVd (w := wM q) hC 0 (c_X7_allGive q hI) vf_X7_allGive ml_X7_141 (by decide) (show 0 < 17 from by decide) rfl rfl rfl rfl rfl (Nat.le_of_ble_eq_true rfl) (gDec_at DX7_wet_0 23 rfl) ?_
  refine g_ldc2 hC cl_X7_215 (v' := lN 100) (by decide) (gDec_at DX7_wet_0 24 rfl) ?_
  refine g_lmulN hC (gDec_at DX7_wet_0 25 rfl) ?_
  refine g_iload_n hC (gDec_at DX7_wet_0 26 rfl) rfl ?_
  refine g_callSd (w := wM q) hC (c_X7_told q (a := ((sPull B x) * (100 - m))) (b := ((sAll B) * 100)) (u := u) (by omega) (by omega) (by omega) (by omega)) sf_X7_told ml_X7_152 (by decide) rfl rfl (Nat.le_of_ble_eq_true rfl) (gDec_at DX7_wet_0 27 rfl) ?_
  refine g_lret hC (gDec_at DX7_wet_0 28 rfl) ?_
  exact ⟨rfl, rfl⟩

set_option maxRecDepth 100000 in
set_option maxHeartbeats 4000000 in
theorem c_X7_lost_out (q : gQ3) {M : gM} {B : gB} (hI : mI M B) {x0 : Int32} (hx0 : ¬ isPl B x0) {a b x1 : Int32} {mo u : Nat} (hmo : mo ≤ 1) (hu : u ≤ 1) : gCt (wM q) yX7_lost cX7_lost 11 (some .long) 8 [.ref (q.2.2 0), .int x0, .int a, .int b, .int x1, .int (nI mo), .int (nI u)] M (gR (some (.long (-1))) M) := by
  refine gMet RX7 (by decide +kernel) rfl (Nat.le_of_ble_eq_true rfl) (fun X hC => ?_)
  have hC : gC X (wM q) cX7_lost 11 RX7 (some .long) 8 := hC
  show gG X (wM q) _ 11 M 0 [(0, .ref (q.2.2 0)), (1, .int x0), (2, .int a), (3, .int b), (4, .int x1), (5, .int (nI mo)), (6, .int (nI u))] []
  refine g_aload_n hC (gDec_at DX7_lost_0 0 rfl) rfl ?_
  refine g_iconst hC (gDec_at DX7_lost_0 1 rfl) (v := nI 0) (by decide) ?_
  refine g_putI (w := wM q) hC 0 fl_X7_67 fp_7_0 (show 0 < 17 from by decide) rfl (Nat.le_of_ble_eq_true rfl) rfl rfl (gDec_at DX7_lost_0 2 rfl) ?_
  refine g_M (mi_0 hI) ?_
  refine g_aload_n hC (gDec_at DX7_lost_0 3 rfl) rfl ?_
  refine g_iload_n hC (gDec_at DX7_lost_0 4 rfl) rfl ?_
  refine g_callVd (w := wM q) hC 0 (c_X7_noPlace_out q hI hx0) vf_X7_noPlace ml_X7_108 (by decide) (show 0 < 17 from by decide) rfl rfl rfl rfl rfl (Nat.le_of_ble_eq_true rfl) (gDec_at DX7_lost_0 5 rfl) ?_
  refine g_if_eqN hC (by decide) (gDec_at DX7_lost_0 6 rfl) 17 (by decide) (fun h => absurd h (by decide)) (fun h => ?_)
  refine g_ldc2 hC cl_X7_145 (v' := -1) rfl (gDec_at DX7_lost_0 7 rfl) ?_
  refine g_lret hC (gDec_at DX7_lost_0 8 rfl) ?_
  exact ⟨rfl, rfl⟩

set_option maxRecDepth 100000 in
set_option maxHeartbeats 4000000 in
theorem c_X7_lost_bada (q : gQ3) {M : gM} {B : gB} (hI : mI M B) {j : Nat} (hj : j < 12) (ht : j % 6 < B 9 0) {a : Int32} (ha : ¬ gin a 4 40) {b x1 : Int32} {mo u : Nat} (hmo : mo ≤ 1) (hu : u ≤ 1) : gCt (wM q) yX7_lost cX7_lost 11 (some .long) 8 [.ref (q.2.2 0), .int (nI (10 * (j / 6) + j % 6)), .int a, .int b, .int x1, .int (nI mo), .int (nI u)] M (gR (some (.long (-2))) M) := by
  refine gMet RX7 (by decide +kernel) rfl (Nat.le_of_ble_eq_true rfl) (fun X hC => ?_)
  have hC : gC X (wM q) cX7_lost 11 RX7 (some .long) 8 := hC
  show gG X (wM q) _ 11 M 0 [(0, .ref (q.2.2 0)), (1, .int (nI (10 * (j / 6) + j % 6))), (2, .int a), (3, .int b), (4, .int x1), (5, .int (nI mo)), (6, .int (nI u))] []
  refine g_aload_n hC (gDec_at DX7_lost_0 0 rfl) rfl ?_
  refine g_iconst hC (gDec_at DX7_lost_0 1 rfl) (v := nI 0) (by decide) ?_
  refine g_putI (w := wM q) hC 0 fl_X7_67 fp_7_0 (show 0 < 17 from by decide) rfl (Nat.le_of_ble_eq_true rfl) rfl rfl (gDec_at DX7_lost_0 2 rfl) ?_
  refine g_M (mi_0 hI) ?_
  refine g_aload_n hC (gDec_at DX7_lost_0 3 rfl) rfl ?_
  refine g_iload_n hC (gDec_at DX7_lost_0 4 rfl) rfl ?_
  refine g_callVd (w := wM q) hC 0 (c_X7_noPlace_in q hI hj (ht)) vf_X7_noPlace ml_X7_108 (by decide) (show 0 < 17 from by decide) rfl rfl rfl rfl rfl (Nat.le_of_ble_eq_true rfl) (gDec_at DX7_lost_0 5 rfl) ?_
  refine g_if_eqN hC (by decide) (gDec_at DX7_lost_0 6 rfl) 17 (by decide) (fun h => ?_) (fun h => absurd h (by decide))
  refine g_iload_n hC (gDec_at DX7_lost_0 9 rfl) rfl ?_
  refine g_i2l hC (gDec_at DX7_lost_0 10 rfl) rfl ?_
  refine g_ldc2 hC cl_X7_217 (v' := lN 4) (by decide) (gDec_at DX7_lost_0 11 rfl) ?_
  refine g_ldc2 hC cl_X7_70 (v' := lN 40) (by decide) (gDec_at DX7_lost_0 12 rfl) ?_
  refine g_callSd (w := wM q) hC (c_X7_in_no q (by omega) (by omega) ha) sf_X7_in ml_X7_72 (by decide) rfl rfl (Nat.le_of_ble_eq_true rfl) (gDec_at DX7_lost_0 13 rfl) ?_
  refine g_if_eqN hC (by decide) (gDec_at DX7_lost_0 14 rfl) 52 (by decide) (fun h => ?_) (fun h => absurd h (by decide))
  refine g_ldc2 hC cl_X7_150 (v' := -2) rfl (gDec_at DX7_lost_0 25 rfl) ?_
  refine g_lret hC (gDec_at DX7_lost_0 26 rfl) ?_
  exact ⟨rfl, rfl⟩

set_option maxRecDepth 100000 in
set_option maxHeartbeats 4000000 in
theorem c_X7_lost_badb (q : gQ3) {M : gM} {B : gB} (hI : mI M B) {j : Nat} (hj : j < 12) (ht : j % 6 < B 9 0) {a : Nat} (haa : 4 ≤ a) (hab : a ≤ 40) {b : Int32} (hb : ¬ gin b a 40) {x1 : Int32} {mo u : Nat} (hmo : mo ≤ 1) (hu : u ≤ 1) : gCt (wM q) yX7_lost cX7_lost 11 (some .long) 8 [.ref (q.2.2 0), .int (nI (10 * (j / 6) + j % 6)), .int (nI a), .int b, .int x1, .int (nI mo), .int (nI u)] M (gR (some (.long (-2))) M) := by
  refine gMet RX7 (by decide +kernel) rfl (Nat.le_of_ble_eq_true rfl) (fun X hC => ?_)
  have hC : gC X (wM q) cX7_lost 11 RX7 (some .long) 8 := hC
  show gG X (wM q) _ 11 M 0 [(0, .ref (q.2.2 0)), (1, .int (nI (10 * (j / 6) + j % 6))), (2, .int (nI a)), (3, .int b), (4, .int x1), (5, .int (nI mo)), (6, .int (nI u))] []
  refine g_aload_n hC (gDec_at DX7_lost_0 0 rfl) rfl ?_
  refine g_iconst hC (gDec_at DX7_lost_0 1 rfl) (v := nI 0) (by decide) ?_
  refine g_putI (w := wM q) hC 0 fl_X7_67 fp_7_0 (show 0 < 17 from by decide) rfl (Nat.le_of_ble_eq_true rfl) rfl rfl (gDec_at DX7_lost_0 2 rfl) ?_
  refine g_M (mi_0 hI) ?_
  refine g_aload_n hC (gDec_at DX7_lost_0 3 rfl) rfl ?_
  refine g_iload_n hC (gDec_at DX7_lost_0 4 rfl) rfl ?_
  refine g_callVd (w := wM q) hC 0 (c_X7_noPlace_in q hI hj (ht)) vf_X7_noPlace ml_X7_108 (by decide) (show 0 < 17 from by decide) rfl rfl rfl rfl rfl (Nat.le_of_ble_eq_true rfl) (gDec_at DX7_lost_0 5 rfl) ?_
  refine g_if_eqN hC (by decide) (gDec_at DX7_lost_0 6 rfl) 17 (by decide) (fun h => ?_) (fun h => absurd h (by decide))
  refine g_iload_n hC (gDec_at DX7_lost_0 9 rfl) rfl ?_
  refine g_i2lN hC (by omega) (gDec_at DX7_lost_0 10 rfl) ?_
  refine g_ldc2 hC cl_X7_217 (v' := lN 4) (by decide) (gDec_at DX7_lost_0 11 rfl) ?_
  refine g_ldc2 hC cl_X7_70 (v' := lN 40) (by decide) (gDec_at DX7_lost_0 12 rfl) ?_
  refine g_callSd (w := wM q) hC (c_X7_in_yes q (v := a) (a := 4) (b := 40) (by omega) (by omega) (by omega)) sf_X7_in ml_X7_72 (by decide) rfl rfl (Nat.le_of_ble_eq_true rfl) (gDec_at DX7_lost_0 13 rfl) ?_
  refine g_if_eqN hC (by decide) (gDec_at DX7_lost_0 14 rfl) 52 (by decide) (fun h => absurd h (by decide)) (fun h => ?_)
  refine g_iload_n hC (gDec_at DX7_lost_0 15 rfl) rfl ?_
  refine g_i2l hC (gDec_at DX7_lost_0 16 rfl) rfl ?_
  refine g_iload_n hC (gDec_at DX7_lost_0 17 rfl) rfl ?_
  refine g_i2lN hC (by omega) (gDec_at DX7_lost_0 18 rfl) ?_
  refine g_ldc2 hC cl_X7_70 (v' := lN 40) (by decide) (gDec_at DX7_lost_0 19 rfl) ?_
  refine g_callSd (w := wM q) hC (c_X7_in_no q (by omega) (by omega) hb) sf_X7_in ml_X7_72 (by decide) rfl rfl (Nat.le_of_ble_eq_true rfl) (gDec_at DX7_lost_0 20 rfl) ?_
  refine g_if_eqN hC (by decide) (gDec_at DX7_lost_0 21 rfl) 52 (by decide) (fun h => ?_) (fun h => absurd h (by decide))
  refine g_ldc2 hC cl_X7_150 (v' := -2) rfl (gDec_at DX7_lost_0 25 rfl) ?_
  refine g_lret hC (gDec_at DX7_lost_0 26 rfl) ?_
  exact ⟨rfl, rfl⟩

set_option maxRecDepth 100000 in
set_option maxHeartbeats 4000000 in
theorem c_X7_lost_badx (q : gQ3) {M : gM} {B : gB} (hI : mI M B) {j : Nat} (hj : j < 12) (ht : j % 6 < B 9 0) {a : Nat} (haa : 4 ≤ a) (hab : a ≤ 40) {b : Nat} (hba : a ≤ b) (hbb : b ≤ 40) {x1 : Int32} (hx1 : ¬ gin x1 0 40) {mo u : Nat} (hmo : mo ≤ 1) (hu : u ≤ 1) : gCt (wM q) yX7_lost cX7_lost 11 (some .long) 8 [.ref (q.2.2 0), .int (nI (10 * (j / 6) + j % 6)), .int (nI a), .int (nI b), .int x1, .int (nI mo), .int (nI u)] M (gR (some (.long (-2))) M) := by
  refine gMet RX7 (by decide +kernel) rfl (Nat.le_of_ble_eq_true rfl) (fun X hC => ?_)
  have hC : gC X (wM q) cX7_lost 11 RX7 (some .long) 8 := hC
  show gG X (wM q) _ 11 M 0 [(0, .ref (q.2.2 0)), (1, .int (nI (10 * (j / 6) + j % 6))), (2, .int (nI a)), (3, .int (nI b)), (4, .int x1), (5, .int (nI mo)), (6, .int (nI u))] []
  refine g_aload_n hC (gDec_at DX7_lost_0 0 rfl) rfl ?_
  refine g_iconst hC (gDec_at DX7_lost_0 1 rfl) (v := nI 0) (by decide) ?_
  refine g_putI (w := wM q) hC 0 fl_X7_67 fp_7_0 (show 0 < 17 from by decide) rfl (Nat.le_of_ble_eq_true rfl) rfl rfl (gDec_at DX7_lost_0 2 rfl) ?_
  refine g_M (mi_0 hI) ?_
  refine g_aload_n hC (gDec_at DX7_lost_0 3 rfl) rfl ?_
  refine g_iload_n hC (gDec_at DX7_lost_0 4 rfl) rfl ?_
  refine g_callVd (w := wM q) hC 0 (c_X7_noPlace_in q hI hj (ht)) vf_X7_noPlace ml_X7_108 (by decide) (show 0 < 17 from by decide) rfl rfl rfl rfl rfl (Nat.le_of_ble_eq_true rfl) (gDec_at DX7_lost_0 5 rfl) ?_
  refine g_if_eqN hC (by decide) (gDec_at DX7_lost_0 6 rfl) 17 (by decide) (fun h => ?_) (fun h => absurd h (by decide))
  refine g_iload_n hC (gDec_at DX7_lost_0 9 rfl) rfl ?_
  refine g_i2lN hC (by omega) (gDec_at DX7_lost_0 10 rfl) ?_
  refine g_ldc2 hC cl_X7_217 (v' := lN 4) (by decide) (gDec_at DX7_lost_0 11 rfl) ?_
  refine g_ldc2 hC cl_X7_70 (v' := lN 40) (by decide) (gDec_at DX7_lost_0 12 rfl) ?_
  refine g_callSd (w := wM q) hC (c_X7_in_yes q (v := a) (a := 4) (b := 40) (by omega) (by omega) (by omega)) sf_X7_in ml_X7_72 (by decide) rfl rfl (Nat.le_of_ble_eq_true rfl) (gDec_at DX7_lost_0 13 rfl) ?_
  refine g_if_eqN hC (by decide) (gDec_at DX7_lost_0 14 rfl) 52 (by decide) (fun h => absurd h (by decide)) (fun h => ?_)
  refine g_iload_n hC (gDec_at DX7_lost_0 15 rfl) rfl ?_
  refine g_i2lN hC (by omega) (gDec_at DX7_lost_0 16 rfl) ?_
  refine g_iload_n hC (gDec_at DX7_lost_0 17 rfl) rfl ?_
  refine g_i2lN hC (by omega) (gDec_at DX7_lost_0 18 rfl) ?_
  refine g_ldc2 hC cl_X7_70 (v' := lN 40) (by decide) (gDec_at DX7_lost_0 19 rfl) ?_
  refine g_callSd (w := wM q) hC (c_X7_in_yes q (v := b) (a := a) (b := 40) (by omega) (by omega) (by omega)) sf_X7_in ml_X7_72 (by decide) rfl rfl (Nat.le_of_ble_eq_true rfl) (gDec_at DX7_lost_0 20 rfl) ?_
  refine g_if_eqN hC (by decide) (gDec_at DX7_lost_0 21 rfl) 52 (by decide) (fun h => absurd h (by decide)) (fun h => ?_)
  refine g_iload hC (gDec_at DX7_lost_0 22 rfl) rfl ?_
  refine g_callSd (w := wM q) hC (c_X7_noInches_out q hx1) sf_X7_noInches ml_X7_147 (by decide) rfl rfl (Nat.le_of_ble_eq_true rfl) (gDec_at DX7_lost_0 23 rfl) ?_
  refine g_if_eqN hC (by decide) (gDec_at DX7_lost_0 24 rfl) 56 (by decide) (fun h => absurd h (by decide)) (fun h => ?_)
  refine g_ldc2 hC cl_X7_150 (v' := -2) rfl (gDec_at DX7_lost_0 25 rfl) ?_
  refine g_lret hC (gDec_at DX7_lost_0 26 rfl) ?_
  exact ⟨rfl, rfl⟩

theorem sLost_ps {B : gB} (h : bV B) {j d : Nat} (hj : j < 12) (ht : j % 6 < B 9 0) (hd : 1 ≤ d) (hd2 : d ≤ 40) : 0 < sLost B j d := by
  have h1 := sGive_ps h hj ht hd hd2
  have h2 := gsm_part (f := fun i => if i % 6 < B 9 0 then sGive B i (if i / 6 = j / 6 ∧ i % 6 ≤ j % 6 then d else B 1 i) else 0) (n := 12) hj
  rw [if_pos ht, if_pos ⟨rfl, Nat.le_refl _⟩] at h2
  exact Nat.lt_of_lt_of_le h1 h2
set_option maxRecDepth 100000 in
set_option maxHeartbeats 4000000 in
theorem c_X7_lost_ok0 (q : gQ3) {M : gM} {B : gB} (hI : mI M B) {j : Nat} (hj : j < 12) (ht : j % 6 < B 9 0) {a : Nat} (haa : 4 ≤ a) (hab : a ≤ 40) {b : Nat} (hba : a ≤ b) (hbb : b ≤ 40) {x : Nat} (hx : x ≤ 40) {u : Nat} (hu : u ≤ 1) : gCt (wM q) yX7_lost cX7_lost 11 (some .long) 8 [.ref (q.2.2 0), .int (nI (10 * (j / 6) + j % 6)), .int (nI a), .int (nI b), .int (nI x), .int (nI 0), .int (nI u)] M (gR (some (.long (lN (sTo (sPull B x) (sLost B j a) u)))) M) := by
  refine gMet RX7 (by decide +kernel) rfl (Nat.le_of_ble_eq_true rfl) (fun X hC => ?_)
  have hC : gC X (wM q) cX7_lost 11 RX7 (some .long) 8 := hC
  show gG X (wM q) _ 11 M 0 [(0, .ref (q.2.2 0)), (1, .int (nI (10 * (j / 6) + j % 6))), (2, .int (nI a)), (3, .int (nI b)), (4, .int (nI x)), (5, .int (nI 0)), (6, .int (nI u))] []
  have hpl := sPull_le B hx
  have hla := sLost_le B j a
  have hlp := sLost_ps hI.2.2 hj ht (d := a) (by omega) (by omega)
  refine g_aload_n hC (gDec_at DX7_lost_0 0 rfl) rfl ?_
  refine g_iconst hC (gDec_at DX7_lost_0 1 rfl) (v := nI 0) (by decide) ?_
  refine g_putI (w := wM q) hC 0 fl_X7_67 fp_7_0 (show 0 < 17 from by decide) rfl (Nat.le_of_ble_eq_true rfl) rfl rfl (gDec_at DX7_lost_0 2 rfl) ?_
  refine g_M (mi_0 hI) ?_
  refine g_aload_n hC (gDec_at DX7_lost_0 3 rfl) rfl ?_
  refine g_iload_n hC (gDec_at DX7_lost_0 4 rfl) rfl ?_
  refine g_callVd (w := wM q) hC 0 (c_X7_noPlace_in q hI hj (ht)) vf_X7_noPlace ml_X7_108 (by decide) (show 0 < 17 from by decide) rfl rfl rfl rfl rfl (Nat.le_of_ble_eq_true rfl) (gDec_at DX7_lost_0 5 rfl) ?_
  refine g_if_eqN hC (by decide) (gDec_at DX7_lost_0 6 rfl) 17 (by decide) (fun h => ?_) (fun h => absurd h (by decide))
  refine g_iload_n hC (gDec_at DX7_lost_0 9 rfl) rfl ?_
  refine g_i2lN hC (by omega) (gDec_at DX7_lost_0 10 rfl) ?_
  refine g_ldc2 hC cl_X7_217 (v' := lN 4) (by decide) (gDec_at DX7_lost_0 11 rfl) ?_
  refine g_ldc2 hC cl_X7_70 (v' := lN 40) (by decide) (gDec_at DX7_lost_0 12 rfl) ?_
  refine g_callSd (w := wM q) hC (c_X7_in_yes q (v := a) (a := 4) (b := 40) (by omega) (by omega) (by omega)) sf_X7_in ml_X7_72 (by decide) rfl rfl (Nat.le_of_ble_eq_true rfl) (gDec_at DX7_lost_0 13 rfl) ?_
  refine g_if_eqN hC (by decide) (gDec_at DX7_lost_0 14 rfl) 52 (by decide) (fun h => absurd h (by decide)) (fun h => ?_)
  refine g_iload_n hC (gDec_at DX7_lost_0 15 rfl) rfl ?_
  refine g_i2lN hC (by omega) (gDec_at DX7_lost_0 16 rfl) ?_
  refine g_iload_n hC (gDec_at DX7_lost_0 17 rfl) rfl ?_
  refine g_i2lN hC (by omega) (gDec_at DX7_lost_0 18 rfl) ?_
  refine g_ldc2 hC cl_X7_70 (v' := lN 40) (by decide) (gDec_at DX7_lost_0 19 rfl) ?_
  refine g_callSd (w := wM q) hC (c_X7_in_yes q (v := b) (a := a) (b := 40) (by omega) (by omega) (by omega)) sf_X7_in ml_X7_72 (by decide) rfl rfl (Nat.le_of_ble_eq_true rfl) (gDec_at DX7_lost_0 20 rfl) ?_
  refine g_if_eqN hC (by decide) (gDec_at DX7_lost_0 21 rfl) 52 (by decide) (fun h => absurd h (by decide)) (fun h => ?_)
  refine g_iload hC (gDec_at DX7_lost_0 22 rfl) rfl ?_
  refine g_callSd (w := wM q) hC (c_X7_noInches_in q (k := x) (by omega)) sf_X7_noInches ml_X7_147 (by decide) rfl rfl (Nat.le_of_ble_eq_true rfl) (gDec_at DX7_lost_0 23 rfl) ?_
  refine g_if_eqN hC (by decide) (gDec_at DX7_lost_0 24 rfl) 56 (by decide) (fun h => ?_) (fun h => absurd h (by decide))
  refine g_lconst hC (gDec_at DX7_lost_0 27 rfl) (v := lN 0) (by decide) ?_
  refine g_lstore hC (gDec_at DX7_lost_0 28 rfl) (by decide) (L' := [(7, .long (lN 0)), (0, .ref (q.2.2 0)), (1, .int (nI (10 * (j / 6) + j % 6))), (2, .int (nI a)), (3, .int (nI b)), (4, .int (nI x)), (5, .int (nI 0)), (6, .int (nI u))]) rfl ?_
  refine g_iconst hC (gDec_at DX7_lost_0 29 rfl) (v := nI 0) (by decide) ?_
  refine g_istore hC (gDec_at DX7_lost_0 30 rfl) (by decide) (L' := [(9, .int (nI 0)), (7, .long (lN 0)), (0, .ref (q.2.2 0)), (1, .int (nI (10 * (j / 6) + j % 6))), (2, .int (nI a)), (3, .int (nI b)), (4, .int (nI x)), (5, .int (nI 0)), (6, .int (nI u))]) rfl ?_
  have loop62 : ∀ (fu i : Nat), i ≤ 12 → 12 - i < fu → gG X (wM q) (gR (some (.long (lN (sTo (sPull B x) (sLost B j a) u)))) M) 11 M 62 [(0, .ref (q.2.2 0)), (1, .int (nI (10 * (j / 6) + j % 6))), (2, .int (nI a)), (3, .int (nI b)), (4, .int (nI x)), (5, .int (nI 0)), (6, .int (nI u)), (7, .long (lN (gsm (fun i => if i % 6 < B 9 0 then sGive B i (if i / 6 = j / 6 ∧ i % 6 ≤ j % 6 then a else B 1 i) else 0) i))), (9, .int (nI i))] [] := by
    intro fu; induction fu with
    | zero => intro i h1 h2; omega
    | succ fu ih =>
      intro i hi hfu 
      refine g_iload hC (gDec_at DX7_lost_0 31 rfl) rfl ?_
      refine g_bipush hC (gDec_at DX7_lost_0 32 rfl) (v := nI 12) (by decide) ?_
      refine g_icmp_geN hC (by omega) (by omega) (gDec_at DX7_lost_0 33 rfl) 156 (by decide) (fun h66 => ?_) (fun h66 => ?_)
      · skip
        obtain rfl : i = 12 := by omega
        refine g_aload_n hC (gDec_at DX7_lost_1 15 rfl) rfl ?_
        refine g_iload hC (gDec_at DX7_lost_1 16 rfl) rfl ?_
        refine g_callVd (w := wM q) hC 0 (c_X7_pull q hI (x := x) (by omega)) vf_X7_pull ml_X7_136 (by decide) (show 0 < 17 from by decide) rfl rfl rfl rfl rfl (Nat.le_of_ble_eq_true rfl) (gDec_at DX7_lost_1 17 rfl) ?_
        refine g_lload hC (gDec_at DX7_lost_1 18 rfl) rfl ?_
        refine g_iload hC (gDec_at DX7_lost_1 19 rfl) rfl ?_
        refine g_callSd (w := wM q) hC (c_X7_told q (a := sPull B x) (b := sLost B j a) (u := u) (by omega) (by omega) (by omega) (by omega)) sf_X7_told ml_X7_152 (by decide) rfl rfl (Nat.le_of_ble_eq_true rfl) (gDec_at DX7_lost_1 20 rfl) ?_
        refine g_lret hC (gDec_at DX7_lost_1 21 rfl) ?_
        exact ⟨rfl, rfl⟩
      · skip
        refine g_iload hC (gDec_at DX7_lost_0 34 rfl) rfl ?_
        refine g_bipush hC (gDec_at DX7_lost_0 35 rfl) (v := nI 6) (by decide) ?_
        refine g_idivN hC (by omega) (by omega) (by omega) (gDec_at DX7_lost_0 36 rfl) ?_
        refine g_iload_n hC (gDec_at DX7_lost_0 37 rfl) rfl ?_
        refine g_bipush hC (gDec_at DX7_lost_0 38 rfl) (v := nI 10) (by decide) ?_
        refine g_idivN hC (by omega) (by omega) (by omega) (gDec_at DX7_lost_0 39 rfl) ?_
        refine g_icmp_neN hC (by omega) (by omega) (gDec_at DX7_lost_0 40 rfl) 97 (by decide) (fun h78 => ?_) (fun h78 => ?_)
        · skip
          refine g_iconst hC (gDec_at DX7_lost_0 50 rfl) (v := nI 0) (by decide) ?_
          refine g_istore hC (gDec_at DX7_lost_0 51 rfl) (by decide) (L' := [(10, .int (nI 0)), (0, .ref (q.2.2 0)), (1, .int (nI (10 * (j / 6) + j % 6))), (2, .int (nI a)), (3, .int (nI b)), (4, .int (nI x)), (5, .int (nI 0)), (6, .int (nI u)), (7, .long (lN (gsm (fun i => if i % 6 < B 9 0 then sGive B i (if i / 6 = j / 6 ∧ i % 6 ≤ j % 6 then a else B 1 i) else 0) i))), (9, .int (nI i))]) rfl ?_
          refine g_lload hC (gDec_at DX7_lost_0 52 rfl) rfl ?_
          refine g_aload_n hC (gDec_at DX7_lost_0 53 rfl) rfl ?_
          refine g_iload hC (gDec_at DX7_lost_0 54 rfl) rfl ?_
          refine g_callVd (w := wM q) hC 0 (c_X7_isThere q hI (i := i) (by omega)) vf_X7_isThere ml_X7_128 (by decide) (show 0 < 17 from by decide) rfl rfl rfl rfl rfl (Nat.le_of_ble_eq_true rfl) (gDec_at DX7_lost_0 55 rfl) ?_
          refine g_if_neB hC (gDec_at DX7_lost_0 56 rfl) 115 (by decide) (fun h108 => ?_) (fun h108 => ?_)
          · skip
            refine g_iload hC (gDec_at DX7_lost_0 59 rfl) rfl ?_
            refine g_if_eqN hC (by decide) (gDec_at DX7_lost_0 60 rfl) 141 (by decide) (fun h => ?_) (fun h => absurd h (by decide))
            refine g_aload_n hC (gDec_at DX7_lost_1 8 rfl) rfl ?_
            refine g_iload hC (gDec_at DX7_lost_1 9 rfl) rfl ?_
            refine g_callVd (w := wM q) hC 0 (c_X7_giveOf q hI (j := i) (by omega) (by omega)) vf_X7_giveOf ml_X7_121 (by decide) (show 0 < 17 from by decide) rfl rfl rfl rfl rfl (Nat.le_of_ble_eq_true rfl) (gDec_at DX7_lost_1 10 rfl) ?_
            refine g_laddN hC (gDec_at DX7_lost_1 11 rfl) ?_
            refine g_lstore hC (gDec_at DX7_lost_1 12 rfl) (by decide) (L' := [(7, .long (lN ((gsm (fun i => if i % 6 < B 9 0 then sGive B i (if i / 6 = j / 6 ∧ i % 6 ≤ j % 6 then a else B 1 i) else 0) i) + (sGive B i (B 1 i))))), (10, .int (nI 0)), (0, .ref (q.2.2 0)), (1, .int (nI (10 * (j / 6) + j % 6))), (2, .int (nI a)), (3, .int (nI b)), (4, .int (nI x)), (5, .int (nI 0)), (6, .int (nI u)), (9, .int (nI i))]) rfl ?_
            refine g_iincN hC (gDec_at DX7_lost_1 13 rfl) rfl (by decide) (L' := [(9, .int (nI (i + 1))), (7, .long (lN ((gsm (fun i => if i % 6 < B 9 0 then sGive B i (if i / 6 = j / 6 ∧ i % 6 ≤ j % 6 then a else B 1 i) else 0) i) + (sGive B i (B 1 i))))), (10, .int (nI 0)), (0, .ref (q.2.2 0)), (1, .int (nI (10 * (j / 6) + j % 6))), (2, .int (nI a)), (3, .int (nI b)), (4, .int (nI x)), (5, .int (nI 0)), (6, .int (nI u))]) rfl ?_
            refine g_goto hC (gDec_at DX7_lost_1 14 rfl) 62 (by decide) ?_
            refine g_sub [3, 4, 5, 6, 7, 8, 9, 1, 0] (L' := [(0, .ref (q.2.2 0)), (1, .int (nI (10 * (j / 6) + j % 6))), (2, .int (nI a)), (3, .int (nI b)), (4, .int (nI x)), (5, .int (nI 0)), (6, .int (nI u)), (7, .long (lN ((gsm (fun i => if i % 6 < B 9 0 then sGive B i (if i / 6 = j / 6 ∧ i % 6 ≤ j % 6 then a else B 1 i) else 0) i) + (sGive B i (B 1 i))))), (9, .int (nI (i + 1)))]) rfl ?_
            have h9 := ih (i + 1) (by omega) (by omega)
            rw [gsm_s (f := (fun i => if i % 6 < B 9 0 then sGive B i (if i / 6 = j / 6 ∧ i % 6 ≤ j % 6 then a else B 1 i) else 0)) ((if_pos h108).trans (congrArg (sGive B i) (if_neg (by omega))))] at h9
            exact h9
          · skip
            refine g_lconst hC (gDec_at DX7_lost_0 57 rfl) (v := lN 0) (by decide) ?_
            refine g_goto hC (gDec_at DX7_lost_0 58 rfl) 147 (by decide) ?_
            refine g_laddN hC (gDec_at DX7_lost_1 11 rfl) ?_
            refine g_lstore hC (gDec_at DX7_lost_1 12 rfl) (by decide) (L' := [(7, .long (lN ((gsm (fun i => if i % 6 < B 9 0 then sGive B i (if i / 6 = j / 6 ∧ i % 6 ≤ j % 6 then a else B 1 i) else 0) i) + 0))), (10, .int (nI 0)), (0, .ref (q.2.2 0)), (1, .int (nI (10 * (j / 6) + j % 6))), (2, .int (nI a)), (3, .int (nI b)), (4, .int (nI x)), (5, .int (nI 0)), (6, .int (nI u)), (9, .int (nI i))]) rfl ?_
            refine g_iincN hC (gDec_at DX7_lost_1 13 rfl) rfl (by decide) (L' := [(9, .int (nI (i + 1))), (7, .long (lN ((gsm (fun i => if i % 6 < B 9 0 then sGive B i (if i / 6 = j / 6 ∧ i % 6 ≤ j % 6 then a else B 1 i) else 0) i) + 0))), (10, .int (nI 0)), (0, .ref (q.2.2 0)), (1, .int (nI (10 * (j / 6) + j % 6))), (2, .int (nI a)), (3, .int (nI b)), (4, .int (nI x)), (5, .int (nI 0)), (6, .int (nI u))]) rfl ?_
            refine g_goto hC (gDec_at DX7_lost_1 14 rfl) 62 (by decide) ?_
            refine g_sub [3, 4, 5, 6, 7, 8, 9, 1, 0] (L' := [(0, .ref (q.2.2 0)), (1, .int (nI (10 * (j / 6) + j % 6))), (2, .int (nI a)), (3, .int (nI b)), (4, .int (nI x)), (5, .int (nI 0)), (6, .int (nI u)), (7, .long (lN ((gsm (fun i => if i % 6 < B 9 0 then sGive B i (if i / 6 = j / 6 ∧ i % 6 ≤ j % 6 then a else B 1 i) else 0) i) + 0))), (9, .int (nI (i + 1)))]) rfl ?_
            have h9 := ih (i + 1) (by omega) (by omega)
            rw [gsm_s0 (f := (fun i => if i % 6 < B 9 0 then sGive B i (if i / 6 = j / 6 ∧ i % 6 ≤ j % 6 then a else B 1 i) else 0)) (if_neg h108)] at h9
            exact h9
        · skip
          refine g_iload hC (gDec_at DX7_lost_0 41 rfl) rfl ?_
          refine g_bipush hC (gDec_at DX7_lost_0 42 rfl) (v := nI 6) (by decide) ?_
          refine g_iremN hC (by omega) (by omega) (by omega) (gDec_at DX7_lost_0 43 rfl) ?_
          refine g_iload_n hC (gDec_at DX7_lost_0 44 rfl) rfl ?_
          refine g_bipush hC (gDec_at DX7_lost_0 45 rfl) (v := nI 10) (by decide) ?_
          refine g_iremN hC (by omega) (by omega) (by omega) (gDec_at DX7_lost_0 46 rfl) ?_
          refine g_icmp_gtN hC (by omega) (by omega) (gDec_at DX7_lost_0 47 rfl) 97 (by decide) (fun h90 => ?_) (fun h90 => ?_)
          · skip
            refine g_iconst hC (gDec_at DX7_lost_0 50 rfl) (v := nI 0) (by decide) ?_
            refine g_istore hC (gDec_at DX7_lost_0 51 rfl) (by decide) (L' := [(10, .int (nI 0)), (0, .ref (q.2.2 0)), (1, .int (nI (10 * (j / 6) + j % 6))), (2, .int (nI a)), (3, .int (nI b)), (4, .int (nI x)), (5, .int (nI 0)), (6, .int (nI u)), (7, .long (lN (gsm (fun i => if i % 6 < B 9 0 then sGive B i (if i / 6 = j / 6 ∧ i % 6 ≤ j % 6 then a else B 1 i) else 0) i))), (9, .int (nI i))]) rfl ?_
            refine g_lload hC (gDec_at DX7_lost_0 52 rfl) rfl ?_
            refine g_aload_n hC (gDec_at DX7_lost_0 53 rfl) rfl ?_
            refine g_iload hC (gDec_at DX7_lost_0 54 rfl) rfl ?_
            refine g_callVd (w := wM q) hC 0 (c_X7_isThere q hI (i := i) (by omega)) vf_X7_isThere ml_X7_128 (by decide) (show 0 < 17 from by decide) rfl rfl rfl rfl rfl (Nat.le_of_ble_eq_true rfl) (gDec_at DX7_lost_0 55 rfl) ?_
            refine g_if_neB hC (gDec_at DX7_lost_0 56 rfl) 115 (by decide) (fun h108_1 => ?_) (fun h108_1 => ?_)
            · skip
              refine g_iload hC (gDec_at DX7_lost_0 59 rfl) rfl ?_
              refine g_if_eqN hC (by decide) (gDec_at DX7_lost_0 60 rfl) 141 (by decide) (fun h => ?_) (fun h => absurd h (by decide))
              refine g_aload_n hC (gDec_at DX7_lost_1 8 rfl) rfl ?_
              refine g_iload hC (gDec_at DX7_lost_1 9 rfl) rfl ?_
              refine g_callVd (w := wM q) hC 0 (c_X7_giveOf q hI (j := i) (by omega) (by omega)) vf_X7_giveOf ml_X7_121 (by decide) (show 0 < 17 from by decide) rfl rfl rfl rfl rfl (Nat.le_of_ble_eq_true rfl) (gDec_at DX7_lost_1 10 rfl) ?_
              refine g_laddN hC (gDec_at DX7_lost_1 11 rfl) ?_
              refine g_lstore hC (gDec_at DX7_lost_1 12 rfl) (by decide) (L' := [(7, .long (lN ((gsm (fun i => if i % 6 < B 9 0 then sGive B i (if i / 6 = j / 6 ∧ i % 6 ≤ j % 6 then a else B 1 i) else 0) i) + (sGive B i (B 1 i))))), (10, .int (nI 0)), (0, .ref (q.2.2 0)), (1, .int (nI (10 * (j / 6) + j % 6))), (2, .int (nI a)), (3, .int (nI b)), (4, .int (nI x)), (5, .int (nI 0)), (6, .int (nI u)), (9, .int (nI i))]) rfl ?_
              refine g_iincN hC (gDec_at DX7_lost_1 13 rfl) rfl (by decide) (L' := [(9, .int (nI (i + 1))), (7, .long (lN ((gsm (fun i => if i % 6 < B 9 0 then sGive B i (if i / 6 = j / 6 ∧ i % 6 ≤ j % 6 then a else B 1 i) else 0) i) + (sGive B i (B 1 i))))), (10, .int (nI 0)), (0, .ref (q.2.2 0)), (1, .int (nI (10 * (j / 6) + j % 6))), (2, .int (nI a)), (3, .int (nI b)), (4, .int (nI x)), (5, .int (nI 0)), (6, .int (nI u))]) rfl ?_
              refine g_goto hC (gDec_at DX7_lost_1 14 rfl) 62 (by decide) ?_
              refine g_sub [3, 4, 5, 6, 7, 8, 9, 1, 0] (L' := [(0, .ref (q.2.2 0)), (1, .int (nI (10 * (j / 6) + j % 6))), (2, .int (nI a)), (3, .int (nI b)), (4, .int (nI x)), (5, .int (nI 0)), (6, .int (nI u)), (7, .long (lN ((gsm (fun i => if i % 6 < B 9 0 then sGive B i (if i / 6 = j / 6 ∧ i % 6 ≤ j % 6 then a else B 1 i) else 0) i) + (sGive B i (B 1 i))))), (9, .int (nI (i + 1)))]) rfl ?_
              have h9 := ih (i + 1) (by omega) (by omega)
              rw [gsm_s (f := (fun i => if i % 6 < B 9 0 then sGive B i (if i / 6 = j / 6 ∧ i % 6 ≤ j % 6 then a else B 1 i) else 0)) ((if_pos h108_1).trans (congrArg (sGive B i) (if_neg (by omega))))] at h9
              exact h9
            · skip
              refine g_lconst hC (gDec_at DX7_lost_0 57 rfl) (v := lN 0) (by decide) ?_
              refine g_goto hC (gDec_at DX7_lost_0 58 rfl) 147 (by decide) ?_
              refine g_laddN hC (gDec_at DX7_lost_1 11 rfl) ?_
              refine g_lstore hC (gDec_at DX7_lost_1 12 rfl) (by decide) (L' := [(7, .long (lN ((gsm (fun i => if i % 6 < B 9 0 then sGive B i (if i / 6 = j / 6 ∧ i % 6 ≤ j % 6 then a else B 1 i) else 0) i) + 0))), (10, .int (nI 0)), (0, .ref (q.2.2 0)), (1, .int (nI (10 * (j / 6) + j % 6))), (2, .int (nI a)), (3, .int (nI b)), (4, .int (nI x)), (5, .int (nI 0)), (6, .int (nI u)), (9, .int (nI i))]) rfl ?_
              refine g_iincN hC (gDec_at DX7_lost_1 13 rfl) rfl (by decide) (L' := [(9, .int (nI (i + 1))), (7, .long (lN ((gsm (fun i => if i % 6 < B 9 0 then sGive B i (if i / 6 = j / 6 ∧ i % 6 ≤ j % 6 then a else B 1 i) else 0) i) + 0))), (10, .int (nI 0)), (0, .ref (q.2.2 0)), (1, .int (nI (10 * (j / 6) + j % 6))), (2, .int (nI a)), (3, .int (nI b)), (4, .int (nI x)), (5, .int (nI 0)), (6, .int (nI u))]) rfl ?_
              refine g_goto hC (gDec_at DX7_lost_1 14 rfl) 62 (by decide) ?_
              refine g_sub [3, 4, 5, 6, 7, 8, 9, 1, 0] (L' := [(0, .ref (q.2.2 0)), (1, .int (nI (10 * (j / 6) + j % 6))), (2, .int (nI a)), (3, .int (nI b)), (4, .int (nI x)), (5, .int (nI 0)), (6, .int (nI u)), (7, .long (lN ((gsm (fun i => if i % 6 < B 9 0 then sGive B i (if i / 6 = j / 6 ∧ i % 6 ≤ j % 6 then a else B 1 i) else 0) i) + 0))), (9, .int (nI (i + 1)))]) rfl ?_
              have h9 := ih (i + 1) (by omega) (by omega)
              rw [gsm_s0 (f := (fun i => if i % 6 < B 9 0 then sGive B i (if i / 6 = j / 6 ∧ i % 6 ≤ j % 6 then a else B 1 i) else 0)) (if_neg h108_1)] at h9
              exact h9
          · skip
            refine g_iconst hC (gDec_at DX7_lost_0 48 rfl) (v := nI 1) (by decide) ?_
            refine g_goto hC (gDec_at DX7_lost_0 49 rfl) 98 (by decide) ?_
            refine g_istore hC (gDec_at DX7_lost_0 51 rfl) (by decide) (L' := [(10, .int (nI 1)), (0, .ref (q.2.2 0)), (1, .int (nI (10 * (j / 6) + j % 6))), (2, .int (nI a)), (3, .int (nI b)), (4, .int (nI x)), (5, .int (nI 0)), (6, .int (nI u)), (7, .long (lN (gsm (fun i => if i % 6 < B 9 0 then sGive B i (if i / 6 = j / 6 ∧ i % 6 ≤ j % 6 then a else B 1 i) else 0) i))), (9, .int (nI i))]) rfl ?_
            refine g_lload hC (gDec_at DX7_lost_0 52 rfl) rfl ?_
            refine g_aload_n hC (gDec_at DX7_lost_0 53 rfl) rfl ?_
            refine g_iload hC (gDec_at DX7_lost_0 54 rfl) rfl ?_
            refine g_callVd (w := wM q) hC 0 (c_X7_isThere q hI (i := i) (by omega)) vf_X7_isThere ml_X7_128 (by decide) (show 0 < 17 from by decide) rfl rfl rfl rfl rfl (Nat.le_of_ble_eq_true rfl) (gDec_at DX7_lost_0 55 rfl) ?_
            refine g_if_neB hC (gDec_at DX7_lost_0 56 rfl) 115 (by decide) (fun h108_2 => ?_) (fun h108_2 => ?_)
            · skip
              refine g_iload hC (gDec_at DX7_lost_0 59 rfl) rfl ?_
              refine g_if_eqN hC (by decide) (gDec_at DX7_lost_0 60 rfl) 141 (by decide) (fun h => absurd h (by decide)) (fun h => ?_)
              refine g_aload_n hC (gDec_at DX7_lost_0 61 rfl) rfl ?_
              refine g_iload hC (gDec_at DX7_lost_0 62 rfl) rfl ?_
              refine g_iload hC (gDec_at DX7_lost_0 63 rfl) rfl ?_
              refine g_if_eqN hC (by decide) (gDec_at DX7_lost_1 0 rfl) 133 (by decide) (fun h => ?_) (fun h => absurd h (by decide))
              refine g_iload_n hC (gDec_at DX7_lost_1 4 rfl) rfl ?_
              refine g_i2lN hC (by omega) (gDec_at DX7_lost_1 5 rfl) ?_
              refine g_callVd (w := wM q) hC 0 (c_X7_giveBy q hI (j := i) (by omega) (by omega) (d := a) (by omega) (by omega)) vf_X7_giveBy ml_X7_117 (by decide) (show 0 < 17 from by decide) rfl rfl rfl rfl rfl (Nat.le_of_ble_eq_true rfl) (gDec_at DX7_lost_1 6 rfl) ?_
              refine g_goto hC (gDec_at DX7_lost_1 7 rfl) 147 (by decide) ?_
              refine g_laddN hC (gDec_at DX7_lost_1 11 rfl) ?_
              refine g_lstore hC (gDec_at DX7_lost_1 12 rfl) (by decide) (L' := [(7, .long (lN ((gsm (fun i => if i % 6 < B 9 0 then sGive B i (if i / 6 = j / 6 ∧ i % 6 ≤ j % 6 then a else B 1 i) else 0) i) + (sGive B i a)))), (10, .int (nI 1)), (0, .ref (q.2.2 0)), (1, .int (nI (10 * (j / 6) + j % 6))), (2, .int (nI a)), (3, .int (nI b)), (4, .int (nI x)), (5, .int (nI 0)), (6, .int (nI u)), (9, .int (nI i))]) rfl ?_
              refine g_iincN hC (gDec_at DX7_lost_1 13 rfl) rfl (by decide) (L' := [(9, .int (nI (i + 1))), (7, .long (lN ((gsm (fun i => if i % 6 < B 9 0 then sGive B i (if i / 6 = j / 6 ∧ i % 6 ≤ j % 6 then a else B 1 i) else 0) i) + (sGive B i a)))), (10, .int (nI 1)), (0, .ref (q.2.2 0)), (1, .int (nI (10 * (j / 6) + j % 6))), (2, .int (nI a)), (3, .int (nI b)), (4, .int (nI x)), (5, .int (nI 0)), (6, .int (nI u))]) rfl ?_
              refine g_goto hC (gDec_at DX7_lost_1 14 rfl) 62 (by decide) ?_
              refine g_sub [3, 4, 5, 6, 7, 8, 9, 1, 0] (L' := [(0, .ref (q.2.2 0)), (1, .int (nI (10 * (j / 6) + j % 6))), (2, .int (nI a)), (3, .int (nI b)), (4, .int (nI x)), (5, .int (nI 0)), (6, .int (nI u)), (7, .long (lN ((gsm (fun i => if i % 6 < B 9 0 then sGive B i (if i / 6 = j / 6 ∧ i % 6 ≤ j % 6 then a else B 1 i) else 0) i) + (sGive B i a)))), (9, .int (nI (i + 1)))]) rfl ?_
              have h9 := ih (i + 1) (by omega) (by omega)
              rw [gsm_s (f := (fun i => if i % 6 < B 9 0 then sGive B i (if i / 6 = j / 6 ∧ i % 6 ≤ j % 6 then a else B 1 i) else 0)) ((if_pos h108_2).trans (congrArg (sGive B i) (if_pos (by omega))))] at h9
              exact h9
            · skip
              refine g_lconst hC (gDec_at DX7_lost_0 57 rfl) (v := lN 0) (by decide) ?_
              refine g_goto hC (gDec_at DX7_lost_0 58 rfl) 147 (by decide) ?_
              refine g_laddN hC (gDec_at DX7_lost_1 11 rfl) ?_
              refine g_lstore hC (gDec_at DX7_lost_1 12 rfl) (by decide) (L' := [(7, .long (lN ((gsm (fun i => if i % 6 < B 9 0 then sGive B i (if i / 6 = j / 6 ∧ i % 6 ≤ j % 6 then a else B 1 i) else 0) i) + 0))), (10, .int (nI 1)), (0, .ref (q.2.2 0)), (1, .int (nI (10 * (j / 6) + j % 6))), (2, .int (nI a)), (3, .int (nI b)), (4, .int (nI x)), (5, .int (nI 0)), (6, .int (nI u)), (9, .int (nI i))]) rfl ?_
              refine g_iincN hC (gDec_at DX7_lost_1 13 rfl) rfl (by decide) (L' := [(9, .int (nI (i + 1))), (7, .long (lN ((gsm (fun i => if i % 6 < B 9 0 then sGive B i (if i / 6 = j / 6 ∧ i % 6 ≤ j % 6 then a else B 1 i) else 0) i) + 0))), (10, .int (nI 1)), (0, .ref (q.2.2 0)), (1, .int (nI (10 * (j / 6) + j % 6))), (2, .int (nI a)), (3, .int (nI b)), (4, .int (nI x)), (5, .int (nI 0)), (6, .int (nI u))]) rfl ?_
              refine g_goto hC (gDec_at DX7_lost_1 14 rfl) 62 (by decide) ?_
              refine g_sub [3, 4, 5, 6, 7, 8, 9, 1, 0] (L' := [(0, .ref (q.2.2 0)), (1, .int (nI (10 * (j / 6) + j % 6))), (2, .int (nI a)), (3, .int (nI b)), (4, .int (nI x)), (5, .int (nI 0)), (6, .int (nI u)), (7, .long (lN ((gsm (fun i => if i % 6 < B 9 0 then sGive B i (if i / 6 = j / 6 ∧ i % 6 ≤ j % 6 then a else B 1 i) else 0) i) + 0))), (9, .int (nI (i + 1)))]) rfl ?_
              have h9 := ih (i + 1) (by omega) (by omega)
              rw [gsm_s0 (f := (fun i => if i % 6 < B 9 0 then sGive B i (if i / 6 = j / 6 ∧ i % 6 ≤ j % 6 then a else B 1 i) else 0)) (if_neg h108_2)] at h9
              exact h9
  exact g_sub [2, 3, 4, 5, 6, 7, 8, 1, 0] rfl (loop62 (12 + 1 - 0) 0 (by omega) (by omega))

set_option maxRecDepth 100000 in
set_option maxHeartbeats 4000000 in
theorem c_X7_lost_ok1 (q : gQ3) {M : gM} {B : gB} (hI : mI M B) {j : Nat} (hj : j < 12) (ht : j % 6 < B 9 0) {a : Nat} (haa : 4 ≤ a) (hab : a ≤ 40) {b : Nat} (hba : a ≤ b) (hbb : b ≤ 40) {x : Nat} (hx : x ≤ 40) {u : Nat} (hu : u ≤ 1) : gCt (wM q) yX7_lost cX7_lost 11 (some .long) 8 [.ref (q.2.2 0), .int (nI (10 * (j / 6) + j % 6)), .int (nI a), .int (nI b), .int (nI x), .int (nI 1), .int (nI u)] M (gR (some (.long (lN (sTo (sPull B x) (sLost B j b) u)))) M) := by
  refine gMet RX7 (by decide +kernel) rfl (Nat.le_of_ble_eq_true rfl) (fun X hC => ?_)
  have hC : gC X (wM q) cX7_lost 11 RX7 (some .long) 8 := hC
  show gG X (wM q) _ 11 M 0 [(0, .ref (q.2.2 0)), (1, .int (nI (10 * (j / 6) + j % 6))), (2, .int (nI a)), (3, .int (nI b)), (4, .int (nI x)), (5, .int (nI 1)), (6, .int (nI u))] []
  have hpl := sPull_le B hx
  have hla := sLost_le B j b
  have hlp := sLost_ps hI.2.2 hj ht (d := b) (by omega) (by omega)
  refine g_aload_n hC (gDec_at DX7_lost_0 0 rfl) rfl ?_
  refine g_iconst hC (gDec_at DX7_lost_0 1 rfl) (v := nI 0) (by decide) ?_
  refine g_putI (w := wM q) hC 0 fl_X7_67 fp_7_0 (show 0 < 17 from by decide) rfl (Nat.le_of_ble_eq_true rfl) rfl rfl (gDec_at DX7_lost_0 2 rfl) ?_
  refine g_M (mi_0 hI) ?_
  refine g_aload_n hC (gDec_at DX7_lost_0 3 rfl) rfl ?_
  refine g_iload_n hC (gDec_at DX7_lost_0 4 rfl) rfl ?_
  refine g_callVd (w := wM q) hC 0 (c_X7_noPlace_in q hI hj (ht)) vf_X7_noPlace ml_X7_108 (by decide) (show 0 < 17 from by decide) rfl rfl rfl rfl rfl (Nat.le_of_ble_eq_true rfl) (gDec_at DX7_lost_0 5 rfl) ?_
  refine g_if_eqN hC (by decide) (gDec_at DX7_lost_0 6 rfl) 17 (by decide) (fun h => ?_) (fun h => absurd h (by decide))
  refine g_iload_n hC (gDec_at DX7_lost_0 9 rfl) rfl ?_
  refine g_i2lN hC (by omega) (gDec_at DX7_lost_0 10 rfl) ?_
  refine g_ldc2 hC cl_X7_217 (v' := lN 4) (by decide) (gDec_at DX7_lost_0 11 rfl) ?_
  refine g_ldc2 hC cl_X7_70 (v' := lN 40) (by decide) (gDec_at DX7_lost_0 12 rfl) ?_
  refine g_callSd (w := wM q) hC (c_X7_in_yes q (v := a) (a := 4) (b := 40) (by omega) (by omega) (by omega)) sf_X7_in ml_X7_72 (by decide) rfl rfl (Nat.le_of_ble_eq_true rfl) (gDec_at DX7_lost_0 13 rfl) ?_
  refine g_if_eqN hC (by decide) (gDec_at DX7_lost_0 14 rfl) 52 (by decide) (fun h => absurd h (by decide)) (fun h => ?_)
  refine g_iload_n hC (gDec_at DX7_lost_0 15 rfl) rfl ?_
  refine g_i2lN hC (by omega) (gDec_at DX7_lost_0 16 rfl) ?_
  refine g_iload_n hC (gDec_at DX7_lost_0 17 rfl) rfl ?_
  refine g_i2lN hC (by omega) (gDec_at DX7_lost_0 18 rfl) ?_
  refine g_ldc2 hC cl_X7_70 (v' := lN 40) (by decide) (gDec_at DX7_lost_0 19 rfl) ?_
  refine g_callSd (w := wM q) hC (c_X7_in_yes q (v := b) (a := a) (b := 40) (by omega) (by omega) (by omega)) sf_X7_in ml_X7_72 (by decide) rfl rfl (Nat.le_of_ble_eq_true rfl) (gDec_at DX7_lost_0 20 rfl) ?_
  refine g_if_eqN hC (by decide) (gDec_at DX7_lost_0 21 rfl) 52 (by decide) (fun h => absurd h (by decide)) (fun h => ?_)
  refine g_iload hC (gDec_at DX7_lost_0 22 rfl) rfl ?_
  refine g_callSd (w := wM q) hC (c_X7_noInches_in q (k := x) (by omega)) sf_X7_noInches ml_X7_147 (by decide) rfl rfl (Nat.le_of_ble_eq_true rfl) (gDec_at DX7_lost_0 23 rfl) ?_
  refine g_if_eqN hC (by decide) (gDec_at DX7_lost_0 24 rfl) 56 (by decide) (fun h => ?_) (fun h => absurd h (by decide))
  refine g_lconst hC (gDec_at DX7_lost_0 27 rfl) (v := lN 0) (by decide) ?_
  refine g_lstore hC (gDec_at DX7_lost_0 28 rfl) (by decide) (L' := [(7, .long (lN 0)), (0, .ref (q.2.2 0)), (1, .int (nI (10 * (j / 6) + j % 6))), (2, .int (nI a)), (3, .int (nI b)), (4, .int (nI x)), (5, .int (nI 1)), (6, .int (nI u))]) rfl ?_
  refine g_iconst hC (gDec_at DX7_lost_0 29 rfl) (v := nI 0) (by decide) ?_
  refine g_istore hC (gDec_at DX7_lost_0 30 rfl) (by decide) (L' := [(9, .int (nI 0)), (7, .long (lN 0)), (0, .ref (q.2.2 0)), (1, .int (nI (10 * (j / 6) + j % 6))), (2, .int (nI a)), (3, .int (nI b)), (4, .int (nI x)), (5, .int (nI 1)), (6, .int (nI u))]) rfl ?_
  have loop62 : ∀ (fu i : Nat), i ≤ 12 → 12 - i < fu → gG X (wM q) (gR (some (.long (lN (sTo (sPull B x) (sLost B j b) u)))) M) 11 M 62 [(0, .ref (q.2.2 0)), (1, .int (nI (10 * (j / 6) + j % 6))), (2, .int (nI a)), (3, .int (nI b)), (4, .int (nI x)), (5, .int (nI 1)), (6, .int (nI u)), (7, .long (lN (gsm (fun i => if i % 6 < B 9 0 then sGive B i (if i / 6 = j / 6 ∧ i % 6 ≤ j % 6 then b else B 1 i) else 0) i))), (9, .int (nI i))] [] := by
    intro fu; induction fu with
    | zero => intro i h1 h2; omega
    | succ fu ih =>
      intro i hi hfu 
      refine g_iload hC (gDec_at DX7_lost_0 31 rfl) rfl ?_
      refine g_bipush hC (gDec_at DX7_lost_0 32 rfl) (v := nI 12) (by decide) ?_
      refine g_icmp_geN hC (by omega) (by omega) (gDec_at DX7_lost_0 33 rfl) 156 (by decide) (fun h66 => ?_) (fun h66 => ?_)
      · skip
        obtain rfl : i = 12 := by omega
        refine g_aload_n hC (gDec_at DX7_lost_1 15 rfl) rfl ?_
        refine g_iload hC (gDec_at DX7_lost_1 16 rfl) rfl ?_
        refine g_callVd (w := wM q) hC 0 (c_X7_pull q hI (x := x) (by omega)) vf_X7_pull ml_X7_136 (by decide) (show 0 < 17 from by decide) rfl rfl rfl rfl rfl (Nat.le_of_ble_eq_true rfl) (gDec_at DX7_lost_1 17 rfl) ?_
        refine g_lload hC (gDec_at DX7_lost_1 18 rfl) rfl ?_
        refine g_iload hC (gDec_at DX7_lost_1 19 rfl) rfl ?_
        refine g_callSd (w := wM q) hC (c_X7_told q (a := sPull B x) (b := sLost B j b) (u := u) (by omega) (by omega) (by omega) (by omega)) sf_X7_told ml_X7_152 (by decide) rfl rfl (Nat.le_of_ble_eq_true rfl) (gDec_at DX7_lost_1 20 rfl) ?_
        refine g_lret hC (gDec_at DX7_lost_1 21 rfl) ?_
        exact ⟨rfl, rfl⟩
      · skip
        refine g_iload hC (gDec_at DX7_lost_0 34 rfl) rfl ?_
        refine g_bipush hC (gDec_at DX7_lost_0 35 rfl) (v := nI 6) (by decide) ?_
        refine g_idivN hC (by omega) (by omega) (by omega) (gDec_at DX7_lost_0 36 rfl) ?_
        refine g_iload_n hC (gDec_at DX7_lost_0 37 rfl) rfl ?_
        refine g_bipush hC (gDec_at DX7_lost_0 38 rfl) (v := nI 10) (by decide) ?_
        refine g_idivN hC (by omega) (by omega) (by omega) (gDec_at DX7_lost_0 39 rfl) ?_
        refine g_icmp_neN hC (by omega) (by omega) (gDec_at DX7_lost_0 40 rfl) 97 (by decide) (fun h78 => ?_) (fun h78 => ?_)
        · skip
          refine g_iconst hC (gDec_at DX7_lost_0 50 rfl) (v := nI 0) (by decide) ?_
          refine g_istore hC (gDec_at DX7_lost_0 51 rfl) (by decide) (L' := [(10, .int (nI 0)), (0, .ref (q.2.2 0)), (1, .int (nI (10 * (j / 6) + j % 6))), (2, .int (nI a)), (3, .int (nI b)), (4, .int (nI x)), (5, .int (nI 1)), (6, .int (nI u)), (7, .long (lN (gsm (fun i => if i % 6 < B 9 0 then sGive B i (if i / 6 = j / 6 ∧ i % 6 ≤ j % 6 then b else B 1 i) else 0) i))), (9, .int (nI i))]) rfl ?_
          refine g_lload hC (gDec_at DX7_lost_0 52 rfl) rfl ?_
          refine g_aload_n hC (gDec_at DX7_lost_0 53 rfl) rfl ?_
          refine g_iload hC (gDec_at DX7_lost_0 54 rfl) rfl ?_
          refine g_callVd (w := wM q) hC 0 (c_X7_isThere q hI (i := i) (by omega)) vf_X7_isThere ml_X7_128 (by decide) (show 0 < 17 from by decide) rfl rfl rfl rfl rfl (Nat.le_of_ble_eq_true rfl) (gDec_at DX7_lost_0 55 rfl) ?_
          refine g_if_neB hC (gDec_at DX7_lost_0 56 rfl) 115 (by decide) (fun h108 => ?_) (fun h108 => ?_)
          · skip
            refine g_iload hC (gDec_at DX7_lost_0 59 rfl) rfl ?_
            refine g_if_eqN hC (by decide) (gDec_at DX7_lost_0 60 rfl) 141 (by decide) (fun h => ?_) (fun h => absurd h (by decide))
            refine g_aload_n hC (gDec_at DX7_lost_1 8 rfl) rfl ?_
            refine g_iload hC (gDec_at DX7_lost_1 9 rfl) rfl ?_
            refine g_callVd (w := wM q) hC 0 (c_X7_giveOf q hI (j := i) (by omega) (by omega)) vf_X7_giveOf ml_X7_121 (by decide) (show 0 < 17 from by decide) rfl rfl rfl rfl rfl (Nat.le_of_ble_eq_true rfl) (gDec_at DX7_lost_1 10 rfl) ?_
            refine g_laddN hC (gDec_at DX7_lost_1 11 rfl) ?_
            refine g_lstore hC (gDec_at DX7_lost_1 12 rfl) (by decide) (L' := [(7, .long (lN ((gsm (fun i => if i % 6 < B 9 0 then sGive B i (if i / 6 = j / 6 ∧ i % 6 ≤ j % 6 then b else B 1 i) else 0) i) + (sGive B i (B 1 i))))), (10, .int (nI 0)), (0, .ref (q.2.2 0)), (1, .int (nI (10 * (j / 6) + j % 6))), (2, .int (nI a)), (3, .int (nI b)), (4, .int (nI x)), (5, .int (nI 1)), (6, .int (nI u)), (9, .int (nI i))]) rfl ?_
            refine g_iincN hC (gDec_at DX7_lost_1 13 rfl) rfl (by decide) (L' := [(9, .int (nI (i + 1))), (7, .long (lN ((gsm (fun i => if i % 6 < B 9 0 then sGive B i (if i / 6 = j / 6 ∧ i % 6 ≤ j % 6 then b else B 1 i) else 0) i) + (sGive B i (B 1 i))))), (10, .int (nI 0)), (0, .ref (q.2.2 0)), (1, .int (nI (10 * (j / 6) + j % 6))), (2, .int (nI a)), (3, .int (nI b)), (4, .int (nI x)), (5, .int (nI 1)), (6, .int (nI u))]) rfl ?_
            refine g_goto hC (gDec_at DX7_lost_1 14 rfl) 62 (by decide) ?_
            refine g_sub [3, 4, 5, 6, 7, 8, 9, 1, 0] (L' := [(0, .ref (q.2.2 0)), (1, .int (nI (10 * (j / 6) + j % 6))), (2, .int (nI a)), (3, .int (nI b)), (4, .int (nI x)), (5, .int (nI 1)), (6, .int (nI u)), (7, .long (lN ((gsm (fun i => if i % 6 < B 9 0 then sGive B i (if i / 6 = j / 6 ∧ i % 6 ≤ j % 6 then b else B 1 i) else 0) i) + (sGive B i (B 1 i))))), (9, .int (nI (i + 1)))]) rfl ?_
            have h9 := ih (i + 1) (by omega) (by omega)
            rw [gsm_s (f := (fun i => if i % 6 < B 9 0 then sGive B i (if i / 6 = j / 6 ∧ i % 6 ≤ j % 6 then b else B 1 i) else 0)) ((if_pos h108).trans (congrArg (sGive B i) (if_neg (by omega))))] at h9
            exact h9
          · skip
            refine g_lconst hC (gDec_at DX7_lost_0 57 rfl) (v := lN 0) (by decide) ?_
            refine g_goto hC (gDec_at DX7_lost_0 58 rfl) 147 (by decide) ?_
            refine g_laddN hC (gDec_at DX7_lost_1 11 rfl) ?_
            refine g_lstore hC (gDec_at DX7_lost_1 12 rfl) (by decide) (L' := [(7, .long (lN ((gsm (fun i => if i % 6 < B 9 0 then sGive B i (if i / 6 = j / 6 ∧ i % 6 ≤ j % 6 then b else B 1 i) else 0) i) + 0))), (10, .int (nI 0)), (0, .ref (q.2.2 0)), (1, .int (nI (10 * (j / 6) + j % 6))), (2, .int (nI a)), (3, .int (nI b)), (4, .int (nI x)), (5, .int (nI 1)), (6, .int (nI u)), (9, .int (nI i))]) rfl ?_
            refine g_iincN hC (gDec_at DX7_lost_1 13 rfl) rfl (by decide) (L' := [(9, .int (nI (i + 1))), (7, .long (lN ((gsm (fun i => if i % 6 < B 9 0 then sGive B i (if i / 6 = j / 6 ∧ i % 6 ≤ j % 6 then b else B 1 i) else 0) i) + 0))), (10, .int (nI 0)), (0, .ref (q.2.2 0)), (1, .int (nI (10 * (j / 6) + j % 6))), (2, .int (nI a)), (3, .int (nI b)), (4, .int (nI x)), (5, .int (nI 1)), (6, .int (nI u))]) rfl ?_
            refine g_goto hC (gDec_at DX7_lost_1 14 rfl) 62 (by decide) ?_
            refine g_sub [3, 4, 5, 6, 7, 8, 9, 1, 0] (L' := [(0, .ref (q.2.2 0)), (1, .int (nI (10 * (j / 6) + j % 6))), (2, .int (nI a)), (3, .int (nI b)), (4, .int (nI x)), (5, .int (nI 1)), (6, .int (nI u)), (7, .long (lN ((gsm (fun i => if i % 6 < B 9 0 then sGive B i (if i / 6 = j / 6 ∧ i % 6 ≤ j % 6 then b else B 1 i) else 0) i) + 0))), (9, .int (nI (i + 1)))]) rfl ?_
            have h9 := ih (i + 1) (by omega) (by omega)
            rw [gsm_s0 (f := (fun i => if i % 6 < B 9 0 then sGive B i (if i / 6 = j / 6 ∧ i % 6 ≤ j % 6 then b else B 1 i) else 0)) (if_neg h108)] at h9
            exact h9
        · skip
          refine g_iload hC (gDec_at DX7_lost_0 41 rfl) rfl ?_
          refine g_bipush hC (gDec_at DX7_lost_0 42 rfl) (v := nI 6) (by decide) ?_
          refine g_iremN hC (by omega) (by omega) (by omega) (gDec_at DX7_lost_0 43 rfl) ?_
          refine g_iload_n hC (gDec_at DX7_lost_0 44 rfl) rfl ?_
          refine g_bipush hC (gDec_at DX7_lost_0 45 rfl) (v := nI 10) (by decide) ?_
          refine g_iremN hC (by omega) (by omega) (by omega) (gDec_at DX7_lost_0 46 rfl) ?_
          refine g_icmp_gtN hC (by omega) (by omega) (gDec_at DX7_lost_0 47 rfl) 97 (by decide) (fun h90 => ?_) (fun h90 => ?_)
          · skip
            refine g_iconst hC (gDec_at DX7_lost_0 50 rfl) (v := nI 0) (by decide) ?_
            refine g_istore hC (gDec_at DX7_lost_0 51 rfl) (by decide) (L' := [(10, .int (nI 0)), (0, .ref (q.2.2 0)), (1, .int (nI (10 * (j / 6) + j % 6))), (2, .int (nI a)), (3, .int (nI b)), (4, .int (nI x)), (5, .int (nI 1)), (6, .int (nI u)), (7, .long (lN (gsm (fun i => if i % 6 < B 9 0 then sGive B i (if i / 6 = j / 6 ∧ i % 6 ≤ j % 6 then b else B 1 i) else 0) i))), (9, .int (nI i))]) rfl ?_
            refine g_lload hC (gDec_at DX7_lost_0 52 rfl) rfl ?_
            refine g_aload_n hC (gDec_at DX7_lost_0 53 rfl) rfl ?_
            refine g_iload hC (gDec_at DX7_lost_0 54 rfl) rfl ?_
            refine g_callVd (w := wM q) hC 0 (c_X7_isThere q hI (i := i) (by omega)) vf_X7_isThere ml_X7_128 (by decide) (show 0 < 17 from by decide) rfl rfl rfl rfl rfl (Nat.le_of_ble_eq_true rfl) (gDec_at DX7_lost_0 55 rfl) ?_
            refine g_if_neB hC (gDec_at DX7_lost_0 56 rfl) 115 (by decide) (fun h108_1 => ?_) (fun h108_1 => ?_)
            · skip
              refine g_iload hC (gDec_at DX7_lost_0 59 rfl) rfl ?_
              refine g_if_eqN hC (by decide) (gDec_at DX7_lost_0 60 rfl) 141 (by decide) (fun h => ?_) (fun h => absurd h (by decide))
              refine g_aload_n hC (gDec_at DX7_lost_1 8 rfl) rfl ?_
              refine g_iload hC (gDec_at DX7_lost_1 9 rfl) rfl ?_
              refine g_callVd (w := wM q) hC 0 (c_X7_giveOf q hI (j := i) (by omega) (by omega)) vf_X7_giveOf ml_X7_121 (by decide) (show 0 < 17 from by decide) rfl rfl rfl rfl rfl (Nat.le_of_ble_eq_true rfl) (gDec_at DX7_lost_1 10 rfl) ?_
              refine g_laddN hC (gDec_at DX7_lost_1 11 rfl) ?_
              refine g_lstore hC (gDec_at DX7_lost_1 12 rfl) (by decide) (L' := [(7, .long (lN ((gsm (fun i => if i % 6 < B 9 0 then sGive B i (if i / 6 = j / 6 ∧ i % 6 ≤ j % 6 then b else B 1 i) else 0) i) + (sGive B i (B 1 i))))), (10, .int (nI 0)), (0, .ref (q.2.2 0)), (1, .int (nI (10 * (j / 6) + j % 6))), (2, .int (nI a)), (3, .int (nI b)), (4, .int (nI x)), (5, .int (nI 1)), (6, .int (nI u)), (9, .int (nI i))]) rfl ?_
              refine g_iincN hC (gDec_at DX7_lost_1 13 rfl) rfl (by decide) (L' := [(9, .int (nI (i + 1))), (7, .long (lN ((gsm (fun i => if i % 6 < B 9 0 then sGive B i (if i / 6 = j / 6 ∧ i % 6 ≤ j % 6 then b else B 1 i) else 0) i) + (sGive B i (B 1 i))))), (10, .int (nI 0)), (0, .ref (q.2.2 0)), (1, .int (nI (10 * (j / 6) + j % 6))), (2, .int (nI a)), (3, .int (nI b)), (4, .int (nI x)), (5, .int (nI 1)), (6, .int (nI u))]) rfl ?_
              refine g_goto hC (gDec_at DX7_lost_1 14 rfl) 62 (by decide) ?_
              refine g_sub [3, 4, 5, 6, 7, 8, 9, 1, 0] (L' := [(0, .ref (q.2.2 0)), (1, .int (nI (10 * (j / 6) + j % 6))), (2, .int (nI a)), (3, .int (nI b)), (4, .int (nI x)), (5, .int (nI 1)), (6, .int (nI u)), (7, .long (lN ((gsm (fun i => if i % 6 < B 9 0 then sGive B i (if i / 6 = j / 6 ∧ i % 6 ≤ j % 6 then b else B 1 i) else 0) i) + (sGive B i (B 1 i))))), (9, .int (nI (i + 1)))]) rfl ?_
              have h9 := ih (i + 1) (by omega) (by omega)
              rw [gsm_s (f := (fun i => if i % 6 < B 9 0 then sGive B i (if i / 6 = j / 6 ∧ i % 6 ≤ j % 6 then b else B 1 i) else 0)) ((if_pos h108_1).trans (congrArg (sGive B i) (if_neg (by omega))))] at h9
              exact h9
            · skip
              refine g_lconst hC (gDec_at DX7_lost_0 57 rfl) (v := lN 0) (by decide) ?_
              refine g_goto hC (gDec_at DX7_lost_0 58 rfl) 147 (by decide) ?_
              refine g_laddN hC (gDec_at DX7_lost_1 11 rfl) ?_
              refine g_lstore hC (gDec_at DX7_lost_1 12 rfl) (by decide) (L' := [(7, .long (lN ((gsm (fun i => if i % 6 < B 9 0 then sGive B i (if i / 6 = j / 6 ∧ i % 6 ≤ j % 6 then b else B 1 i) else 0) i) + 0))), (10, .int (nI 0)), (0, .ref (q.2.2 0)), (1, .int (nI (10 * (j / 6) + j % 6))), (2, .int (nI a)), (3, .int (nI b)), (4, .int (nI x)), (5, .int (nI 1)), (6, .int (nI u)), (9, .int (nI i))]) rfl ?_
              refine g_iincN hC (gDec_at DX7_lost_1 13 rfl) rfl (by decide) (L' := [(9, .int (nI (i + 1))), (7, .long (lN ((gsm (fun i => if i % 6 < B 9 0 then sGive B i (if i / 6 = j / 6 ∧ i % 6 ≤ j % 6 then b else B 1 i) else 0) i) + 0))), (10, .int (nI 0)), (0, .ref (q.2.2 0)), (1, .int (nI (10 * (j / 6) + j % 6))), (2, .int (nI a)), (3, .int (nI b)), (4, .int (nI x)), (5, .int (nI 1)), (6, .int (nI u))]) rfl ?_
              refine g_goto hC (gDec_at DX7_lost_1 14 rfl) 62 (by decide) ?_
              refine g_sub [3, 4, 5, 6, 7, 8, 9, 1, 0] (L' := [(0, .ref (q.2.2 0)), (1, .int (nI (10 * (j / 6) + j % 6))), (2, .int (nI a)), (3, .int (nI b)), (4, .int (nI x)), (5, .int (nI 1)), (6, .int (nI u)), (7, .long (lN ((gsm (fun i => if i % 6 < B 9 0 then sGive B i (if i / 6 = j / 6 ∧ i % 6 ≤ j % 6 then b else B 1 i) else 0) i) + 0))), (9, .int (nI (i + 1)))]) rfl ?_
              have h9 := ih (i + 1) (by omega) (by omega)
              rw [gsm_s0 (f := (fun i => if i % 6 < B 9 0 then sGive B i (if i / 6 = j / 6 ∧ i % 6 ≤ j % 6 then b else B 1 i) else 0)) (if_neg h108_1)] at h9
              exact h9
          · skip
            refine g_iconst hC (gDec_at DX7_lost_0 48 rfl) (v := nI 1) (by decide) ?_
            refine g_goto hC (gDec_at DX7_lost_0 49 rfl) 98 (by decide) ?_
            refine g_istore hC (gDec_at DX7_lost_0 51 rfl) (by decide) (L' := [(10, .int (nI 1)), (0, .ref (q.2.2 0)), (1, .int (nI (10 * (j / 6) + j % 6))), (2, .int (nI a)), (3, .int (nI b)), (4, .int (nI x)), (5, .int (nI 1)), (6, .int (nI u)), (7, .long (lN (gsm (fun i => if i % 6 < B 9 0 then sGive B i (if i / 6 = j / 6 ∧ i % 6 ≤ j % 6 then b else B 1 i) else 0) i))), (9, .int (nI i))]) rfl ?_
            refine g_lload hC (gDec_at DX7_lost_0 52 rfl) rfl ?_
            refine g_aload_n hC (gDec_at DX7_lost_0 53 rfl) rfl ?_
            refine g_iload hC (gDec_at DX7_lost_0 54 rfl) rfl ?_
            refine g_callVd (w := wM q) hC 0 (c_X7_isThere q hI (i := i) (by omega)) vf_X7_isThere ml_X7_128 (by decide) (show 0 < 17 from by decide) rfl rfl rfl rfl rfl (Nat.le_of_ble_eq_true rfl) (gDec_at DX7_lost_0 55 rfl) ?_
            refine g_if_neB hC (gDec_at DX7_lost_0 56 rfl) 115 (by decide) (fun h108_2 => ?_) (fun h108_2 => ?_)
            · skip
              refine g_iload hC (gDec_at DX7_lost_0 59 rfl) rfl ?_
              refine g_if_eqN hC (by decide) (gDec_at DX7_lost_0 60 rfl) 141 (by decide) (fun h => absurd h (by decide)) (fun h => ?_)
              refine g_aload_n hC (gDec_at DX7_lost_0 61 rfl) rfl ?_
              refine g_iload hC (gDec_at DX7_lost_0 62 rfl) rfl ?_
              refine g_iload hC (gDec_at DX7_lost_0 63 rfl) rfl ?_
              refine g_if_eqN hC (by decide) (gDec_at DX7_lost_1 0 rfl) 133 (by decide) (fun h => absurd h (by decide)) (fun h => ?_)
              refine g_iload_n hC (gDec_at DX7_lost_1 1 rfl) rfl ?_
              refine g_i2lN hC (by omega) (gDec_at DX7_lost_1 2 rfl) ?_
              refine g_goto hC (gDec_at DX7_lost_1 3 rfl) 135 (by decide) ?_
              refine g_callVd (w := wM q) hC 0 (c_X7_giveBy q hI (j := i) (by omega) (by omega) (d := b) (by omega) (by omega)) vf_X7_giveBy ml_X7_117 (by decide) (show 0 < 17 from by decide) rfl rfl rfl rfl rfl (Nat.le_of_ble_eq_true rfl) (gDec_at DX7_lost_1 6 rfl) ?_
              refine g_goto hC (gDec_at DX7_lost_1 7 rfl) 147 (by decide) ?_
              refine g_laddN hC (gDec_at DX7_lost_1 11 rfl) ?_
              refine g_lstore hC (gDec_at DX7_lost_1 12 rfl) (by decide) (L' := [(7, .long (lN ((gsm (fun i => if i % 6 < B 9 0 then sGive B i (if i / 6 = j / 6 ∧ i % 6 ≤ j % 6 then b else B 1 i) else 0) i) + (sGive B i b)))), (10, .int (nI 1)), (0, .ref (q.2.2 0)), (1, .int (nI (10 * (j / 6) + j % 6))), (2, .int (nI a)), (3, .int (nI b)), (4, .int (nI x)), (5, .int (nI 1)), (6, .int (nI u)), (9, .int (nI i))]) rfl ?_
              refine g_iincN hC (gDec_at DX7_lost_1 13 rfl) rfl (by decide) (L' := [(9, .int (nI (i + 1))), (7, .long (lN ((gsm (fun i => if i % 6 < B 9 0 then sGive B i (if i / 6 = j / 6 ∧ i % 6 ≤ j % 6 then b else B 1 i) else 0) i) + (sGive B i b)))), (10, .int (nI 1)), (0, .ref (q.2.2 0)), (1, .int (nI (10 * (j / 6) + j % 6))), (2, .int (nI a)), (3, .int (nI b)), (4, .int (nI x)), (5, .int (nI 1)), (6, .int (nI u))]) rfl ?_
              refine g_goto hC (gDec_at DX7_lost_1 14 rfl) 62 (by decide) ?_
              refine g_sub [3, 4, 5, 6, 7, 8, 9, 1, 0] (L' := [(0, .ref (q.2.2 0)), (1, .int (nI (10 * (j / 6) + j % 6))), (2, .int (nI a)), (3, .int (nI b)), (4, .int (nI x)), (5, .int (nI 1)), (6, .int (nI u)), (7, .long (lN ((gsm (fun i => if i % 6 < B 9 0 then sGive B i (if i / 6 = j / 6 ∧ i % 6 ≤ j % 6 then b else B 1 i) else 0) i) + (sGive B i b)))), (9, .int (nI (i + 1)))]) rfl ?_
              have h9 := ih (i + 1) (by omega) (by omega)
              rw [gsm_s (f := (fun i => if i % 6 < B 9 0 then sGive B i (if i / 6 = j / 6 ∧ i % 6 ≤ j % 6 then b else B 1 i) else 0)) ((if_pos h108_2).trans (congrArg (sGive B i) (if_pos (by omega))))] at h9
              exact h9
            · skip
              refine g_lconst hC (gDec_at DX7_lost_0 57 rfl) (v := lN 0) (by decide) ?_
              refine g_goto hC (gDec_at DX7_lost_0 58 rfl) 147 (by decide) ?_
              refine g_laddN hC (gDec_at DX7_lost_1 11 rfl) ?_
              refine g_lstore hC (gDec_at DX7_lost_1 12 rfl) (by decide) (L' := [(7, .long (lN ((gsm (fun i => if i % 6 < B 9 0 then sGive B i (if i / 6 = j / 6 ∧ i % 6 ≤ j % 6 then b else B 1 i) else 0) i) + 0))), (10, .int (nI 1)), (0, .ref (q.2.2 0)), (1, .int (nI (10 * (j / 6) + j % 6))), (2, .int (nI a)), (3, .int (nI b)), (4, .int (nI x)), (5, .int (nI 1)), (6, .int (nI u)), (9, .int (nI i))]) rfl ?_
              refine g_iincN hC (gDec_at DX7_lost_1 13 rfl) rfl (by decide) (L' := [(9, .int (nI (i + 1))), (7, .long (lN ((gsm (fun i => if i % 6 < B 9 0 then sGive B i (if i / 6 = j / 6 ∧ i % 6 ≤ j % 6 then b else B 1 i) else 0) i) + 0))), (10, .int (nI 1)), (0, .ref (q.2.2 0)), (1, .int (nI (10 * (j / 6) + j % 6))), (2, .int (nI a)), (3, .int (nI b)), (4, .int (nI x)), (5, .int (nI 1)), (6, .int (nI u))]) rfl ?_
              refine g_goto hC (gDec_at DX7_lost_1 14 rfl) 62 (by decide) ?_
              refine g_sub [3, 4, 5, 6, 7, 8, 9, 1, 0] (L' := [(0, .ref (q.2.2 0)), (1, .int (nI (10 * (j / 6) + j % 6))), (2, .int (nI a)), (3, .int (nI b)), (4, .int (nI x)), (5, .int (nI 1)), (6, .int (nI u)), (7, .long (lN ((gsm (fun i => if i % 6 < B 9 0 then sGive B i (if i / 6 = j / 6 ∧ i % 6 ≤ j % 6 then b else B 1 i) else 0) i) + 0))), (9, .int (nI (i + 1)))]) rfl ?_
              have h9 := ih (i + 1) (by omega) (by omega)
              rw [gsm_s0 (f := (fun i => if i % 6 < B 9 0 then sGive B i (if i / 6 = j / 6 ∧ i % 6 ≤ j % 6 then b else B 1 i) else 0)) (if_neg h108_2)] at h9
              exact h9
  exact g_sub [2, 3, 4, 5, 6, 7, 8, 1, 0] rfl (loop62 (12 + 1 - 0) 0 (by omega) (by omega))

theorem offI_eq {a b : Nat} (hb : b ≤ 1000) : nI a - nI b = oI (a + 1000 - b) := by
  have h := off_eq (a := a) hb
  rw [lg_l2i_sub, lN_i, lN_i] at h
  exact h
theorem oI_add2 (n : Nat) : nI 1000 + oI n = nI n := by rw [Int32.add_comm]; exact oI_add n
theorem oI_le {a b : Nat} (ha : a < 1073741824) (hb : b < 1073741824) : oI a ≤ oI b ↔ a ≤ b := by
  have h1 := pk_sub_toInt ha (show 1000 < 2 ^ 30 by decide)
  have h2 := pk_sub_toInt hb (show 1000 < 2 ^ 30 by decide)
  unfold oI
  rw [le_I, h1, h2]
  omega
set_option maxRecDepth 100000 in
set_option maxHeartbeats 4000000 in
theorem c_X7_offOf (q : gQ3) {M : gM} {B : gB} (hI : mI M B) {j : Nat} (hj : j < 12) (ht : j % 6 < B 9 0) (hz : 0 < sSeen B) : gCt (wM q) yX7_offOf cX7_offOf 2 (some .int) 4 [.ref (q.2.2 0), .int (nI j)] M (gR (some (.int (oI (sOf B j)))) M) := by
  refine gMet RX7 (by decide +kernel) rfl (Nat.le_of_ble_eq_true rfl) (fun X hC => ?_)
  have hC : gC X (wM q) cX7_offOf 2 RX7 (some .int) 4 := hC
  show gG X (wM q) _ 2 M 0 [(0, .ref (q.2.2 0)), (1, .int (nI j))] []
  have h5 := bv_f5 hI.2.2 hj ht
  have hsl := sSeen_le hI.2.2
  have hal := sAll_le B
  have has := sAll_ps hI.2.2
  have hat := sAll_at hj ht
  have hgl := sGive_le B j (B 1 j)
  have hdv := div_1000 hat
  refine g_sipush hC (gDec_at DX7_offOf_0 0 rfl) (v := nI 1000) (by decide) ?_
  refine g_aload_n hC (gDec_at DX7_offOf_0 1 rfl) rfl ?_
  refine g_get (w := wM q) hC 0 (v := .ref (q.2.2 7)) fl_X7_32 (show 0 < 17 from by decide) rfl rfl (gDec_at DX7_offOf_0 2 rfl) ?_
  refine g_iload_n hC (gDec_at DX7_offOf_0 3 rfl) rfl ?_
  refine g_iald (w := wM q) hC 7 0 j (x := (nI (B 5 j))) (show 7 < 17 from by decide) rfl rfl (by omega) (by decide) (mi_f5 hI hj ht) (gDec_at DX7_offOf_0 4 rfl) ?_
  refine g_imulN hC (gDec_at DX7_offOf_0 5 rfl) ?_
  refine g_aload_n hC (gDec_at DX7_offOf_0 6 rfl) rfl ?_
  refine g_callVd (w := wM q) hC 0 (c_X7_allSeen q hI) vf_X7_allSeen ml_X7_219 (by decide) (show 0 < 17 from by decide) rfl rfl rfl rfl rfl (Nat.le_of_ble_eq_true rfl) (gDec_at DX7_offOf_0 7 rfl) ?_
  refine g_idivN hC (by omega) (by omega) (by omega) (gDec_at DX7_offOf_0 8 rfl) ?_
  refine g_ldc2 hC cl_X7_160 (v' := lN 1000) (by decide) (gDec_at DX7_offOf_0 9 rfl) ?_
  refine g_aload_n hC (gDec_at DX7_offOf_0 10 rfl) rfl ?_
  refine g_iload_n hC (gDec_at DX7_offOf_0 11 rfl) rfl ?_
  refine g_callVd (w := wM q) hC 0 (c_X7_giveOf q hI (j := j) hj ht) vf_X7_giveOf ml_X7_121 (by decide) (show 0 < 17 from by decide) rfl rfl rfl rfl rfl (Nat.le_of_ble_eq_true rfl) (gDec_at DX7_offOf_0 12 rfl) ?_
  refine g_lmulN hC (gDec_at DX7_offOf_0 13 rfl) ?_
  refine g_aload_n hC (gDec_at DX7_offOf_0 14 rfl) rfl ?_
  refine g_callVd (w := wM q) hC 0 (c_X7_allGive q hI) vf_X7_allGive ml_X7_141 (by decide) (show 0 < 17 from by decide) rfl rfl rfl rfl rfl (Nat.le_of_ble_eq_true rfl) (gDec_at DX7_offOf_0 15 rfl) ?_
  refine g_ldivN hC (by omega) (by omega) (by omega) (gDec_at DX7_offOf_0 16 rfl) ?_
  refine g_l2iN hC (gDec_at DX7_offOf_0 17 rfl) ?_
  refine g_isub hC (gDec_at DX7_offOf_0 18 rfl) (v := (oI (sOf B j))) (offI_eq hdv) ?_
  refine g_iret hC (gDec_at DX7_offOf_0 19 rfl) ?_
  exact ⟨rfl, rfl⟩

set_option maxRecDepth 100000 in
set_option maxHeartbeats 4000000 in
theorem c_X7_off_out (q : gQ3) {M : gM} {B : gB} (hI : mI M B) {x0 : Int32} (hx0 : ¬ isPl B x0) : gCt (wM q) yX7_off cX7_off 2 (some .int) 8 [.ref (q.2.2 0), .int x0] M (gR (some (.int (-1))) M) := by
  refine gMet RX7 (by decide +kernel) rfl (Nat.le_of_ble_eq_true rfl) (fun X hC => ?_)
  have hC : gC X (wM q) cX7_off 2 RX7 (some .int) 8 := hC
  show gG X (wM q) _ 2 M 0 [(0, .ref (q.2.2 0)), (1, .int x0)] []
  refine g_aload_n hC (gDec_at DX7_off_0 0 rfl) rfl ?_
  refine g_iconst hC (gDec_at DX7_off_0 1 rfl) (v := nI 0) (by decide) ?_
  refine g_putI (w := wM q) hC 0 fl_X7_67 fp_7_0 (show 0 < 17 from by decide) rfl (Nat.le_of_ble_eq_true rfl) rfl rfl (gDec_at DX7_off_0 2 rfl) ?_
  refine g_M (mi_0 hI) ?_
  refine g_aload_n hC (gDec_at DX7_off_0 3 rfl) rfl ?_
  refine g_iload_n hC (gDec_at DX7_off_0 4 rfl) rfl ?_
  refine g_callVd (w := wM q) hC 0 (c_X7_noPlace_out q hI hx0) vf_X7_noPlace ml_X7_108 (by decide) (show 0 < 17 from by decide) rfl rfl rfl rfl rfl (Nat.le_of_ble_eq_true rfl) (gDec_at DX7_off_0 5 rfl) ?_
  refine g_if_eqN hC (by decide) (gDec_at DX7_off_0 6 rfl) 15 (by decide) (fun h => absurd h (by decide)) (fun h => ?_)
  refine g_iconst hC (gDec_at DX7_off_0 7 rfl) (v := -1) (by decide) ?_
  refine g_iret hC (gDec_at DX7_off_0 8 rfl) ?_
  exact ⟨rfl, rfl⟩

set_option maxRecDepth 100000 in
set_option maxHeartbeats 4000000 in
theorem c_X7_off_no (q : gQ3) {M : gM} {B : gB} (hI : mI M B) {j : Nat} (hj : j < 12) (ht : j % 6 < B 9 0) (hz : sSeen B = 0) : gCt (wM q) yX7_off cX7_off 2 (some .int) 8 [.ref (q.2.2 0), .int (nI (10 * (j / 6) + j % 6))] M (gR (some (.int (-3))) M) := by
  refine gMet RX7 (by decide +kernel) rfl (Nat.le_of_ble_eq_true rfl) (fun X hC => ?_)
  have hC : gC X (wM q) cX7_off 2 RX7 (some .int) 8 := hC
  show gG X (wM q) _ 2 M 0 [(0, .ref (q.2.2 0)), (1, .int (nI (10 * (j / 6) + j % 6)))] []
  have hsl := sSeen_le hI.2.2
  refine g_aload_n hC (gDec_at DX7_off_0 0 rfl) rfl ?_
  refine g_iconst hC (gDec_at DX7_off_0 1 rfl) (v := nI 0) (by decide) ?_
  refine g_putI (w := wM q) hC 0 fl_X7_67 fp_7_0 (show 0 < 17 from by decide) rfl (Nat.le_of_ble_eq_true rfl) rfl rfl (gDec_at DX7_off_0 2 rfl) ?_
  refine g_M (mi_0 hI) ?_
  refine g_aload_n hC (gDec_at DX7_off_0 3 rfl) rfl ?_
  refine g_iload_n hC (gDec_at DX7_off_0 4 rfl) rfl ?_
  refine g_callVd (w := wM q) hC 0 (c_X7_noPlace_in q hI hj (ht)) vf_X7_noPlace ml_X7_108 (by decide) (show 0 < 17 from by decide) rfl rfl rfl rfl rfl (Nat.le_of_ble_eq_true rfl) (gDec_at DX7_off_0 5 rfl) ?_
  refine g_if_eqN hC (by decide) (gDec_at DX7_off_0 6 rfl) 15 (by decide) (fun h => ?_) (fun h => absurd h (by decide))
  refine g_aload_n hC (gDec_at DX7_off_0 9 rfl) rfl ?_
  refine g_callVd (w := wM q) hC 0 (c_X7_allSeen q hI) vf_X7_allSeen ml_X7_219 (by decide) (show 0 < 17 from by decide) rfl rfl rfl rfl rfl (Nat.le_of_ble_eq_true rfl) (gDec_at DX7_off_0 10 rfl) ?_
  refine g_if_neN hC (by omega) (gDec_at DX7_off_0 11 rfl) 27 (by decide) (fun h19 => ?_) (fun h19 => ?_)
  · skip
    exact absurd hz (by omega)
  · skip
    refine g_bipush hC (gDec_at DX7_off_0 12 rfl) (v := -3) (by decide) ?_
    refine g_goto hC (gDec_at DX7_off_0 13 rfl) 39 (by decide) ?_
    refine g_iret hC (gDec_at DX7_off_0 20 rfl) ?_
    exact ⟨rfl, rfl⟩

set_option maxRecDepth 100000 in
set_option maxHeartbeats 4000000 in
theorem c_X7_off_ok (q : gQ3) {M : gM} {B : gB} (hI : mI M B) {j : Nat} (hj : j < 12) (ht : j % 6 < B 9 0) (hz : 0 < sSeen B) : gCt (wM q) yX7_off cX7_off 2 (some .int) 8 [.ref (q.2.2 0), .int (nI (10 * (j / 6) + j % 6))] M (gR (some (.int (nI (sOf B j)))) M) := by
  refine gMet RX7 (by decide +kernel) rfl (Nat.le_of_ble_eq_true rfl) (fun X hC => ?_)
  have hC : gC X (wM q) cX7_off 2 RX7 (some .int) 8 := hC
  show gG X (wM q) _ 2 M 0 [(0, .ref (q.2.2 0)), (1, .int (nI (10 * (j / 6) + j % 6)))] []
  have hsl := sSeen_le hI.2.2
  refine g_aload_n hC (gDec_at DX7_off_0 0 rfl) rfl ?_
  refine g_iconst hC (gDec_at DX7_off_0 1 rfl) (v := nI 0) (by decide) ?_
  refine g_putI (w := wM q) hC 0 fl_X7_67 fp_7_0 (show 0 < 17 from by decide) rfl (Nat.le_of_ble_eq_true rfl) rfl rfl (gDec_at DX7_off_0 2 rfl) ?_
  refine g_M (mi_0 hI) ?_
  refine g_aload_n hC (gDec_at DX7_off_0 3 rfl) rfl ?_
  refine g_iload_n hC (gDec_at DX7_off_0 4 rfl) rfl ?_
  refine g_callVd (w := wM q) hC 0 (c_X7_noPlace_in q hI hj (ht)) vf_X7_noPlace ml_X7_108 (by decide) (show 0 < 17 from by decide) rfl rfl rfl rfl rfl (Nat.le_of_ble_eq_true rfl) (gDec_at DX7_off_0 5 rfl) ?_
  refine g_if_eqN hC (by decide) (gDec_at DX7_off_0 6 rfl) 15 (by decide) (fun h => ?_) (fun h => absurd h (by decide))
  refine g_aload_n hC (gDec_at DX7_off_0 9 rfl) rfl ?_
  refine g_callVd (w := wM q) hC 0 (c_X7_allSeen q hI) vf_X7_allSeen ml_X7_219 (by decide) (show 0 < 17 from by decide) rfl rfl rfl rfl rfl (Nat.le_of_ble_eq_true rfl) (gDec_at DX7_off_0 10 rfl) ?_
  refine g_if_neN hC (by omega) (gDec_at DX7_off_0 11 rfl) 27 (by decide) (fun h19 => ?_) (fun h19 => ?_)
  · skip
    refine g_sipush hC (gDec_at DX7_off_0 14 rfl) (v := nI 1000) (by decide) ?_
    refine g_aload_n hC (gDec_at DX7_off_0 15 rfl) rfl ?_
    refine g_iload_n hC (gDec_at DX7_off_0 16 rfl) rfl ?_
    refine g_callSd (w := wM q) hC (c_X7_index q hj) sf_X7_index ml_X7_111 (by decide) rfl rfl (Nat.le_of_ble_eq_true rfl) (gDec_at DX7_off_0 17 rfl) ?_
    refine g_callVd (w := wM q) hC 0 (c_X7_offOf q hI (j := j) hj ht hz) vf_X7_offOf ml_X7_222 (by decide) (show 0 < 17 from by decide) rfl rfl rfl rfl rfl (Nat.le_of_ble_eq_true rfl) (gDec_at DX7_off_0 18 rfl) ?_
    refine g_iadd hC (gDec_at DX7_off_0 19 rfl) (v := (nI (sOf B j))) (oI_add2 _) ?_
    refine g_iret hC (gDec_at DX7_off_0 20 rfl) ?_
    exact ⟨rfl, rfl⟩
  · skip
    exact absurd hz (by omega)

set_option maxRecDepth 100000 in
set_option maxHeartbeats 4000000 in
theorem c_X7_tooStiff_no (q : gQ3) {M : gM} {B : gB} (hI : mI M B) (hz : sSeen B = 0) : gCt (wM q) yX7_tooStiff cX7_tooStiff 3 (some .int) 8 [.ref (q.2.2 0)] M (gR (some (.int (-9))) M) := by
  refine gMet RX7 (by decide +kernel) rfl (Nat.le_of_ble_eq_true rfl) (fun X hC => ?_)
  have hC : gC X (wM q) cX7_tooStiff 3 RX7 (some .int) 8 := hC
  show gG X (wM q) _ 3 M 0 [(0, .ref (q.2.2 0))] []
  have hsl := sSeen_le hI.2.2
  refine g_aload_n hC (gDec_at DX7_tooStiff_0 0 rfl) rfl ?_
  refine g_iconst hC (gDec_at DX7_tooStiff_0 1 rfl) (v := nI 0) (by decide) ?_
  refine g_putI (w := wM q) hC 0 fl_X7_67 fp_7_0 (show 0 < 17 from by decide) rfl (Nat.le_of_ble_eq_true rfl) rfl rfl (gDec_at DX7_tooStiff_0 2 rfl) ?_
  refine g_M (mi_0 hI) ?_
  refine g_aload_n hC (gDec_at DX7_tooStiff_0 3 rfl) rfl ?_
  refine g_callVd (w := wM q) hC 0 (c_X7_allSeen q hI) vf_X7_allSeen ml_X7_219 (by decide) (show 0 < 17 from by decide) rfl rfl rfl rfl rfl (Nat.le_of_ble_eq_true rfl) (gDec_at DX7_tooStiff_0 4 rfl) ?_
  refine g_if_neN hC (by omega) (gDec_at DX7_tooStiff_0 5 rfl) 15 (by decide) (fun h9 => ?_) (fun h9 => ?_)
  · skip
    exact absurd hz (by omega)
  · skip
    refine g_bipush hC (gDec_at DX7_tooStiff_0 6 rfl) (v := -9) (by decide) ?_
    refine g_iret hC (gDec_at DX7_tooStiff_0 7 rfl) ?_
    exact ⟨rfl, rfl⟩

set_option maxRecDepth 100000 in
set_option maxHeartbeats 4000000 in
theorem c_X7_tooStiff_ok (q : gQ3) {M : gM} {B : gB} (hI : mI M B) (hz : 0 < sSeen B) : gCt (wM q) yX7_tooStiff cX7_tooStiff 3 (some .int) 8 [.ref (q.2.2 0)] M (gR (some (.int (nI (sTold (sExt B (sOf B) 0 12))))) M) := by
  refine gMet RX7 (by decide +kernel) rfl (Nat.le_of_ble_eq_true rfl) (fun X hC => ?_)
  have hC : gC X (wM q) cX7_tooStiff 3 RX7 (some .int) 8 := hC
  show gG X (wM q) _ 3 M 0 [(0, .ref (q.2.2 0))] []
  have hm := bv_many hI.2.2
  have hsl := sSeen_le hI.2.2
  have hl0 := sExt_lt (B := B) (f := sOf B) (g := 0) hm.1 12 (by omega)
  refine g_aload_n hC (gDec_at DX7_tooStiff_0 0 rfl) rfl ?_
  refine g_iconst hC (gDec_at DX7_tooStiff_0 1 rfl) (v := nI 0) (by decide) ?_
  refine g_putI (w := wM q) hC 0 fl_X7_67 fp_7_0 (show 0 < 17 from by decide) rfl (Nat.le_of_ble_eq_true rfl) rfl rfl (gDec_at DX7_tooStiff_0 2 rfl) ?_
  refine g_M (mi_0 hI) ?_
  refine g_aload_n hC (gDec_at DX7_tooStiff_0 3 rfl) rfl ?_
  refine g_callVd (w := wM q) hC 0 (c_X7_allSeen q hI) vf_X7_allSeen ml_X7_219 (by decide) (show 0 < 17 from by decide) rfl rfl rfl rfl rfl (Nat.le_of_ble_eq_true rfl) (gDec_at DX7_tooStiff_0 4 rfl) ?_
  refine g_if_neN hC (by omega) (gDec_at DX7_tooStiff_0 5 rfl) 15 (by decide) (fun h9 => ?_) (fun h9 => ?_)
  · skip
    refine g_iconst hC (gDec_at DX7_tooStiff_0 8 rfl) (v := nI 0) (by decide) ?_
    refine g_istore_n hC (gDec_at DX7_tooStiff_0 9 rfl) (by decide) (L' := [(1, .int (nI 0)), (0, .ref (q.2.2 0))]) rfl ?_
    refine g_iconst hC (gDec_at DX7_tooStiff_0 10 rfl) (v := nI 1) (by decide) ?_
    refine g_istore_n hC (gDec_at DX7_tooStiff_0 11 rfl) (by decide) (L' := [(2, .int (nI 1)), (1, .int (nI 0)), (0, .ref (q.2.2 0))]) rfl ?_
    have loop19 : ∀ (fu i : Nat) (fd : Nat), i ≤ 12 → 12 - i < fu → fd = sExt B (sOf B) 0 i → 1 ≤ i → gG X (wM q) (gR (some (.int (nI (sTold (sExt B (sOf B) 0 12))))) M) 3 M 19 [(0, .ref (q.2.2 0)), (1, .int (nI fd)), (2, .int (nI i))] [] := by
      intro fu; induction fu with
      | zero => intro i fd h1 h2; omega
      | succ fu ih =>
        intro i fd hi hfu hf hi1
        subst hf
        have hel := sExt_lt (B := B) (f := sOf B) (g := 0) hm.1 i (by omega)
        skip
        · skip
          refine g_iload_n hC (gDec_at DX7_tooStiff_0 12 rfl) rfl ?_
          refine g_bipush hC (gDec_at DX7_tooStiff_0 13 rfl) (v := nI 12) (by decide) ?_
          refine g_icmp_geN hC (by omega) (by omega) (gDec_at DX7_tooStiff_0 14 rfl) 58 (by decide) (fun h22 => ?_) (fun h22 => ?_)
          · skip
            obtain rfl : i = 12 := by omega
            refine g_iload_n hC (gDec_at DX7_tooStiff_0 32 rfl) rfl ?_
            refine g_callSd (w := wM q) hC (c_X7_code q (i := (sExt B (sOf B) 0 12)) (by omega)) sf_X7_code ml_X7_165 (by decide) rfl rfl (Nat.le_of_ble_eq_true rfl) (gDec_at DX7_tooStiff_0 33 rfl) ?_
            refine g_iret hC (gDec_at DX7_tooStiff_0 34 rfl) ?_
            exact ⟨rfl, rfl⟩
          · skip
            refine g_aload_n hC (gDec_at DX7_tooStiff_0 15 rfl) rfl ?_
            refine g_iload_n hC (gDec_at DX7_tooStiff_0 16 rfl) rfl ?_
            refine g_callVd (w := wM q) hC 0 (c_X7_isThere q hI (i := i) (by omega)) vf_X7_isThere ml_X7_128 (by decide) (show 0 < 17 from by decide) rfl rfl rfl rfl rfl (Nat.le_of_ble_eq_true rfl) (gDec_at DX7_tooStiff_0 17 rfl) ?_
            refine g_if_eqB hC (gDec_at DX7_tooStiff_0 18 rfl) 50 (by decide) (fun h30 => ?_) (fun h30 => ?_)
            · skip
              refine g_iload_n hC (gDec_at DX7_tooStiff_0 28 rfl) rfl ?_
              refine g_istore_n hC (gDec_at DX7_tooStiff_0 29 rfl) (by decide) (L' := [(1, .int (nI (sExt B (sOf B) 0 i))), (0, .ref (q.2.2 0)), (2, .int (nI i))]) rfl ?_
              refine g_iincN hC (gDec_at DX7_tooStiff_0 30 rfl) rfl (by decide) (L' := [(2, .int (nI (i + 1))), (1, .int (nI (sExt B (sOf B) 0 i))), (0, .ref (q.2.2 0))]) rfl ?_
              refine g_goto hC (gDec_at DX7_tooStiff_0 31 rfl) 19 (by decide) ?_
              refine g_sub [2, 1, 0] (L' := [(0, .ref (q.2.2 0)), (1, .int (nI (sExt B (sOf B) 0 i))), (2, .int (nI (i + 1)))]) rfl ?_
              have h9 := ih (i + 1) _ (by omega) (by omega) (by rw [show sExt B (sOf B) 0 (i + 1) = sExt B (sOf B) 0 i from if_neg (fun z => h30 z.1)]) (by omega)
              exact h9
            · skip
              have ho1 := sOf_le (by omega : i < 12) h30
              have ho2 := sOf_le (by omega : sExt B (sOf B) 0 i < 12) hel.2
              refine g_aload_n hC (gDec_at DX7_tooStiff_0 19 rfl) rfl ?_
              refine g_iload_n hC (gDec_at DX7_tooStiff_0 20 rfl) rfl ?_
              refine g_callVd (w := wM q) hC 0 (c_X7_offOf q hI (j := i) (by omega) (by omega) hz) vf_X7_offOf ml_X7_222 (by decide) (show 0 < 17 from by decide) rfl rfl rfl rfl rfl (Nat.le_of_ble_eq_true rfl) (gDec_at DX7_tooStiff_0 21 rfl) ?_
              refine g_aload_n hC (gDec_at DX7_tooStiff_0 22 rfl) rfl ?_
              refine g_iload_n hC (gDec_at DX7_tooStiff_0 23 rfl) rfl ?_
              refine g_callVd (w := wM q) hC 0 (c_X7_offOf q hI (j := (sExt B (sOf B) 0 i)) (by omega) hel.2 hz) vf_X7_offOf ml_X7_222 (by decide) (show 0 < 17 from by decide) rfl rfl rfl rfl rfl (Nat.le_of_ble_eq_true rfl) (gDec_at DX7_tooStiff_0 24 rfl) ?_
              refine g_icmp_ge hC (gDec_at DX7_tooStiff_0 25 rfl) 50 (by decide) (fun h43 => ?_) (fun h43 => ?_)
              · skip
                have h43n := (oI_le (by omega) (by omega)).mp h43
                refine g_iload_n hC (gDec_at DX7_tooStiff_0 28 rfl) rfl ?_
                refine g_istore_n hC (gDec_at DX7_tooStiff_0 29 rfl) (by decide) (L' := [(1, .int (nI (sExt B (sOf B) 0 i))), (0, .ref (q.2.2 0)), (2, .int (nI i))]) rfl ?_
                refine g_iincN hC (gDec_at DX7_tooStiff_0 30 rfl) rfl (by decide) (L' := [(2, .int (nI (i + 1))), (1, .int (nI (sExt B (sOf B) 0 i))), (0, .ref (q.2.2 0))]) rfl ?_
                refine g_goto hC (gDec_at DX7_tooStiff_0 31 rfl) 19 (by decide) ?_
                refine g_sub [2, 1, 0] (L' := [(0, .ref (q.2.2 0)), (1, .int (nI (sExt B (sOf B) 0 i))), (2, .int (nI (i + 1)))]) rfl ?_
                have h9 := ih (i + 1) _ (by omega) (by omega) (by rw [show sExt B (sOf B) 0 (i + 1) = sExt B (sOf B) 0 i from if_neg (fun z => by have z2 := z.2; omega)]) (by omega)
                exact h9
              · skip
                have h43n := mt (oI_le (by omega) (by omega)).mpr h43
                refine g_iload_n hC (gDec_at DX7_tooStiff_0 26 rfl) rfl ?_
                refine g_goto hC (gDec_at DX7_tooStiff_0 27 rfl) 51 (by decide) ?_
                refine g_istore_n hC (gDec_at DX7_tooStiff_0 29 rfl) (by decide) (L' := [(1, .int (nI i)), (0, .ref (q.2.2 0)), (2, .int (nI i))]) rfl ?_
                refine g_iincN hC (gDec_at DX7_tooStiff_0 30 rfl) rfl (by decide) (L' := [(2, .int (nI (i + 1))), (1, .int (nI i)), (0, .ref (q.2.2 0))]) rfl ?_
                refine g_goto hC (gDec_at DX7_tooStiff_0 31 rfl) 19 (by decide) ?_
                refine g_sub [2, 1, 0] (L' := [(0, .ref (q.2.2 0)), (1, .int (nI i)), (2, .int (nI (i + 1)))]) rfl ?_
                have h9 := ih (i + 1) _ (by omega) (by omega) (show i = sExt B (sOf B) 0 (i + 1) from (if_pos ⟨h30, by omega⟩).symm) (by omega)
                exact h9
    exact g_sub [2, 1, 0] rfl (loop19 (12 + 1 - 1) 1 0 (by omega) (by omega) (sExt_1 _ _ _).symm (by omega))
  · skip
    exact absurd hz (by omega)

set_option maxRecDepth 100000 in
set_option maxHeartbeats 4000000 in
theorem c_X7_grown_out (q : gQ3) {M : gM} {B : gB} (hI : mI M B) {x0 : Int32} (hx0 : ¬ gin x0 0 2) {y : Int32} : gCt (wM q) yX7_grown cX7_grown 3 (some .int) 8 [.ref (q.2.2 0), .int x0, .int y] M (gR (some (.int (-1))) M) := by
  refine gMet RX7 (by decide +kernel) rfl (Nat.le_of_ble_eq_true rfl) (fun X hC => ?_)
  have hC : gC X (wM q) cX7_grown 3 RX7 (some .int) 8 := hC
  show gG X (wM q) _ 3 M 0 [(0, .ref (q.2.2 0)), (1, .int x0), (2, .int y)] []
  refine g_aload_n hC (gDec_at DX7_grown_0 0 rfl) rfl ?_
  refine g_iconst hC (gDec_at DX7_grown_0 1 rfl) (v := nI 0) (by decide) ?_
  refine g_putI (w := wM q) hC 0 fl_X7_67 fp_7_0 (show 0 < 17 from by decide) rfl (Nat.le_of_ble_eq_true rfl) rfl rfl (gDec_at DX7_grown_0 2 rfl) ?_
  refine g_M (mi_0 hI) ?_
  refine g_iload_n hC (gDec_at DX7_grown_0 3 rfl) rfl ?_
  refine g_callSd (w := wM q) hC (c_X7_noWood_out q hx0) sf_X7_noWood ml_X7_101 (by decide) rfl rfl (Nat.le_of_ble_eq_true rfl) (gDec_at DX7_grown_0 4 rfl) ?_
  refine g_if_eqN hC (by decide) (gDec_at DX7_grown_0 5 rfl) 14 (by decide) (fun h => absurd h (by decide)) (fun h => ?_)
  refine g_iconst hC (gDec_at DX7_grown_0 6 rfl) (v := -1) (by decide) ?_
  refine g_iret hC (gDec_at DX7_grown_0 7 rfl) ?_
  exact ⟨rfl, rfl⟩

set_option maxRecDepth 100000 in
set_option maxHeartbeats 4000000 in
theorem c_X7_grown_0 (q : gQ3) {M : gM} {B : gB} (hI : mI M B) {k : Nat} (hk : k < 3) : gCt (wM q) yX7_grown cX7_grown 3 (some .int) 8 [.ref (q.2.2 0), .int (nI k), .int (nI 0)] M (gR (some (.int (nI (B 6 k)))) M) := by
  refine gMet RX7 (by decide +kernel) rfl (Nat.le_of_ble_eq_true rfl) (fun X hC => ?_)
  have hC : gC X (wM q) cX7_grown 3 RX7 (some .int) 8 := hC
  show gG X (wM q) _ 3 M 0 [(0, .ref (q.2.2 0)), (1, .int (nI k)), (2, .int (nI 0))] []
  refine g_aload_n hC (gDec_at DX7_grown_0 0 rfl) rfl ?_
  refine g_iconst hC (gDec_at DX7_grown_0 1 rfl) (v := nI 0) (by decide) ?_
  refine g_putI (w := wM q) hC 0 fl_X7_67 fp_7_0 (show 0 < 17 from by decide) rfl (Nat.le_of_ble_eq_true rfl) rfl rfl (gDec_at DX7_grown_0 2 rfl) ?_
  refine g_M (mi_0 hI) ?_
  refine g_iload_n hC (gDec_at DX7_grown_0 3 rfl) rfl ?_
  refine g_callSd (w := wM q) hC (c_X7_noWood_in q (k := k) (by omega)) sf_X7_noWood ml_X7_101 (by decide) rfl rfl (Nat.le_of_ble_eq_true rfl) (gDec_at DX7_grown_0 4 rfl) ?_
  refine g_if_eqN hC (by decide) (gDec_at DX7_grown_0 5 rfl) 14 (by decide) (fun h => ?_) (fun h => absurd h (by decide))
  refine g_iload_n hC (gDec_at DX7_grown_0 8 rfl) rfl ?_
  refine g_i2lN hC (by omega) (gDec_at DX7_grown_0 9 rfl) ?_
  refine g_lconst hC (gDec_at DX7_grown_0 10 rfl) (v := lN 0) (by decide) ?_
  refine g_ldc2 hC cl_X7_76 (v' := lN 2) (by decide) (gDec_at DX7_grown_0 11 rfl) ?_
  refine g_callSd (w := wM q) hC (c_X7_in_yes q (v := 0) (a := 0) (b := 2) (by omega) (by omega) (by omega)) sf_X7_in ml_X7_72 (by decide) rfl rfl (Nat.le_of_ble_eq_true rfl) (gDec_at DX7_grown_0 12 rfl) ?_
  refine g_if_eqN hC (by decide) (gDec_at DX7_grown_0 13 rfl) 39 (by decide) (fun h => absurd h (by decide)) (fun h => ?_)
  refine g_aload_n hC (gDec_at DX7_grown_0 14 rfl) rfl ?_
  refine g_get (w := wM q) hC 0 (v := .ref (q.2.2 11)) fl_X7_47 (show 0 < 17 from by decide) rfl rfl (gDec_at DX7_grown_0 15 rfl) ?_
  refine g_iconst hC (gDec_at DX7_grown_0 16 rfl) (v := nI 3) (by decide) ?_
  refine g_iload_n hC (gDec_at DX7_grown_0 17 rfl) rfl ?_
  refine g_imulN hC (gDec_at DX7_grown_0 18 rfl) ?_
  refine g_iload_n hC (gDec_at DX7_grown_0 19 rfl) rfl ?_
  refine g_iaddN hC (gDec_at DX7_grown_0 20 rfl) ?_
  refine g_iald (w := wM q) hC 11 0 ((3 * k) + 0) (x := (nI (B 6 k))) (show 11 < 17 from by decide) rfl rfl (by omega) (by decide) (mi_e hI (k := k) hk) (gDec_at DX7_grown_0 21 rfl) ?_
  refine g_goto hC (gDec_at DX7_grown_0 22 rfl) 41 (by decide) ?_
  refine g_iret hC (gDec_at DX7_grown_0 24 rfl) ?_
  exact ⟨rfl, rfl⟩

set_option maxRecDepth 100000 in
set_option maxHeartbeats 4000000 in
theorem c_X7_grown_1 (q : gQ3) {M : gM} {B : gB} (hI : mI M B) {k : Nat} (hk : k < 3) : gCt (wM q) yX7_grown cX7_grown 3 (some .int) 8 [.ref (q.2.2 0), .int (nI k), .int (nI 1)] M (gR (some (.int (nI (B 7 k)))) M) := by
  refine gMet RX7 (by decide +kernel) rfl (Nat.le_of_ble_eq_true rfl) (fun X hC => ?_)
  have hC : gC X (wM q) cX7_grown 3 RX7 (some .int) 8 := hC
  show gG X (wM q) _ 3 M 0 [(0, .ref (q.2.2 0)), (1, .int (nI k)), (2, .int (nI 1))] []
  refine g_aload_n hC (gDec_at DX7_grown_0 0 rfl) rfl ?_
  refine g_iconst hC (gDec_at DX7_grown_0 1 rfl) (v := nI 0) (by decide) ?_
  refine g_putI (w := wM q) hC 0 fl_X7_67 fp_7_0 (show 0 < 17 from by decide) rfl (Nat.le_of_ble_eq_true rfl) rfl rfl (gDec_at DX7_grown_0 2 rfl) ?_
  refine g_M (mi_0 hI) ?_
  refine g_iload_n hC (gDec_at DX7_grown_0 3 rfl) rfl ?_
  refine g_callSd (w := wM q) hC (c_X7_noWood_in q (k := k) (by omega)) sf_X7_noWood ml_X7_101 (by decide) rfl rfl (Nat.le_of_ble_eq_true rfl) (gDec_at DX7_grown_0 4 rfl) ?_
  refine g_if_eqN hC (by decide) (gDec_at DX7_grown_0 5 rfl) 14 (by decide) (fun h => ?_) (fun h => absurd h (by decide))
  refine g_iload_n hC (gDec_at DX7_grown_0 8 rfl) rfl ?_
  refine g_i2lN hC (by omega) (gDec_at DX7_grown_0 9 rfl) ?_
  refine g_lconst hC (gDec_at DX7_grown_0 10 rfl) (v := lN 0) (by decide) ?_
  refine g_ldc2 hC cl_X7_76 (v' := lN 2) (by decide) (gDec_at DX7_grown_0 11 rfl) ?_
  refine g_callSd (w := wM q) hC (c_X7_in_yes q (v := 1) (a := 0) (b := 2) (by omega) (by omega) (by omega)) sf_X7_in ml_X7_72 (by decide) rfl rfl (Nat.le_of_ble_eq_true rfl) (gDec_at DX7_grown_0 12 rfl) ?_
  refine g_if_eqN hC (by decide) (gDec_at DX7_grown_0 13 rfl) 39 (by decide) (fun h => absurd h (by decide)) (fun h => ?_)
  refine g_aload_n hC (gDec_at DX7_grown_0 14 rfl) rfl ?_
  refine g_get (w := wM q) hC 0 (v := .ref (q.2.2 11)) fl_X7_47 (show 0 < 17 from by decide) rfl rfl (gDec_at DX7_grown_0 15 rfl) ?_
  refine g_iconst hC (gDec_at DX7_grown_0 16 rfl) (v := nI 3) (by decide) ?_
  refine g_iload_n hC (gDec_at DX7_grown_0 17 rfl) rfl ?_
  refine g_imulN hC (gDec_at DX7_grown_0 18 rfl) ?_
  refine g_iload_n hC (gDec_at DX7_grown_0 19 rfl) rfl ?_
  refine g_iaddN hC (gDec_at DX7_grown_0 20 rfl) ?_
  refine g_iald (w := wM q) hC 11 0 ((3 * k) + 1) (x := (nI (B 7 k))) (show 11 < 17 from by decide) rfl rfl (by omega) (by decide) (mi_pull hI (k := k) hk) (gDec_at DX7_grown_0 21 rfl) ?_
  refine g_goto hC (gDec_at DX7_grown_0 22 rfl) 41 (by decide) ?_
  refine g_iret hC (gDec_at DX7_grown_0 24 rfl) ?_
  exact ⟨rfl, rfl⟩

set_option maxRecDepth 100000 in
set_option maxHeartbeats 4000000 in
theorem c_X7_grown_2 (q : gQ3) {M : gM} {B : gB} (hI : mI M B) {k : Nat} (hk : k < 3) : gCt (wM q) yX7_grown cX7_grown 3 (some .int) 8 [.ref (q.2.2 0), .int (nI k), .int (nI 2)] M (gR (some (.int (nI (B 8 k)))) M) := by
  refine gMet RX7 (by decide +kernel) rfl (Nat.le_of_ble_eq_true rfl) (fun X hC => ?_)
  have hC : gC X (wM q) cX7_grown 3 RX7 (some .int) 8 := hC
  show gG X (wM q) _ 3 M 0 [(0, .ref (q.2.2 0)), (1, .int (nI k)), (2, .int (nI 2))] []
  refine g_aload_n hC (gDec_at DX7_grown_0 0 rfl) rfl ?_
  refine g_iconst hC (gDec_at DX7_grown_0 1 rfl) (v := nI 0) (by decide) ?_
  refine g_putI (w := wM q) hC 0 fl_X7_67 fp_7_0 (show 0 < 17 from by decide) rfl (Nat.le_of_ble_eq_true rfl) rfl rfl (gDec_at DX7_grown_0 2 rfl) ?_
  refine g_M (mi_0 hI) ?_
  refine g_iload_n hC (gDec_at DX7_grown_0 3 rfl) rfl ?_
  refine g_callSd (w := wM q) hC (c_X7_noWood_in q (k := k) (by omega)) sf_X7_noWood ml_X7_101 (by decide) rfl rfl (Nat.le_of_ble_eq_true rfl) (gDec_at DX7_grown_0 4 rfl) ?_
  refine g_if_eqN hC (by decide) (gDec_at DX7_grown_0 5 rfl) 14 (by decide) (fun h => ?_) (fun h => absurd h (by decide))
  refine g_iload_n hC (gDec_at DX7_grown_0 8 rfl) rfl ?_
  refine g_i2lN hC (by omega) (gDec_at DX7_grown_0 9 rfl) ?_
  refine g_lconst hC (gDec_at DX7_grown_0 10 rfl) (v := lN 0) (by decide) ?_
  refine g_ldc2 hC cl_X7_76 (v' := lN 2) (by decide) (gDec_at DX7_grown_0 11 rfl) ?_
  refine g_callSd (w := wM q) hC (c_X7_in_yes q (v := 2) (a := 0) (b := 2) (by omega) (by omega) (by omega)) sf_X7_in ml_X7_72 (by decide) rfl rfl (Nat.le_of_ble_eq_true rfl) (gDec_at DX7_grown_0 12 rfl) ?_
  refine g_if_eqN hC (by decide) (gDec_at DX7_grown_0 13 rfl) 39 (by decide) (fun h => absurd h (by decide)) (fun h => ?_)
  refine g_aload_n hC (gDec_at DX7_grown_0 14 rfl) rfl ?_
  refine g_get (w := wM q) hC 0 (v := .ref (q.2.2 11)) fl_X7_47 (show 0 < 17 from by decide) rfl rfl (gDec_at DX7_grown_0 15 rfl) ?_
  refine g_iconst hC (gDec_at DX7_grown_0 16 rfl) (v := nI 3) (by decide) ?_
  refine g_iload_n hC (gDec_at DX7_grown_0 17 rfl) rfl ?_
  refine g_imulN hC (gDec_at DX7_grown_0 18 rfl) ?_
  refine g_iload_n hC (gDec_at DX7_grown_0 19 rfl) rfl ?_
  refine g_iaddN hC (gDec_at DX7_grown_0 20 rfl) ?_
  refine g_iald (w := wM q) hC 11 0 ((3 * k) + 2) (x := (nI (B 8 k))) (show 11 < 17 from by decide) rfl rfl (by omega) (by decide) (mi_press hI (k := k) hk) (gDec_at DX7_grown_0 21 rfl) ?_
  refine g_goto hC (gDec_at DX7_grown_0 22 rfl) 41 (by decide) ?_
  refine g_iret hC (gDec_at DX7_grown_0 24 rfl) ?_
  exact ⟨rfl, rfl⟩

set_option maxRecDepth 100000 in
set_option maxHeartbeats 4000000 in
theorem c_X7_grown_bad (q : gQ3) {M : gM} {B : gB} (hI : mI M B) {k : Nat} (hk : k < 3) {y : Int32} (hy : ¬ gin y 0 2) : gCt (wM q) yX7_grown cX7_grown 3 (some .int) 8 [.ref (q.2.2 0), .int (nI k), .int y] M (gR (some (.int (-2))) M) := by
  refine gMet RX7 (by decide +kernel) rfl (Nat.le_of_ble_eq_true rfl) (fun X hC => ?_)
  have hC : gC X (wM q) cX7_grown 3 RX7 (some .int) 8 := hC
  show gG X (wM q) _ 3 M 0 [(0, .ref (q.2.2 0)), (1, .int (nI k)), (2, .int y)] []
  refine g_aload_n hC (gDec_at DX7_grown_0 0 rfl) rfl ?_
  refine g_iconst hC (gDec_at DX7_grown_0 1 rfl) (v := nI 0) (by decide) ?_
  refine g_putI (w := wM q) hC 0 fl_X7_67 fp_7_0 (show 0 < 17 from by decide) rfl (Nat.le_of_ble_eq_true rfl) rfl rfl (gDec_at DX7_grown_0 2 rfl) ?_
  refine g_M (mi_0 hI) ?_
  refine g_iload_n hC (gDec_at DX7_grown_0 3 rfl) rfl ?_
  refine g_callSd (w := wM q) hC (c_X7_noWood_in q (k := k) (by omega)) sf_X7_noWood ml_X7_101 (by decide) rfl rfl (Nat.le_of_ble_eq_true rfl) (gDec_at DX7_grown_0 4 rfl) ?_
  refine g_if_eqN hC (by decide) (gDec_at DX7_grown_0 5 rfl) 14 (by decide) (fun h => ?_) (fun h => absurd h (by decide))
  refine g_iload_n hC (gDec_at DX7_grown_0 8 rfl) rfl ?_
  refine g_i2l hC (gDec_at DX7_grown_0 9 rfl) rfl ?_
  refine g_lconst hC (gDec_at DX7_grown_0 10 rfl) (v := lN 0) (by decide) ?_
  refine g_ldc2 hC cl_X7_76 (v' := lN 2) (by decide) (gDec_at DX7_grown_0 11 rfl) ?_
  refine g_callSd (w := wM q) hC (c_X7_in_no q (by omega) (by omega) hy) sf_X7_in ml_X7_72 (by decide) rfl rfl (Nat.le_of_ble_eq_true rfl) (gDec_at DX7_grown_0 12 rfl) ?_
  refine g_if_eqN hC (by decide) (gDec_at DX7_grown_0 13 rfl) 39 (by decide) (fun h => ?_) (fun h => absurd h (by decide))
  refine g_bipush hC (gDec_at DX7_grown_0 23 rfl) (v := -2) (by decide) ?_
  refine g_iret hC (gDec_at DX7_grown_0 24 rfl) ?_
  exact ⟨rfl, rfl⟩

set_option maxRecDepth 100000 in
set_option maxHeartbeats 4000000 in
theorem c_X7_about_out (q : gQ3) {M : gM} {B : gB} (hI : mI M B) {x0 : Int32} (hx0 : ¬ isPl B x0) {y : Int32} : gCt (wM q) yX7_about cX7_about 4 (some .int) 8 [.ref (q.2.2 0), .int x0, .int y] M (gR (some (.int (-1))) M) := by
  refine gMet RX7 (by decide +kernel) rfl (Nat.le_of_ble_eq_true rfl) (fun X hC => ?_)
  have hC : gC X (wM q) cX7_about 4 RX7 (some .int) 8 := hC
  show gG X (wM q) _ 4 M 0 [(0, .ref (q.2.2 0)), (1, .int x0), (2, .int y)] []
  refine g_aload_n hC (gDec_at DX7_about_0 0 rfl) rfl ?_
  refine g_iconst hC (gDec_at DX7_about_0 1 rfl) (v := nI 0) (by decide) ?_
  refine g_putI (w := wM q) hC 0 fl_X7_67 fp_7_0 (show 0 < 17 from by decide) rfl (Nat.le_of_ble_eq_true rfl) rfl rfl (gDec_at DX7_about_0 2 rfl) ?_
  refine g_M (mi_0 hI) ?_
  refine g_aload_n hC (gDec_at DX7_about_0 3 rfl) rfl ?_
  refine g_iload_n hC (gDec_at DX7_about_0 4 rfl) rfl ?_
  refine g_callVd (w := wM q) hC 0 (c_X7_noPlace_out q hI hx0) vf_X7_noPlace ml_X7_108 (by decide) (show 0 < 17 from by decide) rfl rfl rfl rfl rfl (Nat.le_of_ble_eq_true rfl) (gDec_at DX7_about_0 5 rfl) ?_
  refine g_if_eqN hC (by decide) (gDec_at DX7_about_0 6 rfl) 15 (by decide) (fun h => absurd h (by decide)) (fun h => ?_)
  refine g_iconst hC (gDec_at DX7_about_0 7 rfl) (v := -1) (by decide) ?_
  refine g_iret hC (gDec_at DX7_about_0 8 rfl) ?_
  exact ⟨rfl, rfl⟩

set_option maxRecDepth 100000 in
set_option maxHeartbeats 4000000 in
theorem c_X7_about_0 (q : gQ3) {M : gM} {B : gB} (hI : mI M B) {j : Nat} (hj : j < 12) (ht : j % 6 < B 9 0) : gCt (wM q) yX7_about cX7_about 4 (some .int) 8 [.ref (q.2.2 0), .int (nI (10 * (j / 6) + j % 6)), .int (nI 0)] M (gR (some (.int (nI (B 0 j)))) M) := by
  refine gMet RX7 (by decide +kernel) rfl (Nat.le_of_ble_eq_true rfl) (fun X hC => ?_)
  have hC : gC X (wM q) cX7_about 4 RX7 (some .int) 8 := hC
  show gG X (wM q) _ 4 M 0 [(0, .ref (q.2.2 0)), (1, .int (nI (10 * (j / 6) + j % 6))), (2, .int (nI 0))] []
  refine g_aload_n hC (gDec_at DX7_about_0 0 rfl) rfl ?_
  refine g_iconst hC (gDec_at DX7_about_0 1 rfl) (v := nI 0) (by decide) ?_
  refine g_putI (w := wM q) hC 0 fl_X7_67 fp_7_0 (show 0 < 17 from by decide) rfl (Nat.le_of_ble_eq_true rfl) rfl rfl (gDec_at DX7_about_0 2 rfl) ?_
  refine g_M (mi_0 hI) ?_
  refine g_aload_n hC (gDec_at DX7_about_0 3 rfl) rfl ?_
  refine g_iload_n hC (gDec_at DX7_about_0 4 rfl) rfl ?_
  refine g_callVd (w := wM q) hC 0 (c_X7_noPlace_in q hI hj (ht)) vf_X7_noPlace ml_X7_108 (by decide) (show 0 < 17 from by decide) rfl rfl rfl rfl rfl (Nat.le_of_ble_eq_true rfl) (gDec_at DX7_about_0 5 rfl) ?_
  refine g_if_eqN hC (by decide) (gDec_at DX7_about_0 6 rfl) 15 (by decide) (fun h => ?_) (fun h => absurd h (by decide))
  refine g_iload_n hC (gDec_at DX7_about_0 9 rfl) rfl ?_
  refine g_callSd (w := wM q) hC (c_X7_index q hj) sf_X7_index ml_X7_111 (by decide) rfl rfl (Nat.le_of_ble_eq_true rfl) (gDec_at DX7_about_0 10 rfl) ?_
  refine g_istore_n hC (gDec_at DX7_about_0 11 rfl) (by decide) (L' := [(3, .int (nI j)), (0, .ref (q.2.2 0)), (1, .int (nI (10 * (j / 6) + j % 6))), (2, .int (nI 0))]) rfl ?_
  refine g_iload_n hC (gDec_at DX7_about_0 12 rfl) rfl ?_
  refine g_tableIn hC (gDec_at DX7_about_0 13 rfl) 60 (by decide) (by decide) rfl (by decide) ?_
  refine g_aload_n hC (gDec_at DX7_about_0 14 rfl) rfl ?_
  refine g_get (w := wM q) hC 0 (v := .ref (q.2.2 2)) fl_X7_17 (show 0 < 17 from by decide) rfl rfl (gDec_at DX7_about_0 15 rfl) ?_
  refine g_iload_n hC (gDec_at DX7_about_0 16 rfl) rfl ?_
  refine g_iald (w := wM q) hC 2 0 j (x := (nI (B 0 j))) (show 2 < 17 from by decide) rfl rfl (by omega) (by decide) (mi_f0 hI hj ht) (gDec_at DX7_about_0 17 rfl) ?_
  refine g_iret hC (gDec_at DX7_about_0 18 rfl) ?_
  exact ⟨rfl, rfl⟩

set_option maxRecDepth 100000 in
set_option maxHeartbeats 4000000 in
theorem c_X7_about_1 (q : gQ3) {M : gM} {B : gB} (hI : mI M B) {j : Nat} (hj : j < 12) (ht : j % 6 < B 9 0) : gCt (wM q) yX7_about cX7_about 4 (some .int) 8 [.ref (q.2.2 0), .int (nI (10 * (j / 6) + j % 6)), .int (nI 1)] M (gR (some (.int (nI (B 1 j)))) M) := by
  refine gMet RX7 (by decide +kernel) rfl (Nat.le_of_ble_eq_true rfl) (fun X hC => ?_)
  have hC : gC X (wM q) cX7_about 4 RX7 (some .int) 8 := hC
  show gG X (wM q) _ 4 M 0 [(0, .ref (q.2.2 0)), (1, .int (nI (10 * (j / 6) + j % 6))), (2, .int (nI 1))] []
  refine g_aload_n hC (gDec_at DX7_about_0 0 rfl) rfl ?_
  refine g_iconst hC (gDec_at DX7_about_0 1 rfl) (v := nI 0) (by decide) ?_
  refine g_putI (w := wM q) hC 0 fl_X7_67 fp_7_0 (show 0 < 17 from by decide) rfl (Nat.le_of_ble_eq_true rfl) rfl rfl (gDec_at DX7_about_0 2 rfl) ?_
  refine g_M (mi_0 hI) ?_
  refine g_aload_n hC (gDec_at DX7_about_0 3 rfl) rfl ?_
  refine g_iload_n hC (gDec_at DX7_about_0 4 rfl) rfl ?_
  refine g_callVd (w := wM q) hC 0 (c_X7_noPlace_in q hI hj (ht)) vf_X7_noPlace ml_X7_108 (by decide) (show 0 < 17 from by decide) rfl rfl rfl rfl rfl (Nat.le_of_ble_eq_true rfl) (gDec_at DX7_about_0 5 rfl) ?_
  refine g_if_eqN hC (by decide) (gDec_at DX7_about_0 6 rfl) 15 (by decide) (fun h => ?_) (fun h => absurd h (by decide))
  refine g_iload_n hC (gDec_at DX7_about_0 9 rfl) rfl ?_
  refine g_callSd (w := wM q) hC (c_X7_index q hj) sf_X7_index ml_X7_111 (by decide) rfl rfl (Nat.le_of_ble_eq_true rfl) (gDec_at DX7_about_0 10 rfl) ?_
  refine g_istore_n hC (gDec_at DX7_about_0 11 rfl) (by decide) (L' := [(3, .int (nI j)), (0, .ref (q.2.2 0)), (1, .int (nI (10 * (j / 6) + j % 6))), (2, .int (nI 1))]) rfl ?_
  refine g_iload_n hC (gDec_at DX7_about_0 12 rfl) rfl ?_
  refine g_tableIn hC (gDec_at DX7_about_0 13 rfl) 67 (by decide) (by decide) rfl (by decide) ?_
  refine g_aload_n hC (gDec_at DX7_about_0 19 rfl) rfl ?_
  refine g_get (w := wM q) hC 0 (v := .ref (q.2.2 3)) fl_X7_20 (show 0 < 17 from by decide) rfl rfl (gDec_at DX7_about_0 20 rfl) ?_
  refine g_iload_n hC (gDec_at DX7_about_0 21 rfl) rfl ?_
  refine g_iald (w := wM q) hC 3 0 j (x := (nI (B 1 j))) (show 3 < 17 from by decide) rfl rfl (by omega) (by decide) (mi_f1 hI hj ht) (gDec_at DX7_about_0 22 rfl) ?_
  refine g_iret hC (gDec_at DX7_about_0 23 rfl) ?_
  exact ⟨rfl, rfl⟩

set_option maxRecDepth 100000 in
set_option maxHeartbeats 4000000 in
theorem c_X7_about_2 (q : gQ3) {M : gM} {B : gB} (hI : mI M B) {j : Nat} (hj : j < 12) (ht : j % 6 < B 9 0) : gCt (wM q) yX7_about cX7_about 4 (some .int) 8 [.ref (q.2.2 0), .int (nI (10 * (j / 6) + j % 6)), .int (nI 2)] M (gR (some (.int (nI (B 2 j)))) M) := by
  refine gMet RX7 (by decide +kernel) rfl (Nat.le_of_ble_eq_true rfl) (fun X hC => ?_)
  have hC : gC X (wM q) cX7_about 4 RX7 (some .int) 8 := hC
  show gG X (wM q) _ 4 M 0 [(0, .ref (q.2.2 0)), (1, .int (nI (10 * (j / 6) + j % 6))), (2, .int (nI 2))] []
  refine g_aload_n hC (gDec_at DX7_about_0 0 rfl) rfl ?_
  refine g_iconst hC (gDec_at DX7_about_0 1 rfl) (v := nI 0) (by decide) ?_
  refine g_putI (w := wM q) hC 0 fl_X7_67 fp_7_0 (show 0 < 17 from by decide) rfl (Nat.le_of_ble_eq_true rfl) rfl rfl (gDec_at DX7_about_0 2 rfl) ?_
  refine g_M (mi_0 hI) ?_
  refine g_aload_n hC (gDec_at DX7_about_0 3 rfl) rfl ?_
  refine g_iload_n hC (gDec_at DX7_about_0 4 rfl) rfl ?_
  refine g_callVd (w := wM q) hC 0 (c_X7_noPlace_in q hI hj (ht)) vf_X7_noPlace ml_X7_108 (by decide) (show 0 < 17 from by decide) rfl rfl rfl rfl rfl (Nat.le_of_ble_eq_true rfl) (gDec_at DX7_about_0 5 rfl) ?_
  refine g_if_eqN hC (by decide) (gDec_at DX7_about_0 6 rfl) 15 (by decide) (fun h => ?_) (fun h => absurd h (by decide))
  refine g_iload_n hC (gDec_at DX7_about_0 9 rfl) rfl ?_
  refine g_callSd (w := wM q) hC (c_X7_index q hj) sf_X7_index ml_X7_111 (by decide) rfl rfl (Nat.le_of_ble_eq_true rfl) (gDec_at DX7_about_0 10 rfl) ?_
  refine g_istore_n hC (gDec_at DX7_about_0 11 rfl) (by decide) (L' := [(3, .int (nI j)), (0, .ref (q.2.2 0)), (1, .int (nI (10 * (j / 6) + j % 6))), (2, .int (nI 2))]) rfl ?_
  refine g_iload_n hC (gDec_at DX7_about_0 12 rfl) rfl ?_
  refine g_tableIn hC (gDec_at DX7_about_0 13 rfl) 74 (by decide) (by decide) rfl (by decide) ?_
  refine g_aload_n hC (gDec_at DX7_about_0 24 rfl) rfl ?_
  refine g_get (w := wM q) hC 0 (v := .ref (q.2.2 4)) fl_X7_23 (show 0 < 17 from by decide) rfl rfl (gDec_at DX7_about_0 25 rfl) ?_
  refine g_iload_n hC (gDec_at DX7_about_0 26 rfl) rfl ?_
  refine g_iald (w := wM q) hC 4 0 j (x := (nI (B 2 j))) (show 4 < 17 from by decide) rfl rfl (by omega) (by decide) (mi_f2 hI hj ht) (gDec_at DX7_about_0 27 rfl) ?_
  refine g_iret hC (gDec_at DX7_about_0 28 rfl) ?_
  exact ⟨rfl, rfl⟩

set_option maxRecDepth 100000 in
set_option maxHeartbeats 4000000 in
theorem c_X7_about_3 (q : gQ3) {M : gM} {B : gB} (hI : mI M B) {j : Nat} (hj : j < 12) (ht : j % 6 < B 9 0) : gCt (wM q) yX7_about cX7_about 4 (some .int) 8 [.ref (q.2.2 0), .int (nI (10 * (j / 6) + j % 6)), .int (nI 3)] M (gR (some (.int (nI (B 3 j)))) M) := by
  refine gMet RX7 (by decide +kernel) rfl (Nat.le_of_ble_eq_true rfl) (fun X hC => ?_)
  have hC : gC X (wM q) cX7_about 4 RX7 (some .int) 8 := hC
  show gG X (wM q) _ 4 M 0 [(0, .ref (q.2.2 0)), (1, .int (nI (10 * (j / 6) + j % 6))), (2, .int (nI 3))] []
  refine g_aload_n hC (gDec_at DX7_about_0 0 rfl) rfl ?_
  refine g_iconst hC (gDec_at DX7_about_0 1 rfl) (v := nI 0) (by decide) ?_
  refine g_putI (w := wM q) hC 0 fl_X7_67 fp_7_0 (show 0 < 17 from by decide) rfl (Nat.le_of_ble_eq_true rfl) rfl rfl (gDec_at DX7_about_0 2 rfl) ?_
  refine g_M (mi_0 hI) ?_
  refine g_aload_n hC (gDec_at DX7_about_0 3 rfl) rfl ?_
  refine g_iload_n hC (gDec_at DX7_about_0 4 rfl) rfl ?_
  refine g_callVd (w := wM q) hC 0 (c_X7_noPlace_in q hI hj (ht)) vf_X7_noPlace ml_X7_108 (by decide) (show 0 < 17 from by decide) rfl rfl rfl rfl rfl (Nat.le_of_ble_eq_true rfl) (gDec_at DX7_about_0 5 rfl) ?_
  refine g_if_eqN hC (by decide) (gDec_at DX7_about_0 6 rfl) 15 (by decide) (fun h => ?_) (fun h => absurd h (by decide))
  refine g_iload_n hC (gDec_at DX7_about_0 9 rfl) rfl ?_
  refine g_callSd (w := wM q) hC (c_X7_index q hj) sf_X7_index ml_X7_111 (by decide) rfl rfl (Nat.le_of_ble_eq_true rfl) (gDec_at DX7_about_0 10 rfl) ?_
  refine g_istore_n hC (gDec_at DX7_about_0 11 rfl) (by decide) (L' := [(3, .int (nI j)), (0, .ref (q.2.2 0)), (1, .int (nI (10 * (j / 6) + j % 6))), (2, .int (nI 3))]) rfl ?_
  refine g_iload_n hC (gDec_at DX7_about_0 12 rfl) rfl ?_
  refine g_tableIn hC (gDec_at DX7_about_0 13 rfl) 81 (by decide) (by decide) rfl (by decide) ?_
  refine g_aload_n hC (gDec_at DX7_about_0 29 rfl) rfl ?_
  refine g_get (w := wM q) hC 0 (v := .ref (q.2.2 5)) fl_X7_26 (show 0 < 17 from by decide) rfl rfl (gDec_at DX7_about_0 30 rfl) ?_
  refine g_iload_n hC (gDec_at DX7_about_0 31 rfl) rfl ?_
  refine g_iald (w := wM q) hC 5 0 j (x := (nI (B 3 j))) (show 5 < 17 from by decide) rfl rfl (by omega) (by decide) (mi_f3 hI hj ht) (gDec_at DX7_about_0 32 rfl) ?_
  refine g_iret hC (gDec_at DX7_about_0 33 rfl) ?_
  exact ⟨rfl, rfl⟩

set_option maxRecDepth 100000 in
set_option maxHeartbeats 4000000 in
theorem c_X7_about_4 (q : gQ3) {M : gM} {B : gB} (hI : mI M B) {j : Nat} (hj : j < 12) (ht : j % 6 < B 9 0) : gCt (wM q) yX7_about cX7_about 4 (some .int) 8 [.ref (q.2.2 0), .int (nI (10 * (j / 6) + j % 6)), .int (nI 4)] M (gR (some (.int (nI (B 4 j)))) M) := by
  refine gMet RX7 (by decide +kernel) rfl (Nat.le_of_ble_eq_true rfl) (fun X hC => ?_)
  have hC : gC X (wM q) cX7_about 4 RX7 (some .int) 8 := hC
  show gG X (wM q) _ 4 M 0 [(0, .ref (q.2.2 0)), (1, .int (nI (10 * (j / 6) + j % 6))), (2, .int (nI 4))] []
  refine g_aload_n hC (gDec_at DX7_about_0 0 rfl) rfl ?_
  refine g_iconst hC (gDec_at DX7_about_0 1 rfl) (v := nI 0) (by decide) ?_
  refine g_putI (w := wM q) hC 0 fl_X7_67 fp_7_0 (show 0 < 17 from by decide) rfl (Nat.le_of_ble_eq_true rfl) rfl rfl (gDec_at DX7_about_0 2 rfl) ?_
  refine g_M (mi_0 hI) ?_
  refine g_aload_n hC (gDec_at DX7_about_0 3 rfl) rfl ?_
  refine g_iload_n hC (gDec_at DX7_about_0 4 rfl) rfl ?_
  refine g_callVd (w := wM q) hC 0 (c_X7_noPlace_in q hI hj (ht)) vf_X7_noPlace ml_X7_108 (by decide) (show 0 < 17 from by decide) rfl rfl rfl rfl rfl (Nat.le_of_ble_eq_true rfl) (gDec_at DX7_about_0 5 rfl) ?_
  refine g_if_eqN hC (by decide) (gDec_at DX7_about_0 6 rfl) 15 (by decide) (fun h => ?_) (fun h => absurd h (by decide))
  refine g_iload_n hC (gDec_at DX7_about_0 9 rfl) rfl ?_
  refine g_callSd (w := wM q) hC (c_X7_index q hj) sf_X7_index ml_X7_111 (by decide) rfl rfl (Nat.le_of_ble_eq_true rfl) (gDec_at DX7_about_0 10 rfl) ?_
  refine g_istore_n hC (gDec_at DX7_about_0 11 rfl) (by decide) (L' := [(3, .int (nI j)), (0, .ref (q.2.2 0)), (1, .int (nI (10 * (j / 6) + j % 6))), (2, .int (nI 4))]) rfl ?_
  refine g_iload_n hC (gDec_at DX7_about_0 12 rfl) rfl ?_
  refine g_tableIn hC (gDec_at DX7_about_0 13 rfl) 88 (by decide) (by decide) rfl (by decide) ?_
  refine g_aload_n hC (gDec_at DX7_about_0 34 rfl) rfl ?_
  refine g_get (w := wM q) hC 0 (v := .ref (q.2.2 6)) fl_X7_29 (show 0 < 17 from by decide) rfl rfl (gDec_at DX7_about_0 35 rfl) ?_
  refine g_iload_n hC (gDec_at DX7_about_0 36 rfl) rfl ?_
  refine g_iald (w := wM q) hC 6 0 j (x := (nI (B 4 j))) (show 6 < 17 from by decide) rfl rfl (by omega) (by decide) (mi_f4 hI hj ht) (gDec_at DX7_about_0 37 rfl) ?_
  refine g_iret hC (gDec_at DX7_about_0 38 rfl) ?_
  exact ⟨rfl, rfl⟩

set_option maxRecDepth 100000 in
set_option maxHeartbeats 4000000 in
theorem c_X7_about_5 (q : gQ3) {M : gM} {B : gB} (hI : mI M B) {j : Nat} (hj : j < 12) (ht : j % 6 < B 9 0) : gCt (wM q) yX7_about cX7_about 4 (some .int) 8 [.ref (q.2.2 0), .int (nI (10 * (j / 6) + j % 6)), .int (nI 5)] M (gR (some (.int (nI (B 5 j)))) M) := by
  refine gMet RX7 (by decide +kernel) rfl (Nat.le_of_ble_eq_true rfl) (fun X hC => ?_)
  have hC : gC X (wM q) cX7_about 4 RX7 (some .int) 8 := hC
  show gG X (wM q) _ 4 M 0 [(0, .ref (q.2.2 0)), (1, .int (nI (10 * (j / 6) + j % 6))), (2, .int (nI 5))] []
  refine g_aload_n hC (gDec_at DX7_about_0 0 rfl) rfl ?_
  refine g_iconst hC (gDec_at DX7_about_0 1 rfl) (v := nI 0) (by decide) ?_
  refine g_putI (w := wM q) hC 0 fl_X7_67 fp_7_0 (show 0 < 17 from by decide) rfl (Nat.le_of_ble_eq_true rfl) rfl rfl (gDec_at DX7_about_0 2 rfl) ?_
  refine g_M (mi_0 hI) ?_
  refine g_aload_n hC (gDec_at DX7_about_0 3 rfl) rfl ?_
  refine g_iload_n hC (gDec_at DX7_about_0 4 rfl) rfl ?_
  refine g_callVd (w := wM q) hC 0 (c_X7_noPlace_in q hI hj (ht)) vf_X7_noPlace ml_X7_108 (by decide) (show 0 < 17 from by decide) rfl rfl rfl rfl rfl (Nat.le_of_ble_eq_true rfl) (gDec_at DX7_about_0 5 rfl) ?_
  refine g_if_eqN hC (by decide) (gDec_at DX7_about_0 6 rfl) 15 (by decide) (fun h => ?_) (fun h => absurd h (by decide))
  refine g_iload_n hC (gDec_at DX7_about_0 9 rfl) rfl ?_
  refine g_callSd (w := wM q) hC (c_X7_index q hj) sf_X7_index ml_X7_111 (by decide) rfl rfl (Nat.le_of_ble_eq_true rfl) (gDec_at DX7_about_0 10 rfl) ?_
  refine g_istore_n hC (gDec_at DX7_about_0 11 rfl) (by decide) (L' := [(3, .int (nI j)), (0, .ref (q.2.2 0)), (1, .int (nI (10 * (j / 6) + j % 6))), (2, .int (nI 5))]) rfl ?_
  refine g_iload_n hC (gDec_at DX7_about_0 12 rfl) rfl ?_
  refine g_tableIn hC (gDec_at DX7_about_0 13 rfl) 95 (by decide) (by decide) rfl (by decide) ?_
  refine g_aload_n hC (gDec_at DX7_about_0 39 rfl) rfl ?_
  refine g_get (w := wM q) hC 0 (v := .ref (q.2.2 7)) fl_X7_32 (show 0 < 17 from by decide) rfl rfl (gDec_at DX7_about_0 40 rfl) ?_
  refine g_iload_n hC (gDec_at DX7_about_0 41 rfl) rfl ?_
  refine g_iald (w := wM q) hC 7 0 j (x := (nI (B 5 j))) (show 7 < 17 from by decide) rfl rfl (by omega) (by decide) (mi_f5 hI hj ht) (gDec_at DX7_about_0 42 rfl) ?_
  refine g_iret hC (gDec_at DX7_about_0 43 rfl) ?_
  exact ⟨rfl, rfl⟩

set_option maxRecDepth 100000 in
set_option maxHeartbeats 4000000 in
theorem c_X7_about_bad (q : gQ3) {M : gM} {B : gB} (hI : mI M B) {j : Nat} (hj : j < 12) (ht : j % 6 < B 9 0) {y : Int32} (hy : ¬ gin y 0 5) : gCt (wM q) yX7_about cX7_about 4 (some .int) 8 [.ref (q.2.2 0), .int (nI (10 * (j / 6) + j % 6)), .int y] M (gR (some (.int (-2))) M) := by
  refine gMet RX7 (by decide +kernel) rfl (Nat.le_of_ble_eq_true rfl) (fun X hC => ?_)
  have hC : gC X (wM q) cX7_about 4 RX7 (some .int) 8 := hC
  show gG X (wM q) _ 4 M 0 [(0, .ref (q.2.2 0)), (1, .int (nI (10 * (j / 6) + j % 6))), (2, .int y)] []
  refine g_aload_n hC (gDec_at DX7_about_0 0 rfl) rfl ?_
  refine g_iconst hC (gDec_at DX7_about_0 1 rfl) (v := nI 0) (by decide) ?_
  refine g_putI (w := wM q) hC 0 fl_X7_67 fp_7_0 (show 0 < 17 from by decide) rfl (Nat.le_of_ble_eq_true rfl) rfl rfl (gDec_at DX7_about_0 2 rfl) ?_
  refine g_M (mi_0 hI) ?_
  refine g_aload_n hC (gDec_at DX7_about_0 3 rfl) rfl ?_
  refine g_iload_n hC (gDec_at DX7_about_0 4 rfl) rfl ?_
  refine g_callVd (w := wM q) hC 0 (c_X7_noPlace_in q hI hj (ht)) vf_X7_noPlace ml_X7_108 (by decide) (show 0 < 17 from by decide) rfl rfl rfl rfl rfl (Nat.le_of_ble_eq_true rfl) (gDec_at DX7_about_0 5 rfl) ?_
  refine g_if_eqN hC (by decide) (gDec_at DX7_about_0 6 rfl) 15 (by decide) (fun h => ?_) (fun h => absurd h (by decide))
  refine g_iload_n hC (gDec_at DX7_about_0 9 rfl) rfl ?_
  refine g_callSd (w := wM q) hC (c_X7_index q hj) sf_X7_index ml_X7_111 (by decide) rfl rfl (Nat.le_of_ble_eq_true rfl) (gDec_at DX7_about_0 10 rfl) ?_
  refine g_istore_n hC (gDec_at DX7_about_0 11 rfl) (by decide) (L' := [(3, .int (nI j)), (0, .ref (q.2.2 0)), (1, .int (nI (10 * (j / 6) + j % 6))), (2, .int y)]) rfl ?_
  refine g_iload_n hC (gDec_at DX7_about_0 12 rfl) rfl ?_
  refine g_tableOut hC (gDec_at DX7_about_0 13 rfl) 102 (by unfold gin at hy; omega) (by decide) ?_
  refine g_bipush hC (gDec_at DX7_about_0 44 rfl) (v := -2) (by decide) ?_
  refine g_iret hC (gDec_at DX7_about_0 45 rfl) ?_
  exact ⟨rfl, rfl⟩
