/-! BOW: what changes it; extremes, the break, sets, off -/
theorem gupd_get (M : gM) (i k : Nat) (x : Int32) (i' k' : Nat) : (gupd M i k x).1 i' k' = if i' = i ∧ k' = k then x else M.1 i' k' := by
  unfold gupd upd
  by_cases h : i' = i
  · subst h
    by_cases h2 : k' = k <;> simp [h2]
  · simp [h]
def upB (B : gB) (f j v : Nat) : gB := fun f' j' => if f' = f ∧ j' = j then v else B f' j'
/-- M' is M but for cells that P names -/
def sameO (P : Nat → Prop) (M M' : gM) : Prop := ∀ i, ¬ P i → M'.1 i = M.1 i
theorem sameO_rf {P : Nat → Prop} {M : gM} : sameO P M M := fun _ _ => rfl
theorem sameO_up {P : Nat → Prop} {M M' : gM} (h : sameO P M M') {i k : Nat} {x : Int32} (hi : P i) : sameO P M (gupd M' i k x) := by
  intro c hc
  rw [← h c hc]
  have : c ≠ i := fun e => hc (e ▸ hi)
  simp [gupd, this]
def fldOf (f k : Nat) : Prop := (f = 0 ∧ k = 3) ∨ (f = 1 ∧ k = 4) ∨ (f = 2 ∧ k = 5) ∨ (f = 3 ∧ k = 6) ∨ (f = 4 ∧ k = 8) ∨ (f = 5 ∧ k = 7)
theorem bK_up {M : gM} (h : bK M) {i k : Nat} {x : Int32} (hk : 3 ≤ k ∨ i < 15) : bK (gupd M i k x) := by
  intro b hb j hj
  obtain ⟨h1, h2, h3⟩ := h b hb j hj
  refine ⟨?_, ?_, ?_⟩ <;> rw [gupd_get, if_neg (by omega)] <;> assumption
theorem cI_set {M : gM} {B : gB} (h : cI M B) {f k j v : Nat} (hf : fldOf f k) (hV : bV (upB B f j v)) : cI (gupd M (15 + j) k (nI v)) (upB B f j v) := by
  obtain ⟨hK, ⟨h1, h2, h3, h4⟩, -⟩ := h
  have hf9 : f ≠ 9 ∧ f ≠ 6 ∧ f ≠ 7 ∧ f ≠ 8 ∧ 3 ≤ k := by rcases hf with q | q | q | q | q | q <;> omega
  refine ⟨bK_up hK (by omega), ⟨?_, ?_, fun w hw => ?_, fun j' hj' ht' => ?_⟩, hV⟩
  · rw [gupd_get, if_neg (by omega), h1]; unfold upB; rw [if_neg (by omega)]
  · rw [gupd_get, if_neg (by omega), h2]; unfold upB; rw [if_neg (by omega)]
  · obtain ⟨a, b, c⟩ := h3 w hw
    refine ⟨?_, ?_, ?_⟩ <;> rw [gupd_get, if_neg (by omega)] <;> unfold upB <;> rw [if_neg (by omega)] <;> assumption
  · have ht : j' % 6 < B 9 0 := by
      have e : upB B f j v 9 0 = B 9 0 := by unfold upB; rw [if_neg (by omega)]
      rw [e] at ht'; exact ht'
    obtain ⟨a0, a1, a2, a3, a4, a5⟩ := h4 j' hj' ht
    unfold upB
    rcases hf with ⟨rfl, rfl⟩ | ⟨rfl, rfl⟩ | ⟨rfl, rfl⟩ | ⟨rfl, rfl⟩ | ⟨rfl, rfl⟩ | ⟨rfl, rfl⟩ <;>
    · by_cases e : j' = j
      · subst e
        simp [gupd_get, a0, a1, a2, a3, a4, a5] at *
        try simp [a0, a1, a2, a3, a4, a5]
      · have e2 : ¬ (15 + 18 * 0 + j' = 15 + j) := by omega
        simp [gupd_get, e, e2] at *
        try simp [a0, a1, a2, a3, a4, a5]
theorem nI_n9 {n : Nat} (h : n < 2147483648) : ¬ nI n = -9 := fun q => by
  have h1 := nI_toInt h
  rw [q] at h1
  have h2 : (-9 : Int32).toInt = -9 := by decide
  omega
def sTold (j : Nat) : Nat := 10 * (j / 6) + j % 6
/-- the first place with the greatest (g = 1), the least (g = 0) f -/
def sExt (B : gB) (f : Nat → Nat) (g : Nat) : Nat → Nat
  | 0 => 0
  | n + 1 => if n % 6 < B 9 0 ∧ ((0 < g ∧ f (sExt B f g n) < f n) ∨ (g = 0 ∧ f n < f (sExt B f g n))) then n else sExt B f g n
theorem sExt_1 (B : gB) (f : Nat → Nat) (g : Nat) : sExt B f g 1 = 0 := by
  unfold sExt
  split <;> rfl
theorem sExt_lt {B : gB} {f : Nat → Nat} {g : Nat} (hm : 1 ≤ B 9 0) : ∀ n, 0 < n → sExt B f g n < n ∧ sExt B f g n % 6 < B 9 0
  | 0, h => absurd h (Nat.lt_irrefl 0)
  | 1, _ => by rw [sExt_1]; omega
  | n + 2, _ => by
    have ih := sExt_lt (B := B) (f := f) (g := g) hm (n + 1) (by omega)
    rw [sExt]
    split
    · rename_i hc; exact ⟨by omega, hc.1⟩
    · omega
set_option maxRecDepth 100000 in
set_option maxHeartbeats 4000000 in
theorem c_X0_extremePlace (q : gQ3) {M : gM} {B : gB} (hI : cI M B) {x g : Nat} (hx : x ≤ 40) (hg : g ≤ 1) : gCt (wC q) yX0_extremePlace cX0_extremePlace 17 (some .int) 5 [.ref (q.2.2 9), .int (nI x), .int (nI g)] M (gR (some (.int (nI (sTold (sExt B (sStr B (sPull B x) (sAll B)) g 12))))) M) := by
  refine gMet RX0 (by decide +kernel) rfl (Nat.le_of_ble_eq_true rfl) (fun X hC => ?_)
  have hC : gC X (wC q) cX0_extremePlace 17 RX0 (some .int) 5 := hC
  show gG X (wC q) _ 17 M 0 [(0, .ref (q.2.2 9)), (1, .int (nI x)), (2, .int (nI g))] []
  have hm := bv_many hI.2.2
  have hpl := sPull_le B hx
  have hal := sAll_le B
  have hst := fun j => sStr_le B j (gives := sAll B) hpl
  refine g_aload_n hC (gDec_at DX0_extremePlace_0 0 rfl) rfl ?_
  refine g_iload_n hC (gDec_at DX0_extremePlace_0 1 rfl) rfl ?_
  refine g_callVd (w := wC q) hC 9 (c_X0_pullAt q hI (x := x) (by omega)) vf_X0_pullAt ml_X0_154 (by decide) (show 9 < 63 from by decide) rfl rfl rfl rfl rfl (Nat.le_of_ble_eq_true rfl) (gDec_at DX0_extremePlace_0 2 rfl) ?_
  refine g_lstore_n hC (gDec_at DX0_extremePlace_0 3 rfl) (by decide) (L' := [(3, .long (lN (sPull B x))), (0, .ref (q.2.2 9)), (1, .int (nI x)), (2, .int (nI g))]) rfl ?_
  refine g_aload_n hC (gDec_at DX0_extremePlace_0 4 rfl) rfl ?_
  refine g_callVd (w := wC q) hC 9 (c_X0_allGives q hI) vf_X0_allGives ml_X0_157 (by decide) (show 9 < 63 from by decide) rfl rfl rfl rfl rfl (Nat.le_of_ble_eq_true rfl) (gDec_at DX0_extremePlace_0 5 rfl) ?_
  refine g_lstore hC (gDec_at DX0_extremePlace_0 6 rfl) (by decide) (L' := [(5, .long (lN (sAll B))), (3, .long (lN (sPull B x))), (0, .ref (q.2.2 9)), (1, .int (nI x)), (2, .int (nI g))]) rfl ?_
  refine g_bipush hC (gDec_at DX0_extremePlace_0 7 rfl) (v := -9) (by decide) ?_
  refine g_istore hC (gDec_at DX0_extremePlace_0 8 rfl) (by decide) (L' := [(7, .int (-9)), (5, .long (lN (sAll B))), (3, .long (lN (sPull B x))), (0, .ref (q.2.2 9)), (1, .int (nI x)), (2, .int (nI g))]) rfl ?_
  refine g_lconst hC (gDec_at DX0_extremePlace_0 9 rfl) (v := lN 0) (by decide) ?_
  refine g_lstore hC (gDec_at DX0_extremePlace_0 10 rfl) (by decide) (L' := [(8, .long (lN 0)), (7, .int (-9)), (5, .long (lN (sAll B))), (3, .long (lN (sPull B x))), (0, .ref (q.2.2 9)), (1, .int (nI x)), (2, .int (nI g))]) rfl ?_
  refine g_aload_n hC (gDec_at DX0_extremePlace_0 11 rfl) rfl ?_
  refine g_get (w := wC q) hC 9 (v := .ref (q.2.2 11)) fl_X0_22 (show 9 < 63 from by decide) rfl rfl (gDec_at DX0_extremePlace_0 12 rfl) ?_
  refine g_astore hC (gDec_at DX0_extremePlace_0 13 rfl) (by decide) (L' := [(10, .ref (q.2.2 11)), (8, .long (lN 0)), (7, .int (-9)), (5, .long (lN (sAll B))), (3, .long (lN (sPull B x))), (0, .ref (q.2.2 9)), (1, .int (nI x)), (2, .int (nI g))]) rfl ?_
  refine g_aload hC (gDec_at DX0_extremePlace_0 14 rfl) rfl ?_
  refine g_alen (w := wC q) hC 11 3 (show 11 < 63 from by decide) rfl rfl (gDec_at DX0_extremePlace_0 15 rfl) ?_
  refine g_istore hC (gDec_at DX0_extremePlace_0 16 rfl) (by decide) (L' := [(11, .int (nI 12)), (10, .ref (q.2.2 11)), (8, .long (lN 0)), (7, .int (-9)), (5, .long (lN (sAll B))), (3, .long (lN (sPull B x))), (0, .ref (q.2.2 9)), (1, .int (nI x)), (2, .int (nI g))]) rfl ?_
  refine g_iconst hC (gDec_at DX0_extremePlace_0 17 rfl) (v := nI 0) (by decide) ?_
  refine g_istore hC (gDec_at DX0_extremePlace_0 18 rfl) (by decide) (L' := [(12, .int (nI 0)), (11, .int (nI 12)), (10, .ref (q.2.2 11)), (8, .long (lN 0)), (7, .int (-9)), (5, .long (lN (sAll B))), (3, .long (lN (sPull B x))), (0, .ref (q.2.2 9)), (1, .int (nI x)), (2, .int (nI g))]) rfl ?_
  have loop33 : ∀ (n i : Nat) (fnd : Int32) (fs : Int64), i ≤ 12 → 12 - i < n → (i = 0 ∧ fnd = -9 ∧ fs = lN 0 ∨ 0 < i ∧ fnd = nI (sTold (sExt B (sStr B (sPull B x) (sAll B)) g i)) ∧ fs = lN ((sStr B (sPull B x) (sAll B)) (sExt B (sStr B (sPull B x) (sAll B)) g i))) → gG X (wC q) (gR (some (.int (nI (sTold (sExt B (sStr B (sPull B x) (sAll B)) g 12))))) M) 17 M 33 [(0, .ref (q.2.2 9)), (1, .int (nI x)), (2, .int (nI g)), (3, .long (lN (sPull B x))), (5, .long (lN (sAll B))), (7, .int fnd), (8, .long fs), (10, .ref (q.2.2 11)), (11, .int (nI 12)), (12, .int (nI i))] [] := by
    intro n; induction n with
    | zero => intro i fnd fs h1 h2; omega
    | succ n ih =>
      intro i fnd fs hi hn hf
      have hsi := hst i
      rcases hf with ⟨h0, rfl, rfl⟩ | ⟨h0, rfl, rfl⟩
      · skip
        refine g_iload hC (gDec_at DX0_extremePlace_0 19 rfl) rfl ?_
        refine g_iload hC (gDec_at DX0_extremePlace_0 20 rfl) rfl ?_
        refine g_icmp_geN hC (by omega) (by omega) (gDec_at DX0_extremePlace_0 21 rfl) 131 (by decide) (fun h37 => ?_) (fun h37 => ?_)
        · skip
          omega
        · skip
          refine g_aload hC (gDec_at DX0_extremePlace_0 22 rfl) rfl ?_
          refine g_iload hC (gDec_at DX0_extremePlace_0 23 rfl) rfl ?_
          refine g_aald (w := wC q) hC 11 3 i (a := q.2.2 (15 + i)) (show 11 < 63 from by decide) rfl rfl (by omega) (by decide) rfl (gDec_at DX0_extremePlace_0 24 rfl) ?_
          refine g_astore hC (gDec_at DX0_extremePlace_0 25 rfl) (by decide) (L' := [(13, .ref (q.2.2 (15 + i))), (0, .ref (q.2.2 9)), (1, .int (nI x)), (2, .int (nI g)), (3, .long (lN (sPull B x))), (5, .long (lN (sAll B))), (7, .int (-9)), (8, .long (lN 0)), (10, .ref (q.2.2 11)), (11, .int (nI 12)), (12, .int (nI i))]) rfl ?_
          refine g_aload_n hC (gDec_at DX0_extremePlace_0 26 rfl) rfl ?_
          refine g_aload hC (gDec_at DX0_extremePlace_0 27 rfl) rfl ?_
          refine g_callVd (w := wC q) hC 9 (c_X0_has q hI (by omega)) vf_X0_has ml_X0_42 (by decide) (show 9 < 63 from by decide) rfl rfl rfl rfl rfl (Nat.le_of_ble_eq_true rfl) (gDec_at DX0_extremePlace_0 28 rfl) ?_
          refine g_if_eqB hC (gDec_at DX0_extremePlace_0 29 rfl) 125 (by decide) (fun h53 => ?_) (fun h53 => ?_)
          · skip
            exact absurd h53 (by subst h0; omega)
          · skip
            refine g_aload_n hC (gDec_at DX0_extremePlace_0 30 rfl) rfl ?_
            refine g_aload hC (gDec_at DX0_extremePlace_0 31 rfl) rfl ?_
            refine g_lload_n hC (gDec_at DX0_extremePlace_0 32 rfl) rfl ?_
            refine g_lload hC (gDec_at DX0_extremePlace_0 33 rfl) rfl ?_
            refine g_callVd (w := wC q) hC 9 (c_X0_strainOf q hI (by omega) (by omega) (pull := (sPull B x)) (gives := (sAll B)) (by omega) (by omega)) vf_X0_strainOf ml_X0_132 (by decide) (show 9 < 63 from by decide) rfl rfl rfl rfl rfl (Nat.le_of_ble_eq_true rfl) (gDec_at DX0_extremePlace_0 34 rfl) ?_
            refine g_lstore hC (gDec_at DX0_extremePlace_0 35 rfl) (by decide) (L' := [(14, .long (lN (sStr B (sPull B x) (sAll B) i))), (13, .ref (q.2.2 (15 + i))), (0, .ref (q.2.2 9)), (1, .int (nI x)), (2, .int (nI g)), (3, .long (lN (sPull B x))), (5, .long (lN (sAll B))), (7, .int (-9)), (8, .long (lN 0)), (10, .ref (q.2.2 11)), (11, .int (nI 12)), (12, .int (nI i))]) rfl ?_
            refine g_iload_n hC (gDec_at DX0_extremePlace_0 36 rfl) rfl ?_
            refine g_if_eqN hC (by omega) (gDec_at DX0_extremePlace_0 37 rfl) 87 (by decide) (fun h68 => ?_) (fun h68 => ?_)
            · skip
              refine g_lload hC (gDec_at DX0_extremePlace_0 46 rfl) rfl ?_
              refine g_lload hC (gDec_at DX0_extremePlace_0 47 rfl) rfl ?_
              refine g_lc_geN hC (by omega) (by omega) (gDec_at DX0_extremePlace_0 48 rfl) (gDec_at DX0_extremePlace_0 49 rfl) 99 (by decide) (fun h91 => ?_) (fun h91 => ?_)
              · skip
                refine g_iconst hC (gDec_at DX0_extremePlace_0 52 rfl) (v := nI 0) (by decide) ?_
                refine g_istore hC (gDec_at DX0_extremePlace_0 53 rfl) (by decide) (L' := [(16, .int (nI 0)), (14, .long (lN (sStr B (sPull B x) (sAll B) i))), (13, .ref (q.2.2 (15 + i))), (0, .ref (q.2.2 9)), (1, .int (nI x)), (2, .int (nI g)), (3, .long (lN (sPull B x))), (5, .long (lN (sAll B))), (7, .int (-9)), (8, .long (lN 0)), (10, .ref (q.2.2 11)), (11, .int (nI 12)), (12, .int (nI i))]) rfl ?_
                refine g_iload hC (gDec_at DX0_extremePlace_0 54 rfl) rfl ?_
                refine g_bipush hC (gDec_at DX0_extremePlace_0 55 rfl) (v := -9) (by decide) ?_
                refine g_icmp_eq hC (gDec_at DX0_extremePlace_0 56 rfl) 114 (by decide) (fun h => ?_) (fun h => absurd rfl h)
                refine g_aload hC (gDec_at DX0_extremePlace_0 59 rfl) rfl ?_
                refine g_get (w := wC q) hC (15 + i) (v := .int (nI (10 * (i / 6) + i % 6))) fl_X0_75 (show 15 + i < 63 from by have := (by omega); omega) (cC_p0 q _ _ (by omega)) (g_sv (ci_told hI (by omega))) (gDec_at DX0_extremePlace_0 60 rfl) ?_
                refine g_istore hC (gDec_at DX0_extremePlace_0 61 rfl) (by decide) (L' := [(7, .int (nI (10 * (i / 6) + i % 6))), (16, .int (nI 0)), (14, .long (lN (sStr B (sPull B x) (sAll B) i))), (13, .ref (q.2.2 (15 + i))), (0, .ref (q.2.2 9)), (1, .int (nI x)), (2, .int (nI g)), (3, .long (lN (sPull B x))), (5, .long (lN (sAll B))), (8, .long (lN 0)), (10, .ref (q.2.2 11)), (11, .int (nI 12)), (12, .int (nI i))]) rfl ?_
                refine g_lload hC (gDec_at DX0_extremePlace_0 62 rfl) rfl ?_
                refine g_lstore hC (gDec_at DX0_extremePlace_0 63 rfl) (by decide) (L' := [(8, .long (lN (sStr B (sPull B x) (sAll B) i))), (7, .int (nI (10 * (i / 6) + i % 6))), (16, .int (nI 0)), (14, .long (lN (sStr B (sPull B x) (sAll B) i))), (13, .ref (q.2.2 (15 + i))), (0, .ref (q.2.2 9)), (1, .int (nI x)), (2, .int (nI g)), (3, .long (lN (sPull B x))), (5, .long (lN (sAll B))), (10, .ref (q.2.2 11)), (11, .int (nI 12)), (12, .int (nI i))]) rfl ?_
                refine g_iincN hC (gDec_at DX0_extremePlace_1 0 rfl) rfl (by decide) (L' := [(12, .int (nI (i + 1))), (8, .long (lN (sStr B (sPull B x) (sAll B) i))), (7, .int (nI (10 * (i / 6) + i % 6))), (16, .int (nI 0)), (14, .long (lN (sStr B (sPull B x) (sAll B) i))), (13, .ref (q.2.2 (15 + i))), (0, .ref (q.2.2 9)), (1, .int (nI x)), (2, .int (nI g)), (3, .long (lN (sPull B x))), (5, .long (lN (sAll B))), (10, .ref (q.2.2 11)), (11, .int (nI 12))]) rfl ?_
                refine g_goto hC (gDec_at DX0_extremePlace_1 1 rfl) 33 (by decide) ?_
                refine g_sub [6, 7, 8, 9, 10, 2, 1, 11, 12, 0] (L' := [(0, .ref (q.2.2 9)), (1, .int (nI x)), (2, .int (nI g)), (3, .long (lN (sPull B x))), (5, .long (lN (sAll B))), (7, .int (nI (10 * (i / 6) + i % 6))), (8, .long (lN (sStr B (sPull B x) (sAll B) i))), (10, .ref (q.2.2 11)), (11, .int (nI 12)), (12, .int (nI (i + 1)))]) rfl ?_
                have h9 := ih (i + 1) (nI (10 * (i / 6) + i % 6)) (lN (sStr B (sPull B x) (sAll B) i)) (by omega) (by omega) (Or.inr ⟨by omega, by subst h0; rw [sExt_1]; rfl, by subst h0; rw [sExt_1]⟩)
                exact h9
              · skip
                refine g_iconst hC (gDec_at DX0_extremePlace_0 50 rfl) (v := nI 1) (by decide) ?_
                refine g_goto hC (gDec_at DX0_extremePlace_0 51 rfl) 100 (by decide) ?_
                refine g_istore hC (gDec_at DX0_extremePlace_0 53 rfl) (by decide) (L' := [(16, .int (nI 1)), (14, .long (lN (sStr B (sPull B x) (sAll B) i))), (13, .ref (q.2.2 (15 + i))), (0, .ref (q.2.2 9)), (1, .int (nI x)), (2, .int (nI g)), (3, .long (lN (sPull B x))), (5, .long (lN (sAll B))), (7, .int (-9)), (8, .long (lN 0)), (10, .ref (q.2.2 11)), (11, .int (nI 12)), (12, .int (nI i))]) rfl ?_
                refine g_iload hC (gDec_at DX0_extremePlace_0 54 rfl) rfl ?_
                refine g_bipush hC (gDec_at DX0_extremePlace_0 55 rfl) (v := -9) (by decide) ?_
                refine g_icmp_eq hC (gDec_at DX0_extremePlace_0 56 rfl) 114 (by decide) (fun h => ?_) (fun h => absurd rfl h)
                refine g_aload hC (gDec_at DX0_extremePlace_0 59 rfl) rfl ?_
                refine g_get (w := wC q) hC (15 + i) (v := .int (nI (10 * (i / 6) + i % 6))) fl_X0_75 (show 15 + i < 63 from by have := (by omega); omega) (cC_p0 q _ _ (by omega)) (g_sv (ci_told hI (by omega))) (gDec_at DX0_extremePlace_0 60 rfl) ?_
                refine g_istore hC (gDec_at DX0_extremePlace_0 61 rfl) (by decide) (L' := [(7, .int (nI (10 * (i / 6) + i % 6))), (16, .int (nI 1)), (14, .long (lN (sStr B (sPull B x) (sAll B) i))), (13, .ref (q.2.2 (15 + i))), (0, .ref (q.2.2 9)), (1, .int (nI x)), (2, .int (nI g)), (3, .long (lN (sPull B x))), (5, .long (lN (sAll B))), (8, .long (lN 0)), (10, .ref (q.2.2 11)), (11, .int (nI 12)), (12, .int (nI i))]) rfl ?_
                refine g_lload hC (gDec_at DX0_extremePlace_0 62 rfl) rfl ?_
                refine g_lstore hC (gDec_at DX0_extremePlace_0 63 rfl) (by decide) (L' := [(8, .long (lN (sStr B (sPull B x) (sAll B) i))), (7, .int (nI (10 * (i / 6) + i % 6))), (16, .int (nI 1)), (14, .long (lN (sStr B (sPull B x) (sAll B) i))), (13, .ref (q.2.2 (15 + i))), (0, .ref (q.2.2 9)), (1, .int (nI x)), (2, .int (nI g)), (3, .long (lN (sPull B x))), (5, .long (lN (sAll B))), (10, .ref (q.2.2 11)), (11, .int (nI 12)), (12, .int (nI i))]) rfl ?_
                refine g_iincN hC (gDec_at DX0_extremePlace_1 0 rfl) rfl (by decide) (L' := [(12, .int (nI (i + 1))), (8, .long (lN (sStr B (sPull B x) (sAll B) i))), (7, .int (nI (10 * (i / 6) + i % 6))), (16, .int (nI 1)), (14, .long (lN (sStr B (sPull B x) (sAll B) i))), (13, .ref (q.2.2 (15 + i))), (0, .ref (q.2.2 9)), (1, .int (nI x)), (2, .int (nI g)), (3, .long (lN (sPull B x))), (5, .long (lN (sAll B))), (10, .ref (q.2.2 11)), (11, .int (nI 12))]) rfl ?_
                refine g_goto hC (gDec_at DX0_extremePlace_1 1 rfl) 33 (by decide) ?_
                refine g_sub [6, 7, 8, 9, 10, 2, 1, 11, 12, 0] (L' := [(0, .ref (q.2.2 9)), (1, .int (nI x)), (2, .int (nI g)), (3, .long (lN (sPull B x))), (5, .long (lN (sAll B))), (7, .int (nI (10 * (i / 6) + i % 6))), (8, .long (lN (sStr B (sPull B x) (sAll B) i))), (10, .ref (q.2.2 11)), (11, .int (nI 12)), (12, .int (nI (i + 1)))]) rfl ?_
                have h9 := ih (i + 1) (nI (10 * (i / 6) + i % 6)) (lN (sStr B (sPull B x) (sAll B) i)) (by omega) (by omega) (Or.inr ⟨by omega, by subst h0; rw [sExt_1]; rfl, by subst h0; rw [sExt_1]⟩)
                exact h9
            · skip
              refine g_lload hC (gDec_at DX0_extremePlace_0 38 rfl) rfl ?_
              refine g_lload hC (gDec_at DX0_extremePlace_0 39 rfl) rfl ?_
              refine g_lc_leN hC (by omega) (by omega) (gDec_at DX0_extremePlace_0 40 rfl) (gDec_at DX0_extremePlace_0 41 rfl) 83 (by decide) (fun h75 => ?_) (fun h75 => ?_)
              · skip
                refine g_iconst hC (gDec_at DX0_extremePlace_0 44 rfl) (v := nI 0) (by decide) ?_
                refine g_goto hC (gDec_at DX0_extremePlace_0 45 rfl) 100 (by decide) ?_
                refine g_istore hC (gDec_at DX0_extremePlace_0 53 rfl) (by decide) (L' := [(16, .int (nI 0)), (14, .long (lN (sStr B (sPull B x) (sAll B) i))), (13, .ref (q.2.2 (15 + i))), (0, .ref (q.2.2 9)), (1, .int (nI x)), (2, .int (nI g)), (3, .long (lN (sPull B x))), (5, .long (lN (sAll B))), (7, .int (-9)), (8, .long (lN 0)), (10, .ref (q.2.2 11)), (11, .int (nI 12)), (12, .int (nI i))]) rfl ?_
                refine g_iload hC (gDec_at DX0_extremePlace_0 54 rfl) rfl ?_
                refine g_bipush hC (gDec_at DX0_extremePlace_0 55 rfl) (v := -9) (by decide) ?_
                refine g_icmp_eq hC (gDec_at DX0_extremePlace_0 56 rfl) 114 (by decide) (fun h => ?_) (fun h => absurd rfl h)
                refine g_aload hC (gDec_at DX0_extremePlace_0 59 rfl) rfl ?_
                refine g_get (w := wC q) hC (15 + i) (v := .int (nI (10 * (i / 6) + i % 6))) fl_X0_75 (show 15 + i < 63 from by have := (by omega); omega) (cC_p0 q _ _ (by omega)) (g_sv (ci_told hI (by omega))) (gDec_at DX0_extremePlace_0 60 rfl) ?_
                refine g_istore hC (gDec_at DX0_extremePlace_0 61 rfl) (by decide) (L' := [(7, .int (nI (10 * (i / 6) + i % 6))), (16, .int (nI 0)), (14, .long (lN (sStr B (sPull B x) (sAll B) i))), (13, .ref (q.2.2 (15 + i))), (0, .ref (q.2.2 9)), (1, .int (nI x)), (2, .int (nI g)), (3, .long (lN (sPull B x))), (5, .long (lN (sAll B))), (8, .long (lN 0)), (10, .ref (q.2.2 11)), (11, .int (nI 12)), (12, .int (nI i))]) rfl ?_
                refine g_lload hC (gDec_at DX0_extremePlace_0 62 rfl) rfl ?_
                refine g_lstore hC (gDec_at DX0_extremePlace_0 63 rfl) (by decide) (L' := [(8, .long (lN (sStr B (sPull B x) (sAll B) i))), (7, .int (nI (10 * (i / 6) + i % 6))), (16, .int (nI 0)), (14, .long (lN (sStr B (sPull B x) (sAll B) i))), (13, .ref (q.2.2 (15 + i))), (0, .ref (q.2.2 9)), (1, .int (nI x)), (2, .int (nI g)), (3, .long (lN (sPull B x))), (5, .long (lN (sAll B))), (10, .ref (q.2.2 11)), (11, .int (nI 12)), (12, .int (nI i))]) rfl ?_
                refine g_iincN hC (gDec_at DX0_extremePlace_1 0 rfl) rfl (by decide) (L' := [(12, .int (nI (i + 1))), (8, .long (lN (sStr B (sPull B x) (sAll B) i))), (7, .int (nI (10 * (i / 6) + i % 6))), (16, .int (nI 0)), (14, .long (lN (sStr B (sPull B x) (sAll B) i))), (13, .ref (q.2.2 (15 + i))), (0, .ref (q.2.2 9)), (1, .int (nI x)), (2, .int (nI g)), (3, .long (lN (sPull B x))), (5, .long (lN (sAll B))), (10, .ref (q.2.2 11)), (11, .int (nI 12))]) rfl ?_
                refine g_goto hC (gDec_at DX0_extremePlace_1 1 rfl) 33 (by decide) ?_
                refine g_sub [6, 7, 8, 9, 10, 2, 1, 11, 12, 0] (L' := [(0, .ref (q.2.2 9)), (1, .int (nI x)), (2, .int (nI g)), (3, .long (lN (sPull B x))), (5, .long (lN (sAll B))), (7, .int (nI (10 * (i / 6) + i % 6))), (8, .long (lN (sStr B (sPull B x) (sAll B) i))), (10, .ref (q.2.2 11)), (11, .int (nI 12)), (12, .int (nI (i + 1)))]) rfl ?_
                have h9 := ih (i + 1) (nI (10 * (i / 6) + i % 6)) (lN (sStr B (sPull B x) (sAll B) i)) (by omega) (by omega) (Or.inr ⟨by omega, by subst h0; rw [sExt_1]; rfl, by subst h0; rw [sExt_1]⟩)
                exact h9
              · skip
                refine g_iconst hC (gDec_at DX0_extremePlace_0 42 rfl) (v := nI 1) (by decide) ?_
                refine g_goto hC (gDec_at DX0_extremePlace_0 43 rfl) 100 (by decide) ?_
                refine g_istore hC (gDec_at DX0_extremePlace_0 53 rfl) (by decide) (L' := [(16, .int (nI 1)), (14, .long (lN (sStr B (sPull B x) (sAll B) i))), (13, .ref (q.2.2 (15 + i))), (0, .ref (q.2.2 9)), (1, .int (nI x)), (2, .int (nI g)), (3, .long (lN (sPull B x))), (5, .long (lN (sAll B))), (7, .int (-9)), (8, .long (lN 0)), (10, .ref (q.2.2 11)), (11, .int (nI 12)), (12, .int (nI i))]) rfl ?_
                refine g_iload hC (gDec_at DX0_extremePlace_0 54 rfl) rfl ?_
                refine g_bipush hC (gDec_at DX0_extremePlace_0 55 rfl) (v := -9) (by decide) ?_
                refine g_icmp_eq hC (gDec_at DX0_extremePlace_0 56 rfl) 114 (by decide) (fun h => ?_) (fun h => absurd rfl h)
                refine g_aload hC (gDec_at DX0_extremePlace_0 59 rfl) rfl ?_
                refine g_get (w := wC q) hC (15 + i) (v := .int (nI (10 * (i / 6) + i % 6))) fl_X0_75 (show 15 + i < 63 from by have := (by omega); omega) (cC_p0 q _ _ (by omega)) (g_sv (ci_told hI (by omega))) (gDec_at DX0_extremePlace_0 60 rfl) ?_
                refine g_istore hC (gDec_at DX0_extremePlace_0 61 rfl) (by decide) (L' := [(7, .int (nI (10 * (i / 6) + i % 6))), (16, .int (nI 1)), (14, .long (lN (sStr B (sPull B x) (sAll B) i))), (13, .ref (q.2.2 (15 + i))), (0, .ref (q.2.2 9)), (1, .int (nI x)), (2, .int (nI g)), (3, .long (lN (sPull B x))), (5, .long (lN (sAll B))), (8, .long (lN 0)), (10, .ref (q.2.2 11)), (11, .int (nI 12)), (12, .int (nI i))]) rfl ?_
                refine g_lload hC (gDec_at DX0_extremePlace_0 62 rfl) rfl ?_
                refine g_lstore hC (gDec_at DX0_extremePlace_0 63 rfl) (by decide) (L' := [(8, .long (lN (sStr B (sPull B x) (sAll B) i))), (7, .int (nI (10 * (i / 6) + i % 6))), (16, .int (nI 1)), (14, .long (lN (sStr B (sPull B x) (sAll B) i))), (13, .ref (q.2.2 (15 + i))), (0, .ref (q.2.2 9)), (1, .int (nI x)), (2, .int (nI g)), (3, .long (lN (sPull B x))), (5, .long (lN (sAll B))), (10, .ref (q.2.2 11)), (11, .int (nI 12)), (12, .int (nI i))]) rfl ?_
                refine g_iincN hC (gDec_at DX0_extremePlace_1 0 rfl) rfl (by decide) (L' := [(12, .int (nI (i + 1))), (8, .long (lN (sStr B (sPull B x) (sAll B) i))), (7, .int (nI (10 * (i / 6) + i % 6))), (16, .int (nI 1)), (14, .long (lN (sStr B (sPull B x) (sAll B) i))), (13, .ref (q.2.2 (15 + i))), (0, .ref (q.2.2 9)), (1, .int (nI x)), (2, .int (nI g)), (3, .long (lN (sPull B x))), (5, .long (lN (sAll B))), (10, .ref (q.2.2 11)), (11, .int (nI 12))]) rfl ?_
                refine g_goto hC (gDec_at DX0_extremePlace_1 1 rfl) 33 (by decide) ?_
                refine g_sub [6, 7, 8, 9, 10, 2, 1, 11, 12, 0] (L' := [(0, .ref (q.2.2 9)), (1, .int (nI x)), (2, .int (nI g)), (3, .long (lN (sPull B x))), (5, .long (lN (sAll B))), (7, .int (nI (10 * (i / 6) + i % 6))), (8, .long (lN (sStr B (sPull B x) (sAll B) i))), (10, .ref (q.2.2 11)), (11, .int (nI 12)), (12, .int (nI (i + 1)))]) rfl ?_
                have h9 := ih (i + 1) (nI (10 * (i / 6) + i % 6)) (lN (sStr B (sPull B x) (sAll B) i)) (by omega) (by omega) (Or.inr ⟨by omega, by subst h0; rw [sExt_1]; rfl, by subst h0; rw [sExt_1]⟩)
                exact h9
      · skip
        refine g_iload hC (gDec_at DX0_extremePlace_0 19 rfl) rfl ?_
        refine g_iload hC (gDec_at DX0_extremePlace_0 20 rfl) rfl ?_
        refine g_icmp_geN hC (by omega) (by omega) (gDec_at DX0_extremePlace_0 21 rfl) 131 (by decide) (fun h37_1 => ?_) (fun h37_1 => ?_)
        · skip
          obtain rfl : i = 12 := by omega
          refine g_iload hC (gDec_at DX0_extremePlace_1 2 rfl) rfl ?_
          refine g_iret hC (gDec_at DX0_extremePlace_1 3 rfl) ?_
          exact ⟨rfl, rfl⟩
        · skip
          refine g_aload hC (gDec_at DX0_extremePlace_0 22 rfl) rfl ?_
          refine g_iload hC (gDec_at DX0_extremePlace_0 23 rfl) rfl ?_
          refine g_aald (w := wC q) hC 11 3 i (a := q.2.2 (15 + i)) (show 11 < 63 from by decide) rfl rfl (by omega) (by decide) rfl (gDec_at DX0_extremePlace_0 24 rfl) ?_
          refine g_astore hC (gDec_at DX0_extremePlace_0 25 rfl) (by decide) (L' := [(13, .ref (q.2.2 (15 + i))), (0, .ref (q.2.2 9)), (1, .int (nI x)), (2, .int (nI g)), (3, .long (lN (sPull B x))), (5, .long (lN (sAll B))), (7, .int (nI (sTold (sExt B (sStr B (sPull B x) (sAll B)) g i)))), (8, .long (lN (sStr B (sPull B x) (sAll B) (sExt B (sStr B (sPull B x) (sAll B)) g i)))), (10, .ref (q.2.2 11)), (11, .int (nI 12)), (12, .int (nI i))]) rfl ?_
          refine g_aload_n hC (gDec_at DX0_extremePlace_0 26 rfl) rfl ?_
          refine g_aload hC (gDec_at DX0_extremePlace_0 27 rfl) rfl ?_
          refine g_callVd (w := wC q) hC 9 (c_X0_has q hI (by omega)) vf_X0_has ml_X0_42 (by decide) (show 9 < 63 from by decide) rfl rfl rfl rfl rfl (Nat.le_of_ble_eq_true rfl) (gDec_at DX0_extremePlace_0 28 rfl) ?_
          refine g_if_eqB hC (gDec_at DX0_extremePlace_0 29 rfl) 125 (by decide) (fun h53_1 => ?_) (fun h53_1 => ?_)
          · skip
            refine g_iincN hC (gDec_at DX0_extremePlace_1 0 rfl) rfl (by decide) (L' := [(12, .int (nI (i + 1))), (13, .ref (q.2.2 (15 + i))), (0, .ref (q.2.2 9)), (1, .int (nI x)), (2, .int (nI g)), (3, .long (lN (sPull B x))), (5, .long (lN (sAll B))), (7, .int (nI (sTold (sExt B (sStr B (sPull B x) (sAll B)) g i)))), (8, .long (lN (sStr B (sPull B x) (sAll B) (sExt B (sStr B (sPull B x) (sAll B)) g i)))), (10, .ref (q.2.2 11)), (11, .int (nI 12))]) rfl ?_
            refine g_goto hC (gDec_at DX0_extremePlace_1 1 rfl) 33 (by decide) ?_
            refine g_sub [2, 3, 4, 5, 6, 7, 8, 9, 10, 0] (L' := [(0, .ref (q.2.2 9)), (1, .int (nI x)), (2, .int (nI g)), (3, .long (lN (sPull B x))), (5, .long (lN (sAll B))), (7, .int (nI (sTold (sExt B (sStr B (sPull B x) (sAll B)) g i)))), (8, .long (lN (sStr B (sPull B x) (sAll B) (sExt B (sStr B (sPull B x) (sAll B)) g i)))), (10, .ref (q.2.2 11)), (11, .int (nI 12)), (12, .int (nI (i + 1)))]) rfl ?_
            have h9 := ih (i + 1) (nI (sTold (sExt B (sStr B (sPull B x) (sAll B)) g i))) (lN (sStr B (sPull B x) (sAll B) (sExt B (sStr B (sPull B x) (sAll B)) g i))) (by omega) (by omega) (Or.inr ⟨by omega, by rw [show (sExt B (sStr B (sPull B x) (sAll B)) g (i + 1)) = (sExt B (sStr B (sPull B x) (sAll B)) g i) from if_neg (fun z => h53_1 z.1)], by rw [show (sExt B (sStr B (sPull B x) (sAll B)) g (i + 1)) = (sExt B (sStr B (sPull B x) (sAll B)) g i) from if_neg (fun z => h53_1 z.1)]⟩)
            exact h9
          · skip
            have hse := hst (sExt B (sStr B (sPull B x) (sAll B)) g i)
            refine g_aload_n hC (gDec_at DX0_extremePlace_0 30 rfl) rfl ?_
            refine g_aload hC (gDec_at DX0_extremePlace_0 31 rfl) rfl ?_
            refine g_lload_n hC (gDec_at DX0_extremePlace_0 32 rfl) rfl ?_
            refine g_lload hC (gDec_at DX0_extremePlace_0 33 rfl) rfl ?_
            refine g_callVd (w := wC q) hC 9 (c_X0_strainOf q hI (by omega) (by omega) (pull := (sPull B x)) (gives := (sAll B)) (by omega) (by omega)) vf_X0_strainOf ml_X0_132 (by decide) (show 9 < 63 from by decide) rfl rfl rfl rfl rfl (Nat.le_of_ble_eq_true rfl) (gDec_at DX0_extremePlace_0 34 rfl) ?_
            refine g_lstore hC (gDec_at DX0_extremePlace_0 35 rfl) (by decide) (L' := [(14, .long (lN (sStr B (sPull B x) (sAll B) i))), (13, .ref (q.2.2 (15 + i))), (0, .ref (q.2.2 9)), (1, .int (nI x)), (2, .int (nI g)), (3, .long (lN (sPull B x))), (5, .long (lN (sAll B))), (7, .int (nI (sTold (sExt B (sStr B (sPull B x) (sAll B)) g i)))), (8, .long (lN (sStr B (sPull B x) (sAll B) (sExt B (sStr B (sPull B x) (sAll B)) g i)))), (10, .ref (q.2.2 11)), (11, .int (nI 12)), (12, .int (nI i))]) rfl ?_
            refine g_iload_n hC (gDec_at DX0_extremePlace_0 36 rfl) rfl ?_
            refine g_if_eqN hC (by omega) (gDec_at DX0_extremePlace_0 37 rfl) 87 (by decide) (fun h68_1 => ?_) (fun h68_1 => ?_)
            · skip
              refine g_lload hC (gDec_at DX0_extremePlace_0 46 rfl) rfl ?_
              refine g_lload hC (gDec_at DX0_extremePlace_0 47 rfl) rfl ?_
              refine g_lc_geN hC (by omega) (by omega) (gDec_at DX0_extremePlace_0 48 rfl) (gDec_at DX0_extremePlace_0 49 rfl) 99 (by decide) (fun h91_1 => ?_) (fun h91_1 => ?_)
              · skip
                refine g_iconst hC (gDec_at DX0_extremePlace_0 52 rfl) (v := nI 0) (by decide) ?_
                refine g_istore hC (gDec_at DX0_extremePlace_0 53 rfl) (by decide) (L' := [(16, .int (nI 0)), (14, .long (lN (sStr B (sPull B x) (sAll B) i))), (13, .ref (q.2.2 (15 + i))), (0, .ref (q.2.2 9)), (1, .int (nI x)), (2, .int (nI g)), (3, .long (lN (sPull B x))), (5, .long (lN (sAll B))), (7, .int (nI (sTold (sExt B (sStr B (sPull B x) (sAll B)) g i)))), (8, .long (lN (sStr B (sPull B x) (sAll B) (sExt B (sStr B (sPull B x) (sAll B)) g i)))), (10, .ref (q.2.2 11)), (11, .int (nI 12)), (12, .int (nI i))]) rfl ?_
                refine g_iload hC (gDec_at DX0_extremePlace_0 54 rfl) rfl ?_
                refine g_bipush hC (gDec_at DX0_extremePlace_0 55 rfl) (v := -9) (by decide) ?_
                refine g_icmp_eq hC (gDec_at DX0_extremePlace_0 56 rfl) 114 (by decide) (fun h => absurd h (nI_n9 (by have := (sExt_lt (B := B) (f := (sStr B (sPull B x) (sAll B))) (g := g) hm.1 i h0).1; unfold sTold; omega))) (fun h => ?_)
                refine g_iload hC (gDec_at DX0_extremePlace_0 57 rfl) rfl ?_
                refine g_if_eqN hC (by decide) (gDec_at DX0_extremePlace_0 58 rfl) 125 (by decide) (fun h => ?_) (fun h => absurd h (by decide))
                refine g_iincN hC (gDec_at DX0_extremePlace_1 0 rfl) rfl (by decide) (L' := [(12, .int (nI (i + 1))), (16, .int (nI 0)), (14, .long (lN (sStr B (sPull B x) (sAll B) i))), (13, .ref (q.2.2 (15 + i))), (0, .ref (q.2.2 9)), (1, .int (nI x)), (2, .int (nI g)), (3, .long (lN (sPull B x))), (5, .long (lN (sAll B))), (7, .int (nI (sTold (sExt B (sStr B (sPull B x) (sAll B)) g i)))), (8, .long (lN (sStr B (sPull B x) (sAll B) (sExt B (sStr B (sPull B x) (sAll B)) g i)))), (10, .ref (q.2.2 11)), (11, .int (nI 12))]) rfl ?_
                refine g_goto hC (gDec_at DX0_extremePlace_1 1 rfl) 33 (by decide) ?_
                refine g_sub [4, 5, 6, 7, 8, 9, 10, 11, 12, 0] (L' := [(0, .ref (q.2.2 9)), (1, .int (nI x)), (2, .int (nI g)), (3, .long (lN (sPull B x))), (5, .long (lN (sAll B))), (7, .int (nI (sTold (sExt B (sStr B (sPull B x) (sAll B)) g i)))), (8, .long (lN (sStr B (sPull B x) (sAll B) (sExt B (sStr B (sPull B x) (sAll B)) g i)))), (10, .ref (q.2.2 11)), (11, .int (nI 12)), (12, .int (nI (i + 1)))]) rfl ?_
                have h9 := ih (i + 1) (nI (sTold (sExt B (sStr B (sPull B x) (sAll B)) g i))) (lN (sStr B (sPull B x) (sAll B) (sExt B (sStr B (sPull B x) (sAll B)) g i))) (by omega) (by omega) (Or.inr ⟨by omega, by rw [show (sExt B (sStr B (sPull B x) (sAll B)) g (i + 1)) = (sExt B (sStr B (sPull B x) (sAll B)) g i) from if_neg (fun z => by have := z.2; omega)], by rw [show (sExt B (sStr B (sPull B x) (sAll B)) g (i + 1)) = (sExt B (sStr B (sPull B x) (sAll B)) g i) from if_neg (fun z => by have := z.2; omega)]⟩)
                exact h9
              · skip
                refine g_iconst hC (gDec_at DX0_extremePlace_0 50 rfl) (v := nI 1) (by decide) ?_
                refine g_goto hC (gDec_at DX0_extremePlace_0 51 rfl) 100 (by decide) ?_
                refine g_istore hC (gDec_at DX0_extremePlace_0 53 rfl) (by decide) (L' := [(16, .int (nI 1)), (14, .long (lN (sStr B (sPull B x) (sAll B) i))), (13, .ref (q.2.2 (15 + i))), (0, .ref (q.2.2 9)), (1, .int (nI x)), (2, .int (nI g)), (3, .long (lN (sPull B x))), (5, .long (lN (sAll B))), (7, .int (nI (sTold (sExt B (sStr B (sPull B x) (sAll B)) g i)))), (8, .long (lN (sStr B (sPull B x) (sAll B) (sExt B (sStr B (sPull B x) (sAll B)) g i)))), (10, .ref (q.2.2 11)), (11, .int (nI 12)), (12, .int (nI i))]) rfl ?_
                refine g_iload hC (gDec_at DX0_extremePlace_0 54 rfl) rfl ?_
                refine g_bipush hC (gDec_at DX0_extremePlace_0 55 rfl) (v := -9) (by decide) ?_
                refine g_icmp_eq hC (gDec_at DX0_extremePlace_0 56 rfl) 114 (by decide) (fun h => absurd h (nI_n9 (by have := (sExt_lt (B := B) (f := (sStr B (sPull B x) (sAll B))) (g := g) hm.1 i h0).1; unfold sTold; omega))) (fun h => ?_)
                refine g_iload hC (gDec_at DX0_extremePlace_0 57 rfl) rfl ?_
                refine g_if_eqN hC (by decide) (gDec_at DX0_extremePlace_0 58 rfl) 125 (by decide) (fun h => absurd h (by decide)) (fun h => ?_)
                refine g_aload hC (gDec_at DX0_extremePlace_0 59 rfl) rfl ?_
                refine g_get (w := wC q) hC (15 + i) (v := .int (nI (10 * (i / 6) + i % 6))) fl_X0_75 (show 15 + i < 63 from by have := (by omega); omega) (cC_p0 q _ _ (by omega)) (g_sv (ci_told hI (by omega))) (gDec_at DX0_extremePlace_0 60 rfl) ?_
                refine g_istore hC (gDec_at DX0_extremePlace_0 61 rfl) (by decide) (L' := [(7, .int (nI (10 * (i / 6) + i % 6))), (16, .int (nI 1)), (14, .long (lN (sStr B (sPull B x) (sAll B) i))), (13, .ref (q.2.2 (15 + i))), (0, .ref (q.2.2 9)), (1, .int (nI x)), (2, .int (nI g)), (3, .long (lN (sPull B x))), (5, .long (lN (sAll B))), (8, .long (lN (sStr B (sPull B x) (sAll B) (sExt B (sStr B (sPull B x) (sAll B)) g i)))), (10, .ref (q.2.2 11)), (11, .int (nI 12)), (12, .int (nI i))]) rfl ?_
                refine g_lload hC (gDec_at DX0_extremePlace_0 62 rfl) rfl ?_
                refine g_lstore hC (gDec_at DX0_extremePlace_0 63 rfl) (by decide) (L' := [(8, .long (lN (sStr B (sPull B x) (sAll B) i))), (7, .int (nI (10 * (i / 6) + i % 6))), (16, .int (nI 1)), (14, .long (lN (sStr B (sPull B x) (sAll B) i))), (13, .ref (q.2.2 (15 + i))), (0, .ref (q.2.2 9)), (1, .int (nI x)), (2, .int (nI g)), (3, .long (lN (sPull B x))), (5, .long (lN (sAll B))), (10, .ref (q.2.2 11)), (11, .int (nI 12)), (12, .int (nI i))]) rfl ?_
                refine g_iincN hC (gDec_at DX0_extremePlace_1 0 rfl) rfl (by decide) (L' := [(12, .int (nI (i + 1))), (8, .long (lN (sStr B (sPull B x) (sAll B) i))), (7, .int (nI (10 * (i / 6) + i % 6))), (16, .int (nI 1)), (14, .long (lN (sStr B (sPull B x) (sAll B) i))), (13, .ref (q.2.2 (15 + i))), (0, .ref (q.2.2 9)), (1, .int (nI x)), (2, .int (nI g)), (3, .long (lN (sPull B x))), (5, .long (lN (sAll B))), (10, .ref (q.2.2 11)), (11, .int (nI 12))]) rfl ?_
                refine g_goto hC (gDec_at DX0_extremePlace_1 1 rfl) 33 (by decide) ?_
                refine g_sub [6, 7, 8, 9, 10, 2, 1, 11, 12, 0] (L' := [(0, .ref (q.2.2 9)), (1, .int (nI x)), (2, .int (nI g)), (3, .long (lN (sPull B x))), (5, .long (lN (sAll B))), (7, .int (nI (10 * (i / 6) + i % 6))), (8, .long (lN (sStr B (sPull B x) (sAll B) i))), (10, .ref (q.2.2 11)), (11, .int (nI 12)), (12, .int (nI (i + 1)))]) rfl ?_
                have h9 := ih (i + 1) (nI (10 * (i / 6) + i % 6)) (lN (sStr B (sPull B x) (sAll B) i)) (by omega) (by omega) (Or.inr ⟨by omega, by rw [show (sExt B (sStr B (sPull B x) (sAll B)) g (i + 1)) = i from if_pos ⟨h53_1, by omega⟩]; rfl, by rw [show (sExt B (sStr B (sPull B x) (sAll B)) g (i + 1)) = i from if_pos ⟨h53_1, by omega⟩]⟩)
                exact h9
            · skip
              refine g_lload hC (gDec_at DX0_extremePlace_0 38 rfl) rfl ?_
              refine g_lload hC (gDec_at DX0_extremePlace_0 39 rfl) rfl ?_
              refine g_lc_leN hC (by omega) (by omega) (gDec_at DX0_extremePlace_0 40 rfl) (gDec_at DX0_extremePlace_0 41 rfl) 83 (by decide) (fun h75_1 => ?_) (fun h75_1 => ?_)
              · skip
                refine g_iconst hC (gDec_at DX0_extremePlace_0 44 rfl) (v := nI 0) (by decide) ?_
                refine g_goto hC (gDec_at DX0_extremePlace_0 45 rfl) 100 (by decide) ?_
                refine g_istore hC (gDec_at DX0_extremePlace_0 53 rfl) (by decide) (L' := [(16, .int (nI 0)), (14, .long (lN (sStr B (sPull B x) (sAll B) i))), (13, .ref (q.2.2 (15 + i))), (0, .ref (q.2.2 9)), (1, .int (nI x)), (2, .int (nI g)), (3, .long (lN (sPull B x))), (5, .long (lN (sAll B))), (7, .int (nI (sTold (sExt B (sStr B (sPull B x) (sAll B)) g i)))), (8, .long (lN (sStr B (sPull B x) (sAll B) (sExt B (sStr B (sPull B x) (sAll B)) g i)))), (10, .ref (q.2.2 11)), (11, .int (nI 12)), (12, .int (nI i))]) rfl ?_
                refine g_iload hC (gDec_at DX0_extremePlace_0 54 rfl) rfl ?_
                refine g_bipush hC (gDec_at DX0_extremePlace_0 55 rfl) (v := -9) (by decide) ?_
                refine g_icmp_eq hC (gDec_at DX0_extremePlace_0 56 rfl) 114 (by decide) (fun h => absurd h (nI_n9 (by have := (sExt_lt (B := B) (f := (sStr B (sPull B x) (sAll B))) (g := g) hm.1 i h0).1; unfold sTold; omega))) (fun h => ?_)
                refine g_iload hC (gDec_at DX0_extremePlace_0 57 rfl) rfl ?_
                refine g_if_eqN hC (by decide) (gDec_at DX0_extremePlace_0 58 rfl) 125 (by decide) (fun h => ?_) (fun h => absurd h (by decide))
                refine g_iincN hC (gDec_at DX0_extremePlace_1 0 rfl) rfl (by decide) (L' := [(12, .int (nI (i + 1))), (16, .int (nI 0)), (14, .long (lN (sStr B (sPull B x) (sAll B) i))), (13, .ref (q.2.2 (15 + i))), (0, .ref (q.2.2 9)), (1, .int (nI x)), (2, .int (nI g)), (3, .long (lN (sPull B x))), (5, .long (lN (sAll B))), (7, .int (nI (sTold (sExt B (sStr B (sPull B x) (sAll B)) g i)))), (8, .long (lN (sStr B (sPull B x) (sAll B) (sExt B (sStr B (sPull B x) (sAll B)) g i)))), (10, .ref (q.2.2 11)), (11, .int (nI 12))]) rfl ?_
                refine g_goto hC (gDec_at DX0_extremePlace_1 1 rfl) 33 (by decide) ?_
                refine g_sub [4, 5, 6, 7, 8, 9, 10, 11, 12, 0] (L' := [(0, .ref (q.2.2 9)), (1, .int (nI x)), (2, .int (nI g)), (3, .long (lN (sPull B x))), (5, .long (lN (sAll B))), (7, .int (nI (sTold (sExt B (sStr B (sPull B x) (sAll B)) g i)))), (8, .long (lN (sStr B (sPull B x) (sAll B) (sExt B (sStr B (sPull B x) (sAll B)) g i)))), (10, .ref (q.2.2 11)), (11, .int (nI 12)), (12, .int (nI (i + 1)))]) rfl ?_
                have h9 := ih (i + 1) (nI (sTold (sExt B (sStr B (sPull B x) (sAll B)) g i))) (lN (sStr B (sPull B x) (sAll B) (sExt B (sStr B (sPull B x) (sAll B)) g i))) (by omega) (by omega) (Or.inr ⟨by omega, by rw [show (sExt B (sStr B (sPull B x) (sAll B)) g (i + 1)) = (sExt B (sStr B (sPull B x) (sAll B)) g i) from if_neg (fun z => by have := z.2; omega)], by rw [show (sExt B (sStr B (sPull B x) (sAll B)) g (i + 1)) = (sExt B (sStr B (sPull B x) (sAll B)) g i) from if_neg (fun z => by have := z.2; omega)]⟩)
                exact h9
              · skip
                refine g_iconst hC (gDec_at DX0_extremePlace_0 42 rfl) (v := nI 1) (by decide) ?_
                refine g_goto hC (gDec_at DX0_extremePlace_0 43 rfl) 100 (by decide) ?_
                refine g_istore hC (gDec_at DX0_extremePlace_0 53 rfl) (by decide) (L' := [(16, .int (nI 1)), (14, .long (lN (sStr B (sPull B x) (sAll B) i))), (13, .ref (q.2.2 (15 + i))), (0, .ref (q.2.2 9)), (1, .int (nI x)), (2, .int (nI g)), (3, .long (lN (sPull B x))), (5, .long (lN (sAll B))), (7, .int (nI (sTold (sExt B (sStr B (sPull B x) (sAll B)) g i)))), (8, .long (lN (sStr B (sPull B x) (sAll B) (sExt B (sStr B (sPull B x) (sAll B)) g i)))), (10, .ref (q.2.2 11)), (11, .int (nI 12)), (12, .int (nI i))]) rfl ?_
                refine g_iload hC (gDec_at DX0_extremePlace_0 54 rfl) rfl ?_
                refine g_bipush hC (gDec_at DX0_extremePlace_0 55 rfl) (v := -9) (by decide) ?_
                refine g_icmp_eq hC (gDec_at DX0_extremePlace_0 56 rfl) 114 (by decide) (fun h => absurd h (nI_n9 (by have := (sExt_lt (B := B) (f := (sStr B (sPull B x) (sAll B))) (g := g) hm.1 i h0).1; unfold sTold; omega))) (fun h => ?_)
                refine g_iload hC (gDec_at DX0_extremePlace_0 57 rfl) rfl ?_
                refine g_if_eqN hC (by decide) (gDec_at DX0_extremePlace_0 58 rfl) 125 (by decide) (fun h => absurd h (by decide)) (fun h => ?_)
                refine g_aload hC (gDec_at DX0_extremePlace_0 59 rfl) rfl ?_
                refine g_get (w := wC q) hC (15 + i) (v := .int (nI (10 * (i / 6) + i % 6))) fl_X0_75 (show 15 + i < 63 from by have := (by omega); omega) (cC_p0 q _ _ (by omega)) (g_sv (ci_told hI (by omega))) (gDec_at DX0_extremePlace_0 60 rfl) ?_
                refine g_istore hC (gDec_at DX0_extremePlace_0 61 rfl) (by decide) (L' := [(7, .int (nI (10 * (i / 6) + i % 6))), (16, .int (nI 1)), (14, .long (lN (sStr B (sPull B x) (sAll B) i))), (13, .ref (q.2.2 (15 + i))), (0, .ref (q.2.2 9)), (1, .int (nI x)), (2, .int (nI g)), (3, .long (lN (sPull B x))), (5, .long (lN (sAll B))), (8, .long (lN (sStr B (sPull B x) (sAll B) (sExt B (sStr B (sPull B x) (sAll B)) g i)))), (10, .ref (q.2.2 11)), (11, .int (nI 12)), (12, .int (nI i))]) rfl ?_
                refine g_lload hC (gDec_at DX0_extremePlace_0 62 rfl) rfl ?_
                refine g_lstore hC (gDec_at DX0_extremePlace_0 63 rfl) (by decide) (L' := [(8, .long (lN (sStr B (sPull B x) (sAll B) i))), (7, .int (nI (10 * (i / 6) + i % 6))), (16, .int (nI 1)), (14, .long (lN (sStr B (sPull B x) (sAll B) i))), (13, .ref (q.2.2 (15 + i))), (0, .ref (q.2.2 9)), (1, .int (nI x)), (2, .int (nI g)), (3, .long (lN (sPull B x))), (5, .long (lN (sAll B))), (10, .ref (q.2.2 11)), (11, .int (nI 12)), (12, .int (nI i))]) rfl ?_
                refine g_iincN hC (gDec_at DX0_extremePlace_1 0 rfl) rfl (by decide) (L' := [(12, .int (nI (i + 1))), (8, .long (lN (sStr B (sPull B x) (sAll B) i))), (7, .int (nI (10 * (i / 6) + i % 6))), (16, .int (nI 1)), (14, .long (lN (sStr B (sPull B x) (sAll B) i))), (13, .ref (q.2.2 (15 + i))), (0, .ref (q.2.2 9)), (1, .int (nI x)), (2, .int (nI g)), (3, .long (lN (sPull B x))), (5, .long (lN (sAll B))), (10, .ref (q.2.2 11)), (11, .int (nI 12))]) rfl ?_
                refine g_goto hC (gDec_at DX0_extremePlace_1 1 rfl) 33 (by decide) ?_
                refine g_sub [6, 7, 8, 9, 10, 2, 1, 11, 12, 0] (L' := [(0, .ref (q.2.2 9)), (1, .int (nI x)), (2, .int (nI g)), (3, .long (lN (sPull B x))), (5, .long (lN (sAll B))), (7, .int (nI (10 * (i / 6) + i % 6))), (8, .long (lN (sStr B (sPull B x) (sAll B) i))), (10, .ref (q.2.2 11)), (11, .int (nI 12)), (12, .int (nI (i + 1)))]) rfl ?_
                have h9 := ih (i + 1) (nI (10 * (i / 6) + i % 6)) (lN (sStr B (sPull B x) (sAll B) i)) (by omega) (by omega) (Or.inr ⟨by omega, by rw [show (sExt B (sStr B (sPull B x) (sAll B)) g (i + 1)) = i from if_pos ⟨h53_1, by omega⟩]; rfl, by rw [show (sExt B (sStr B (sPull B x) (sAll B)) g (i + 1)) = i from if_pos ⟨h53_1, by omega⟩]⟩)
                exact h9
  exact g_sub [7, 8, 9, 6, 5, 4, 3, 2, 1, 0] rfl (loop33 (12 + 1 - 0) 0 (-9) (lN 0) (by omega) (by omega) (Or.inl ⟨rfl, rfl, rfl⟩))
