/-! BOW: what changes it; extremes, the break, sets, off -/
theorem gupd_get (M : gM) (i k : Nat) (x : Int32) (i' k' : Nat) : (gupd M i k x).1 i' k' = if i' = i ∧ k' = k then x else M.1 i' k' := by
  unfold gupd upd
  by_cases h : i' = i
  · subst h
    by_cases h2 : k' = k <;> simp [h2]
  · simp [h]
def upB (B : gB) (f j v : Nat) : gB := fun f' j' => if f' = f ∧ j' = j then v else B f' j'
/-- M' is M but for cells that P names -/
def sameO (P : Nat → Prop) (M M' : gM) : Prop := ∀ i, ¬ P i → M'.1 i = M.1 i
theorem sameO_rf {P : Nat → Prop} {M : gM} : sameO P M M := fun _ _ => rfl
theorem sameO_up {P : Nat → Prop} {M M' : gM} (h : sameO P M M') {i k : Nat} {x : Int32} (hi : P i) : sameO P M (gupd M' i k x) := by
  intro c hc
  rw [← h c hc]
  have : c ≠ i := fun e => hc (e ▸ hi)
  simp [gupd, this]
def fldOf (f k : Nat) : Prop := (f = 0 ∧ k = 3) ∨ (f = 1 ∧ k = 4) ∨ (f = 2 ∧ k = 5) ∨ (f = 3 ∧ k = 6) ∨ (f = 4 ∧ k = 8) ∨ (f = 5 ∧ k = 7)
theorem bK_up {M : gM} (h : bK M) {i k : Nat} {x : Int32} (hk : 3 ≤ k ∨ i < 15) (hx : k = 8 → x = 0 ∨ x = 1) : bK (gupd M i k x) := by
  intro b hb j hj
  obtain ⟨h1, h2, h3, h4⟩ := h b hb j hj
  refine ⟨?_, ?_, ?_, ?_⟩
  · rw [gupd_get, if_neg (by omega)]; assumption
  · rw [gupd_get, if_neg (by omega)]; assumption
  · rw [gupd_get, if_neg (by omega)]; assumption
  · rw [gupd_get]
    split
    · rename_i q; exact hx q.2.symm
    · exact h4
theorem cI_set {M : gM} {B : gB} (h : cI M B) {f k j v : Nat} (hf : fldOf f k) (hV : bV (upB B f j v)) (h8 : k = 8 → v ≤ 1 := by omega) : cI (gupd M (15 + j) k (nI v)) (upB B f j v) := by
  obtain ⟨hK, ⟨h1, h2, h3, h4⟩, -⟩ := h
  have hf9 : f ≠ 9 ∧ f ≠ 6 ∧ f ≠ 7 ∧ f ≠ 8 ∧ 3 ≤ k := by rcases hf with q | q | q | q | q | q <;> omega
  refine ⟨bK_up hK (by omega) (fun q => by rcases (show v = 0 ∨ v = 1 by have := h8 q; omega) with rfl | rfl; exact Or.inl rfl; exact Or.inr rfl), ⟨?_, ?_, fun w hw => ?_, fun j' hj' ht' => ?_⟩, hV⟩
  · rw [gupd_get, if_neg (by omega), h1]; unfold upB; rw [if_neg (by omega)]
  · rw [gupd_get, if_neg (by omega), h2]; unfold upB; rw [if_neg (by omega)]
  · obtain ⟨a, b, c⟩ := h3 w hw
    refine ⟨?_, ?_, ?_⟩ <;> rw [gupd_get, if_neg (by omega)] <;> unfold upB <;> rw [if_neg (by omega)] <;> assumption
  · have ht : j' % 6 < B 9 0 := by
      have e : upB B f j v 9 0 = B 9 0 := by unfold upB; rw [if_neg (by omega)]
      rw [e] at ht'; exact ht'
    obtain ⟨a0, a1, a2, a3, a4, a5⟩ := h4 j' hj' ht
    unfold upB
    rcases hf with ⟨rfl, rfl⟩ | ⟨rfl, rfl⟩ | ⟨rfl, rfl⟩ | ⟨rfl, rfl⟩ | ⟨rfl, rfl⟩ | ⟨rfl, rfl⟩ <;>
    · by_cases e : j' = j
      · subst e
        simp [gupd_get, a0, a1, a2, a3, a4, a5] at *
        try simp [a0, a1, a2, a3, a4, a5]
      · have e2 : ¬ (15 + 18 * 0 + j' = 15 + j) := by omega
        simp [gupd_get, e, e2] at *
        try simp [a0, a1, a2, a3, a4, a5]
theorem nI_n9 {n : Nat} (h : n < 2147483648) : ¬ nI n = -9 := fun q => by
  have h1 := nI_toInt h
  rw [q] at h1
  have h2 : (-9 : Int32).toInt = -9 := by decide
  omega
def sTold (j : Nat) : Nat := 10 * (j / 6) + j % 6
/-- the first place with the greatest (g = 1), the least (g = 0) f -/
def sExt (B : gB) (f : Nat → Nat) (g : Nat) : Nat → Nat
  | 0 => 0
  | n + 1 => if n % 6 < B 9 0 ∧ ((0 < g ∧ f (sExt B f g n) < f n) ∨ (g = 0 ∧ f n < f (sExt B f g n))) then n else sExt B f g n
theorem sExt_1 (B : gB) (f : Nat → Nat) (g : Nat) : sExt B f g 1 = 0 := by
  unfold sExt
  split <;> rfl
theorem sExt_lt {B : gB} {f : Nat → Nat} {g : Nat} (hm : 1 ≤ B 9 0) : ∀ n, 0 < n → sExt B f g n < n ∧ sExt B f g n % 6 < B 9 0
  | 0, h => absurd h (Nat.lt_irrefl 0)
  | 1, _ => by rw [sExt_1]; omega
  | n + 2, _ => by
    have ih := sExt_lt (B := B) (f := f) (g := g) hm (n + 1) (by omega)
    rw [sExt]
    split
    · rename_i hc; exact ⟨by omega, hc.1⟩
    · omega
set_option maxRecDepth 100000 in
set_option maxHeartbeats 4000000 in
theorem c_X0_extremePlace (q : gQ3) {M : gM} {B : gB} (hI : cI M B) {x g : Nat} (hx : x ≤ 40) (hg : g ≤ 1) : gCt (wC q) yX0_extremePlace cX0_extremePlace 17 (some .int) 5 [.ref (q.2.2 9), .int (nI x), .int (nI g)] M (gR (some (.int (nI (sTold (sExt B (sStr B (sPull B x) (sAll B)) g 12))))) M) := by
  refine gMet RX0 (by decide +kernel) rfl (Nat.le_of_ble_eq_true rfl) (fun X hC => ?_)
  have hC : gC X (wC q) cX0_extremePlace 17 RX0 (some .int) 5 := hC
  show gG X (wC q) _ 17 M 0 [(0, .ref (q.2.2 9)), (1, .int (nI x)), (2, .int (nI g))] []
  have hm := bv_many hI.2.2
  have hpl := sPull_le B hx
  have hal := sAll_le B
  have hst := fun j => sStr_le B j (gives := sAll B) hpl
  refine g_aload_n hC (gDec_at DX0_extremePlace_0 0 rfl) rfl ?_
  refine g_iload_n hC (gDec_at DX0_extremePlace_0 1 rfl) rfl ?_
  refine g_callVd (w := wC q) hC 9 (c_X0_pullAt q hI (x := x) (by omega)) vf_X0_pullAt ml_X0_154 (by decide) (show 9 < 63 from by decide) rfl rfl rfl rfl rfl (Nat.le_of_ble_eq_true rfl) (gDec_at DX0_extremePlace_0 2 rfl) ?_
  refine g_lstore_n hC (gDec_at DX0_extremePlace_0 3 rfl) (by decide) (L' := [(3, .long (lN (sPull B x))), (0, .ref (q.2.2 9)), (1, .int (nI x)), (2, .int (nI g))]) rfl ?_
  refine g_aload_n hC (gDec_at DX0_extremePlace_0 4 rfl) rfl ?_
  refine g_callVd (w := wC q) hC 9 (c_X0_allGives q hI) vf_X0_allGives ml_X0_157 (by decide) (show 9 < 63 from by decide) rfl rfl rfl rfl rfl (Nat.le_of_ble_eq_true rfl) (gDec_at DX0_extremePlace_0 5 rfl) ?_
  refine g_lstore hC (gDec_at DX0_extremePlace_0 6 rfl) (by decide) (L' := [(5, .long (lN (sAll B))), (3, .long (lN (sPull B x))), (0, .ref (q.2.2 9)), (1, .int (nI x)), (2, .int (nI g))]) rfl ?_
  refine g_bipush hC (gDec_at DX0_extremePlace_0 7 rfl) (v := -9) (by decide) ?_
  refine g_istore hC (gDec_at DX0_extremePlace_0 8 rfl) (by decide) (L' := [(7, .int (-9)), (5, .long (lN (sAll B))), (3, .long (lN (sPull B x))), (0, .ref (q.2.2 9)), (1, .int (nI x)), (2, .int (nI g))]) rfl ?_
  refine g_lconst hC (gDec_at DX0_extremePlace_0 9 rfl) (v := lN 0) (by decide) ?_
  refine g_lstore hC (gDec_at DX0_extremePlace_0 10 rfl) (by decide) (L' := [(8, .long (lN 0)), (7, .int (-9)), (5, .long (lN (sAll B))), (3, .long (lN (sPull B x))), (0, .ref (q.2.2 9)), (1, .int (nI x)), (2, .int (nI g))]) rfl ?_
  refine g_aload_n hC (gDec_at DX0_extremePlace_0 11 rfl) rfl ?_
  refine g_get (w := wC q) hC 9 (v := .ref (q.2.2 11)) fl_X0_22 (show 9 < 63 from by decide) rfl rfl (gDec_at DX0_extremePlace_0 12 rfl) ?_
  refine g_astore hC (gDec_at DX0_extremePlace_0 13 rfl) (by decide) (L' := [(10, .ref (q.2.2 11)), (8, .long (lN 0)), (7, .int (-9)), (5, .long (lN (sAll B))), (3, .long (lN (sPull B x))), (0, .ref (q.2.2 9)), (1, .int (nI x)), (2, .int (nI g))]) rfl ?_
  refine g_aload hC (gDec_at DX0_extremePlace_0 14 rfl) rfl ?_
  refine g_alen (w := wC q) hC 11 3 (show 11 < 63 from by decide) rfl rfl (gDec_at DX0_extremePlace_0 15 rfl) ?_
  refine g_istore hC (gDec_at DX0_extremePlace_0 16 rfl) (by decide) (L' := [(11, .int (nI 12)), (10, .ref (q.2.2 11)), (8, .long (lN 0)), (7, .int (-9)), (5, .long (lN (sAll B))), (3, .long (lN (sPull B x))), (0, .ref (q.2.2 9)), (1, .int (nI x)), (2, .int (nI g))]) rfl ?_
  refine g_iconst hC (gDec_at DX0_extremePlace_0 17 rfl) (v := nI 0) (by decide) ?_
  refine g_istore hC (gDec_at DX0_extremePlace_0 18 rfl) (by decide) (L' := [(12, .int (nI 0)), (11, .int (nI 12)), (10, .ref (q.2.2 11)), (8, .long (lN 0)), (7, .int (-9)), (5, .long (lN (sAll B))), (3, .long (lN (sPull B x))), (0, .ref (q.2.2 9)), (1, .int (nI x)), (2, .int (nI g))]) rfl ?_
  have loop33 : ∀ (fu i : Nat) (fnd : Int32) (fs : Int64), i ≤ 12 → 12 - i < fu → (i = 0 ∧ fnd = -9 ∧ fs = lN 0 ∨ 0 < i ∧ fnd = nI (sTold (sExt B (sStr B (sPull B x) (sAll B)) g i)) ∧ fs = lN ((sStr B (sPull B x) (sAll B)) (sExt B (sStr B (sPull B x) (sAll B)) g i))) → gG X (wC q) (gR (some (.int (nI (sTold (sExt B (sStr B (sPull B x) (sAll B)) g 12))))) M) 17 M 33 [(0, .ref (q.2.2 9)), (1, .int (nI x)), (2, .int (nI g)), (3, .long (lN (sPull B x))), (5, .long (lN (sAll B))), (7, .int fnd), (8, .long fs), (10, .ref (q.2.2 11)), (11, .int (nI 12)), (12, .int (nI i))] [] := by
    intro fu; induction fu with
    | zero => intro i fnd fs h1 h2; omega
    | succ fu ih =>
      intro i fnd fs hi hfu hf
      have hsi := hst i
      rcases hf with ⟨h0, rfl, rfl⟩ | ⟨h0, rfl, rfl⟩
      · skip
        refine g_iload hC (gDec_at DX0_extremePlace_0 19 rfl) rfl ?_
        refine g_iload hC (gDec_at DX0_extremePlace_0 20 rfl) rfl ?_
        refine g_icmp_geN hC (by omega) (by omega) (gDec_at DX0_extremePlace_0 21 rfl) 131 (by decide) (fun h37 => ?_) (fun h37 => ?_)
        · skip
          omega
        · skip
          refine g_aload hC (gDec_at DX0_extremePlace_0 22 rfl) rfl ?_
          refine g_iload hC (gDec_at DX0_extremePlace_0 23 rfl) rfl ?_
          refine g_aald (w := wC q) hC 11 3 i (a := q.2.2 (15 + i)) (show 11 < 63 from by decide) rfl rfl (by omega) (by decide) rfl (gDec_at DX0_extremePlace_0 24 rfl) ?_
          refine g_astore hC (gDec_at DX0_extremePlace_0 25 rfl) (by decide) (L' := [(13, .ref (q.2.2 (15 + i))), (0, .ref (q.2.2 9)), (1, .int (nI x)), (2, .int (nI g)), (3, .long (lN (sPull B x))), (5, .long (lN (sAll B))), (7, .int (-9)), (8, .long (lN 0)), (10, .ref (q.2.2 11)), (11, .int (nI 12)), (12, .int (nI i))]) rfl ?_
          refine g_aload_n hC (gDec_at DX0_extremePlace_0 26 rfl) rfl ?_
          refine g_aload hC (gDec_at DX0_extremePlace_0 27 rfl) rfl ?_
          refine g_callVd (w := wC q) hC 9 (c_X0_has q hI (by omega)) vf_X0_has ml_X0_42 (by decide) (show 9 < 63 from by decide) rfl rfl rfl rfl rfl (Nat.le_of_ble_eq_true rfl) (gDec_at DX0_extremePlace_0 28 rfl) ?_
          refine g_if_eqB hC (gDec_at DX0_extremePlace_0 29 rfl) 125 (by decide) (fun h53 => ?_) (fun h53 => ?_)
          · skip
            exact absurd h53 (by subst h0; omega)
          · skip
            refine g_aload_n hC (gDec_at DX0_extremePlace_0 30 rfl) rfl ?_
            refine g_aload hC (gDec_at DX0_extremePlace_0 31 rfl) rfl ?_
            refine g_lload_n hC (gDec_at DX0_extremePlace_0 32 rfl) rfl ?_
            refine g_lload hC (gDec_at DX0_extremePlace_0 33 rfl) rfl ?_
            refine g_callVd (w := wC q) hC 9 (c_X0_strainOf q hI (by omega) (by omega) (pull := (sPull B x)) (gives := (sAll B)) (by omega) (by omega)) vf_X0_strainOf ml_X0_132 (by decide) (show 9 < 63 from by decide) rfl rfl rfl rfl rfl (Nat.le_of_ble_eq_true rfl) (gDec_at DX0_extremePlace_0 34 rfl) ?_
            refine g_lstore hC (gDec_at DX0_extremePlace_0 35 rfl) (by decide) (L' := [(14, .long (lN (sStr B (sPull B x) (sAll B) i))), (13, .ref (q.2.2 (15 + i))), (0, .ref (q.2.2 9)), (1, .int (nI x)), (2, .int (nI g)), (3, .long (lN (sPull B x))), (5, .long (lN (sAll B))), (7, .int (-9)), (8, .long (lN 0)), (10, .ref (q.2.2 11)), (11, .int (nI 12)), (12, .int (nI i))]) rfl ?_
            refine g_iload_n hC (gDec_at DX0_extremePlace_0 36 rfl) rfl ?_
            refine g_if_eqN hC (by omega) (gDec_at DX0_extremePlace_0 37 rfl) 87 (by decide) (fun h68 => ?_) (fun h68 => ?_)
            · skip
              refine g_lload hC (gDec_at DX0_extremePlace_0 46 rfl) rfl ?_
              refine g_lload hC (gDec_at DX0_extremePlace_0 47 rfl) rfl ?_
              refine g_lc_geN hC (by omega) (by omega) (gDec_at DX0_extremePlace_0 48 rfl) (gDec_at DX0_extremePlace_0 49 rfl) 99 (by decide) (fun h91 => ?_) (fun h91 => ?_)
              · skip
                refine g_iconst hC (gDec_at DX0_extremePlace_0 52 rfl) (v := nI 0) (by decide) ?_
                refine g_istore hC (gDec_at DX0_extremePlace_0 53 rfl) (by decide) (L' := [(16, .int (nI 0)), (14, .long (lN (sStr B (sPull B x) (sAll B) i))), (13, .ref (q.2.2 (15 + i))), (0, .ref (q.2.2 9)), (1, .int (nI x)), (2, .int (nI g)), (3, .long (lN (sPull B x))), (5, .long (lN (sAll B))), (7, .int (-9)), (8, .long (lN 0)), (10, .ref (q.2.2 11)), (11, .int (nI 12)), (12, .int (nI i))]) rfl ?_
                refine g_iload hC (gDec_at DX0_extremePlace_0 54 rfl) rfl ?_
                refine g_bipush hC (gDec_at DX0_extremePlace_0 55 rfl) (v := -9) (by decide) ?_
                refine g_icmp_eq hC (gDec_at DX0_extremePlace_0 56 rfl) 114 (by decide) (fun h => ?_) (fun h => absurd rfl h)
                refine g_aload hC (gDec_at DX0_extremePlace_0 59 rfl) rfl ?_
                refine g_get (w := wC q) hC (15 + i) (v := .int (nI (10 * (i / 6) + i % 6))) fl_X0_75 (show 15 + i < 63 from by have := (by omega); omega) (cC_p0 q _ _ (by omega)) (g_sv (ci_told hI (by omega))) (gDec_at DX0_extremePlace_0 60 rfl) ?_
                refine g_istore hC (gDec_at DX0_extremePlace_0 61 rfl) (by decide) (L' := [(7, .int (nI (10 * (i / 6) + i % 6))), (16, .int (nI 0)), (14, .long (lN (sStr B (sPull B x) (sAll B) i))), (13, .ref (q.2.2 (15 + i))), (0, .ref (q.2.2 9)), (1, .int (nI x)), (2, .int (nI g)), (3, .long (lN (sPull B x))), (5, .long (lN (sAll B))), (8, .long (lN 0)), (10, .ref (q.2.2 11)), (11, .int (nI 12)), (12, .int (nI i))]) rfl ?_
                refine g_lload hC (gDec_at DX0_extremePlace_0 62 rfl) rfl ?_
                refine g_lstore hC (gDec_at DX0_extremePlace_0 63 rfl) (by decide) (L' := [(8, .long (lN (sStr B (sPull B x) (sAll B) i))), (7, .int (nI (10 * (i / 6) + i % 6))), (16, .int (nI 0)), (14, .long (lN (sStr B (sPull B x) (sAll B) i))), (13, .ref (q.2.2 (15 + i))), (0, .ref (q.2.2 9)), (1, .int (nI x)), (2, .int (nI g)), (3, .long (lN (sPull B x))), (5, .long (lN (sAll B))), (10, .ref (q.2.2 11)), (11, .int (nI 12)), (12, .int (nI i))]) rfl ?_
                refine g_iincN hC (gDec_at DX0_extremePlace_1 0 rfl) rfl (by decide) (L' := [(12, .int (nI (i + 1))), (8, .long (lN (sStr B (sPull B x) (sAll B) i))), (7, .int (nI (10 * (i / 6) + i % 6))), (16, .int (nI 0)), (14, .long (lN (sStr B (sPull B x) (sAll B) i))), (13, .ref (q.2.2 (15 + i))), (0, .ref (q.2.2 9)), (1, .int (nI x)), (2, .int (nI g)), (3, .long (lN (sPull B x))), (5, .long (lN (sAll B))), (10, .ref (q.2.2 11)), (11, .int (nI 12))]) rfl ?_
                refine g_goto hC (gDec_at DX0_extremePlace_1 1 rfl) 33 (by decide) ?_
                refine g_sub [6, 7, 8, 9, 10, 2, 1, 11, 12, 0] (L' := [(0, .ref (q.2.2 9)), (1, .int (nI x)), (2, .int (nI g)), (3, .long (lN (sPull B x))), (5, .long (lN (sAll B))), (7, .int (nI (10 * (i / 6) + i % 6))), (8, .long (lN (sStr B (sPull B x) (sAll B) i))), (10, .ref (q.2.2 11)), (11, .int (nI 12)), (12, .int (nI (i + 1)))]) rfl ?_
                have h9 := ih (i + 1) (nI (10 * (i / 6) + i % 6)) (lN (sStr B (sPull B x) (sAll B) i)) (by omega) (by omega) (Or.inr ⟨by omega, by subst h0; rw [sExt_1]; rfl, by subst h0; rw [sExt_1]⟩)
                exact h9
              · skip
                refine g_iconst hC (gDec_at DX0_extremePlace_0 50 rfl) (v := nI 1) (by decide) ?_
                refine g_goto hC (gDec_at DX0_extremePlace_0 51 rfl) 100 (by decide) ?_
                refine g_istore hC (gDec_at DX0_extremePlace_0 53 rfl) (by decide) (L' := [(16, .int (nI 1)), (14, .long (lN (sStr B (sPull B x) (sAll B) i))), (13, .ref (q.2.2 (15 + i))), (0, .ref (q.2.2 9)), (1, .int (nI x)), (2, .int (nI g)), (3, .long (lN (sPull B x))), (5, .long (lN (sAll B))), (7, .int (-9)), (8, .long (lN 0)), (10, .ref (q.2.2 11)), (11, .int (nI 12)), (12, .int (nI i))]) rfl ?_
                refine g_iload hC (gDec_at DX0_extremePlace_0 54 rfl) rfl ?_
                refine g_bipush hC (gDec_at DX0_extremePlace_0 55 rfl) (v := -9) (by decide) ?_
                refine g_icmp_eq hC (gDec_at DX0_extremePlace_0 56 rfl) 114 (by decide) (fun h => ?_) (fun h => absurd rfl h)
                refine g_aload hC (gDec_at DX0_extremePlace_0 59 rfl) rfl ?_
                refine g_get (w := wC q) hC (15 + i) (v := .int (nI (10 * (i / 6) + i % 6))) fl_X0_75 (show 15 + i < 63 from by have := (by omega); omega) (cC_p0 q _ _ (by omega)) (g_sv (ci_told hI (by omega))) (gDec_at DX0_extremePlace_0 60 rfl) ?_
                refine g_istore hC (gDec_at DX0_extremePlace_0 61 rfl) (by decide) (L' := [(7, .int (nI (10 * (i / 6) + i % 6))), (16, .int (nI 1)), (14, .long (lN (sStr B (sPull B x) (sAll B) i))), (13, .ref (q.2.2 (15 + i))), (0, .ref (q.2.2 9)), (1, .int (nI x)), (2, .int (nI g)), (3, .long (lN (sPull B x))), (5, .long (lN (sAll B))), (8, .long (lN 0)), (10, .ref (q.2.2 11)), (11, .int (nI 12)), (12, .int (nI i))]) rfl ?_
                refine g_lload hC (gDec_at DX0_extremePlace_0 62 rfl) rfl ?_
                refine g_lstore hC (gDec_at DX0_extremePlace_0 63 rfl) (by decide) (L' := [(8, .long (lN (sStr B (sPull B x) (sAll B) i))), (7, .int (nI (10 * (i / 6) + i % 6))), (16, .int (nI 1)), (14, .long (lN (sStr B (sPull B x) (sAll B) i))), (13, .ref (q.2.2 (15 + i))), (0, .ref (q.2.2 9)), (1, .int (nI x)), (2, .int (nI g)), (3, .long (lN (sPull B x))), (5, .long (lN (sAll B))), (10, .ref (q.2.2 11)), (11, .int (nI 12)), (12, .int (nI i))]) rfl ?_
                refine g_iincN hC (gDec_at DX0_extremePlace_1 0 rfl) rfl (by decide) (L' := [(12, .int (nI (i + 1))), (8, .long (lN (sStr B (sPull B x) (sAll B) i))), (7, .int (nI (10 * (i / 6) + i % 6))), (16, .int (nI 1)), (14, .long (lN (sStr B (sPull B x) (sAll B) i))), (13, .ref (q.2.2 (15 + i))), (0, .ref (q.2.2 9)), (1, .int (nI x)), (2, .int (nI g)), (3, .long (lN (sPull B x))), (5, .long (lN (sAll B))), (10, .ref (q.2.2 11)), (11, .int (nI 12))]) rfl ?_
                refine g_goto hC (gDec_at DX0_extremePlace_1 1 rfl) 33 (by decide) ?_
                refine g_sub [6, 7, 8, 9, 10, 2, 1, 11, 12, 0] (L' := [(0, .ref (q.2.2 9)), (1, .int (nI x)), (2, .int (nI g)), (3, .long (lN (sPull B x))), (5, .long (lN (sAll B))), (7, .int (nI (10 * (i / 6) + i % 6))), (8, .long (lN (sStr B (sPull B x) (sAll B) i))), (10, .ref (q.2.2 11)), (11, .int (nI 12)), (12, .int (nI (i + 1)))]) rfl ?_
                have h9 := ih (i + 1) (nI (10 * (i / 6) + i % 6)) (lN (sStr B (sPull B x) (sAll B) i)) (by omega) (by omega) (Or.inr ⟨by omega, by subst h0; rw [sExt_1]; rfl, by subst h0; rw [sExt_1]⟩)
                exact h9
            · skip
              refine g_lload hC (gDec_at DX0_extremePlace_0 38 rfl) rfl ?_
              refine g_lload hC (gDec_at DX0_extremePlace_0 39 rfl) rfl ?_
              refine g_lc_leN hC (by omega) (by omega) (gDec_at DX0_extremePlace_0 40 rfl) (gDec_at DX0_extremePlace_0 41 rfl) 83 (by decide) (fun h75 => ?_) (fun h75 => ?_)
              · skip
                refine g_iconst hC (gDec_at DX0_extremePlace_0 44 rfl) (v := nI 0) (by decide) ?_
                refine g_goto hC (gDec_at DX0_extremePlace_0 45 rfl) 100 (by decide) ?_
                refine g_istore hC (gDec_at DX0_extremePlace_0 53 rfl) (by decide) (L' := [(16, .int (nI 0)), (14, .long (lN (sStr B (sPull B x) (sAll B) i))), (13, .ref (q.2.2 (15 + i))), (0, .ref (q.2.2 9)), (1, .int (nI x)), (2, .int (nI g)), (3, .long (lN (sPull B x))), (5, .long (lN (sAll B))), (7, .int (-9)), (8, .long (lN 0)), (10, .ref (q.2.2 11)), (11, .int (nI 12)), (12, .int (nI i))]) rfl ?_
                refine g_iload hC (gDec_at DX0_extremePlace_0 54 rfl) rfl ?_
                refine g_bipush hC (gDec_at DX0_extremePlace_0 55 rfl) (v := -9) (by decide) ?_
                refine g_icmp_eq hC (gDec_at DX0_extremePlace_0 56 rfl) 114 (by decide) (fun h => ?_) (fun h => absurd rfl h)
                refine g_aload hC (gDec_at DX0_extremePlace_0 59 rfl) rfl ?_
                refine g_get (w := wC q) hC (15 + i) (v := .int (nI (10 * (i / 6) + i % 6))) fl_X0_75 (show 15 + i < 63 from by have := (by omega); omega) (cC_p0 q _ _ (by omega)) (g_sv (ci_told hI (by omega))) (gDec_at DX0_extremePlace_0 60 rfl) ?_
                refine g_istore hC (gDec_at DX0_extremePlace_0 61 rfl) (by decide) (L' := [(7, .int (nI (10 * (i / 6) + i % 6))), (16, .int (nI 0)), (14, .long (lN (sStr B (sPull B x) (sAll B) i))), (13, .ref (q.2.2 (15 + i))), (0, .ref (q.2.2 9)), (1, .int (nI x)), (2, .int (nI g)), (3, .long (lN (sPull B x))), (5, .long (lN (sAll B))), (8, .long (lN 0)), (10, .ref (q.2.2 11)), (11, .int (nI 12)), (12, .int (nI i))]) rfl ?_
                refine g_lload hC (gDec_at DX0_extremePlace_0 62 rfl) rfl ?_
                refine g_lstore hC (gDec_at DX0_extremePlace_0 63 rfl) (by decide) (L' := [(8, .long (lN (sStr B (sPull B x) (sAll B) i))), (7, .int (nI (10 * (i / 6) + i % 6))), (16, .int (nI 0)), (14, .long (lN (sStr B (sPull B x) (sAll B) i))), (13, .ref (q.2.2 (15 + i))), (0, .ref (q.2.2 9)), (1, .int (nI x)), (2, .int (nI g)), (3, .long (lN (sPull B x))), (5, .long (lN (sAll B))), (10, .ref (q.2.2 11)), (11, .int (nI 12)), (12, .int (nI i))]) rfl ?_
                refine g_iincN hC (gDec_at DX0_extremePlace_1 0 rfl) rfl (by decide) (L' := [(12, .int (nI (i + 1))), (8, .long (lN (sStr B (sPull B x) (sAll B) i))), (7, .int (nI (10 * (i / 6) + i % 6))), (16, .int (nI 0)), (14, .long (lN (sStr B (sPull B x) (sAll B) i))), (13, .ref (q.2.2 (15 + i))), (0, .ref (q.2.2 9)), (1, .int (nI x)), (2, .int (nI g)), (3, .long (lN (sPull B x))), (5, .long (lN (sAll B))), (10, .ref (q.2.2 11)), (11, .int (nI 12))]) rfl ?_
                refine g_goto hC (gDec_at DX0_extremePlace_1 1 rfl) 33 (by decide) ?_
                refine g_sub [6, 7, 8, 9, 10, 2, 1, 11, 12, 0] (L' := [(0, .ref (q.2.2 9)), (1, .int (nI x)), (2, .int (nI g)), (3, .long (lN (sPull B x))), (5, .long (lN (sAll B))), (7, .int (nI (10 * (i / 6) + i % 6))), (8, .long (lN (sStr B (sPull B x) (sAll B) i))), (10, .ref (q.2.2 11)), (11, .int (nI 12)), (12, .int (nI (i + 1)))]) rfl ?_
                have h9 := ih (i + 1) (nI (10 * (i / 6) + i % 6)) (lN (sStr B (sPull B x) (sAll B) i)) (by omega) (by omega) (Or.inr ⟨by omega, by subst h0; rw [sExt_1]; rfl, by subst h0; rw [sExt_1]⟩)
                exact h9
              · skip
                refine g_iconst hC (gDec_at DX0_extremePlace_0 42 rfl) (v := nI 1) (by decide) ?_
                refine g_goto hC (gDec_at DX0_extremePlace_0 43 rfl) 100 (by decide) ?_
                refine g_istore hC (gDec_at DX0_extremePlace_0 53 rfl) (by decide) (L' := [(16, .int (nI 1)), (14, .long (lN (sStr B (sPull B x) (sAll B) i))), (13, .ref (q.2.2 (15 + i))), (0, .ref (q.2.2 9)), (1, .int (nI x)), (2, .int (nI g)), (3, .long (lN (sPull B x))), (5, .long (lN (sAll B))), (7, .int (-9)), (8, .long (lN 0)), (10, .ref (q.2.2 11)), (11, .int (nI 12)), (12, .int (nI i))]) rfl ?_
                refine g_iload hC (gDec_at DX0_extremePlace_0 54 rfl) rfl ?_
                refine g_bipush hC (gDec_at DX0_extremePlace_0 55 rfl) (v := -9) (by decide) ?_
                refine g_icmp_eq hC (gDec_at DX0_extremePlace_0 56 rfl) 114 (by decide) (fun h => ?_) (fun h => absurd rfl h)
                refine g_aload hC (gDec_at DX0_extremePlace_0 59 rfl) rfl ?_
                refine g_get (w := wC q) hC (15 + i) (v := .int (nI (10 * (i / 6) + i % 6))) fl_X0_75 (show 15 + i < 63 from by have := (by omega); omega) (cC_p0 q _ _ (by omega)) (g_sv (ci_told hI (by omega))) (gDec_at DX0_extremePlace_0 60 rfl) ?_
                refine g_istore hC (gDec_at DX0_extremePlace_0 61 rfl) (by decide) (L' := [(7, .int (nI (10 * (i / 6) + i % 6))), (16, .int (nI 1)), (14, .long (lN (sStr B (sPull B x) (sAll B) i))), (13, .ref (q.2.2 (15 + i))), (0, .ref (q.2.2 9)), (1, .int (nI x)), (2, .int (nI g)), (3, .long (lN (sPull B x))), (5, .long (lN (sAll B))), (8, .long (lN 0)), (10, .ref (q.2.2 11)), (11, .int (nI 12)), (12, .int (nI i))]) rfl ?_
                refine g_lload hC (gDec_at DX0_extremePlace_0 62 rfl) rfl ?_
                refine g_lstore hC (gDec_at DX0_extremePlace_0 63 rfl) (by decide) (L' := [(8, .long (lN (sStr B (sPull B x) (sAll B) i))), (7, .int (nI (10 * (i / 6) + i % 6))), (16, .int (nI 1)), (14, .long (lN (sStr B (sPull B x) (sAll B) i))), (13, .ref (q.2.2 (15 + i))), (0, .ref (q.2.2 9)), (1, .int (nI x)), (2, .int (nI g)), (3, .long (lN (sPull B x))), (5, .long (lN (sAll B))), (10, .ref (q.2.2 11)), (11, .int (nI 12)), (12, .int (nI i))]) rfl ?_
                refine g_iincN hC (gDec_at DX0_extremePlace_1 0 rfl) rfl (by decide) (L' := [(12, .int (nI (i + 1))), (8, .long (lN (sStr B (sPull B x) (sAll B) i))), (7, .int (nI (10 * (i / 6) + i % 6))), (16, .int (nI 1)), (14, .long (lN (sStr B (sPull B x) (sAll B) i))), (13, .ref (q.2.2 (15 + i))), (0, .ref (q.2.2 9)), (1, .int (nI x)), (2, .int (nI g)), (3, .long (lN (sPull B x))), (5, .long (lN (sAll B))), (10, .ref (q.2.2 11)), (11, .int (nI 12))]) rfl ?_
                refine g_goto hC (gDec_at DX0_extremePlace_1 1 rfl) 33 (by decide) ?_
                refine g_sub [6, 7, 8, 9, 10, 2, 1, 11, 12, 0] (L' := [(0, .ref (q.2.2 9)), (1, .int (nI x)), (2, .int (nI g)), (3, .long (lN (sPull B x))), (5, .long (lN (sAll B))), (7, .int (nI (10 * (i / 6) + i % 6))), (8, .long (lN (sStr B (sPull B x) (sAll B) i))), (10, .ref (q.2.2 11)), (11, .int (nI 12)), (12, .int (nI (i + 1)))]) rfl ?_
                have h9 := ih (i + 1) (nI (10 * (i / 6) + i % 6)) (lN (sStr B (sPull B x) (sAll B) i)) (by omega) (by omega) (Or.inr ⟨by omega, by subst h0; rw [sExt_1]; rfl, by subst h0; rw [sExt_1]⟩)
                exact h9
      · skip
        refine g_iload hC (gDec_at DX0_extremePlace_0 19 rfl) rfl ?_
        refine g_iload hC (gDec_at DX0_extremePlace_0 20 rfl) rfl ?_
        refine g_icmp_geN hC (by omega) (by omega) (gDec_at DX0_extremePlace_0 21 rfl) 131 (by decide) (fun h37_1 => ?_) (fun h37_1 => ?_)
        · skip
          obtain rfl : i = 12 := by omega
          refine g_iload hC (gDec_at DX0_extremePlace_1 2 rfl) rfl ?_
          refine g_iret hC (gDec_at DX0_extremePlace_1 3 rfl) ?_
          exact ⟨rfl, rfl⟩
        · skip
          refine g_aload hC (gDec_at DX0_extremePlace_0 22 rfl) rfl ?_
          refine g_iload hC (gDec_at DX0_extremePlace_0 23 rfl) rfl ?_
          refine g_aald (w := wC q) hC 11 3 i (a := q.2.2 (15 + i)) (show 11 < 63 from by decide) rfl rfl (by omega) (by decide) rfl (gDec_at DX0_extremePlace_0 24 rfl) ?_
          refine g_astore hC (gDec_at DX0_extremePlace_0 25 rfl) (by decide) (L' := [(13, .ref (q.2.2 (15 + i))), (0, .ref (q.2.2 9)), (1, .int (nI x)), (2, .int (nI g)), (3, .long (lN (sPull B x))), (5, .long (lN (sAll B))), (7, .int (nI (sTold (sExt B (sStr B (sPull B x) (sAll B)) g i)))), (8, .long (lN (sStr B (sPull B x) (sAll B) (sExt B (sStr B (sPull B x) (sAll B)) g i)))), (10, .ref (q.2.2 11)), (11, .int (nI 12)), (12, .int (nI i))]) rfl ?_
          refine g_aload_n hC (gDec_at DX0_extremePlace_0 26 rfl) rfl ?_
          refine g_aload hC (gDec_at DX0_extremePlace_0 27 rfl) rfl ?_
          refine g_callVd (w := wC q) hC 9 (c_X0_has q hI (by omega)) vf_X0_has ml_X0_42 (by decide) (show 9 < 63 from by decide) rfl rfl rfl rfl rfl (Nat.le_of_ble_eq_true rfl) (gDec_at DX0_extremePlace_0 28 rfl) ?_
          refine g_if_eqB hC (gDec_at DX0_extremePlace_0 29 rfl) 125 (by decide) (fun h53_1 => ?_) (fun h53_1 => ?_)
          · skip
            refine g_iincN hC (gDec_at DX0_extremePlace_1 0 rfl) rfl (by decide) (L' := [(12, .int (nI (i + 1))), (13, .ref (q.2.2 (15 + i))), (0, .ref (q.2.2 9)), (1, .int (nI x)), (2, .int (nI g)), (3, .long (lN (sPull B x))), (5, .long (lN (sAll B))), (7, .int (nI (sTold (sExt B (sStr B (sPull B x) (sAll B)) g i)))), (8, .long (lN (sStr B (sPull B x) (sAll B) (sExt B (sStr B (sPull B x) (sAll B)) g i)))), (10, .ref (q.2.2 11)), (11, .int (nI 12))]) rfl ?_
            refine g_goto hC (gDec_at DX0_extremePlace_1 1 rfl) 33 (by decide) ?_
            refine g_sub [2, 3, 4, 5, 6, 7, 8, 9, 10, 0] (L' := [(0, .ref (q.2.2 9)), (1, .int (nI x)), (2, .int (nI g)), (3, .long (lN (sPull B x))), (5, .long (lN (sAll B))), (7, .int (nI (sTold (sExt B (sStr B (sPull B x) (sAll B)) g i)))), (8, .long (lN (sStr B (sPull B x) (sAll B) (sExt B (sStr B (sPull B x) (sAll B)) g i)))), (10, .ref (q.2.2 11)), (11, .int (nI 12)), (12, .int (nI (i + 1)))]) rfl ?_
            have h9 := ih (i + 1) (nI (sTold (sExt B (sStr B (sPull B x) (sAll B)) g i))) (lN (sStr B (sPull B x) (sAll B) (sExt B (sStr B (sPull B x) (sAll B)) g i))) (by omega) (by omega) (Or.inr ⟨by omega, by rw [show (sExt B (sStr B (sPull B x) (sAll B)) g (i + 1)) = (sExt B (sStr B (sPull B x) (sAll B)) g i) from if_neg (fun z => h53_1 z.1)], by rw [show (sExt B (sStr B (sPull B x) (sAll B)) g (i + 1)) = (sExt B (sStr B (sPull B x) (sAll B)) g i) from if_neg (fun z => h53_1 z.1)]⟩)
            exact h9
          · skip
            have hse := hst (sExt B (sStr B (sPull B x) (sAll B)) g i)
            refine g_aload_n hC (gDec_at DX0_extremePlace_0 30 rfl) rfl ?_
            refine g_aload hC (gDec_at DX0_extremePlace_0 31 rfl) rfl ?_
            refine g_lload_n hC (gDec_at DX0_extremePlace_0 32 rfl) rfl ?_
            refine g_lload hC (gDec_at DX0_extremePlace_0 33 rfl) rfl ?_
            refine g_callVd (w := wC q) hC 9 (c_X0_strainOf q hI (by omega) (by omega) (pull := (sPull B x)) (gives := (sAll B)) (by omega) (by omega)) vf_X0_strainOf ml_X0_132 (by decide) (show 9 < 63 from by decide) rfl rfl rfl rfl rfl (Nat.le_of_ble_eq_true rfl) (gDec_at DX0_extremePlace_0 34 rfl) ?_
            refine g_lstore hC (gDec_at DX0_extremePlace_0 35 rfl) (by decide) (L' := [(14, .long (lN (sStr B (sPull B x) (sAll B) i))), (13, .ref (q.2.2 (15 + i))), (0, .ref (q.2.2 9)), (1, .int (nI x)), (2, .int (nI g)), (3, .long (lN (sPull B x))), (5, .long (lN (sAll B))), (7, .int (nI (sTold (sExt B (sStr B (sPull B x) (sAll B)) g i)))), (8, .long (lN (sStr B (sPull B x) (sAll B) (sExt B (sStr B (sPull B x) (sAll B)) g i)))), (10, .ref (q.2.2 11)), (11, .int (nI 12)), (12, .int (nI i))]) rfl ?_
            refine g_iload_n hC (gDec_at DX0_extremePlace_0 36 rfl) rfl ?_
            refine g_if_eqN hC (by omega) (gDec_at DX0_extremePlace_0 37 rfl) 87 (by decide) (fun h68_1 => ?_) (fun h68_1 => ?_)
            · skip
              refine g_lload hC (gDec_at DX0_extremePlace_0 46 rfl) rfl ?_
              refine g_lload hC (gDec_at DX0_extremePlace_0 47 rfl) rfl ?_
              refine g_lc_geN hC (by omega) (by omega) (gDec_at DX0_extremePlace_0 48 rfl) (gDec_at DX0_extremePlace_0 49 rfl) 99 (by decide) (fun h91_1 => ?_) (fun h91_1 => ?_)
              · skip
                refine g_iconst hC (gDec_at DX0_extremePlace_0 52 rfl) (v := nI 0) (by decide) ?_
                refine g_istore hC (gDec_at DX0_extremePlace_0 53 rfl) (by decide) (L' := [(16, .int (nI 0)), (14, .long (lN (sStr B (sPull B x) (sAll B) i))), (13, .ref (q.2.2 (15 + i))), (0, .ref (q.2.2 9)), (1, .int (nI x)), (2, .int (nI g)), (3, .long (lN (sPull B x))), (5, .long (lN (sAll B))), (7, .int (nI (sTold (sExt B (sStr B (sPull B x) (sAll B)) g i)))), (8, .long (lN (sStr B (sPull B x) (sAll B) (sExt B (sStr B (sPull B x) (sAll B)) g i)))), (10, .ref (q.2.2 11)), (11, .int (nI 12)), (12, .int (nI i))]) rfl ?_
                refine g_iload hC (gDec_at DX0_extremePlace_0 54 rfl) rfl ?_
                refine g_bipush hC (gDec_at DX0_extremePlace_0 55 rfl) (v := -9) (by decide) ?_
                refine g_icmp_eq hC (gDec_at DX0_extremePlace_0 56 rfl) 114 (by decide) (fun h => absurd h (nI_n9 (by have := (sExt_lt (B := B) (f := (sStr B (sPull B x) (sAll B))) (g := g) hm.1 i h0).1; unfold sTold; omega))) (fun h => ?_)
                refine g_iload hC (gDec_at DX0_extremePlace_0 57 rfl) rfl ?_
                refine g_if_eqN hC (by decide) (gDec_at DX0_extremePlace_0 58 rfl) 125 (by decide) (fun h => ?_) (fun h => absurd h (by decide))
                refine g_iincN hC (gDec_at DX0_extremePlace_1 0 rfl) rfl (by decide) (L' := [(12, .int (nI (i + 1))), (16, .int (nI 0)), (14, .long (lN (sStr B (sPull B x) (sAll B) i))), (13, .ref (q.2.2 (15 + i))), (0, .ref (q.2.2 9)), (1, .int (nI x)), (2, .int (nI g)), (3, .long (lN (sPull B x))), (5, .long (lN (sAll B))), (7, .int (nI (sTold (sExt B (sStr B (sPull B x) (sAll B)) g i)))), (8, .long (lN (sStr B (sPull B x) (sAll B) (sExt B (sStr B (sPull B x) (sAll B)) g i)))), (10, .ref (q.2.2 11)), (11, .int (nI 12))]) rfl ?_
                refine g_goto hC (gDec_at DX0_extremePlace_1 1 rfl) 33 (by decide) ?_
                refine g_sub [4, 5, 6, 7, 8, 9, 10, 11, 12, 0] (L' := [(0, .ref (q.2.2 9)), (1, .int (nI x)), (2, .int (nI g)), (3, .long (lN (sPull B x))), (5, .long (lN (sAll B))), (7, .int (nI (sTold (sExt B (sStr B (sPull B x) (sAll B)) g i)))), (8, .long (lN (sStr B (sPull B x) (sAll B) (sExt B (sStr B (sPull B x) (sAll B)) g i)))), (10, .ref (q.2.2 11)), (11, .int (nI 12)), (12, .int (nI (i + 1)))]) rfl ?_
                have h9 := ih (i + 1) (nI (sTold (sExt B (sStr B (sPull B x) (sAll B)) g i))) (lN (sStr B (sPull B x) (sAll B) (sExt B (sStr B (sPull B x) (sAll B)) g i))) (by omega) (by omega) (Or.inr ⟨by omega, by rw [show (sExt B (sStr B (sPull B x) (sAll B)) g (i + 1)) = (sExt B (sStr B (sPull B x) (sAll B)) g i) from if_neg (fun z => by have := z.2; omega)], by rw [show (sExt B (sStr B (sPull B x) (sAll B)) g (i + 1)) = (sExt B (sStr B (sPull B x) (sAll B)) g i) from if_neg (fun z => by have := z.2; omega)]⟩)
                exact h9
              · skip
                refine g_iconst hC (gDec_at DX0_extremePlace_0 50 rfl) (v := nI 1) (by decide) ?_
                refine g_goto hC (gDec_at DX0_extremePlace_0 51 rfl) 100 (by decide) ?_
                refine g_istore hC (gDec_at DX0_extremePlace_0 53 rfl) (by decide) (L' := [(16, .int (nI 1)), (14, .long (lN (sStr B (sPull B x) (sAll B) i))), (13, .ref (q.2.2 (15 + i))), (0, .ref (q.2.2 9)), (1, .int (nI x)), (2, .int (nI g)), (3, .long (lN (sPull B x))), (5, .long (lN (sAll B))), (7, .int (nI (sTold (sExt B (sStr B (sPull B x) (sAll B)) g i)))), (8, .long (lN (sStr B (sPull B x) (sAll B) (sExt B (sStr B (sPull B x) (sAll B)) g i)))), (10, .ref (q.2.2 11)), (11, .int (nI 12)), (12, .int (nI i))]) rfl ?_
                refine g_iload hC (gDec_at DX0_extremePlace_0 54 rfl) rfl ?_
                refine g_bipush hC (gDec_at DX0_extremePlace_0 55 rfl) (v := -9) (by decide) ?_
                refine g_icmp_eq hC (gDec_at DX0_extremePlace_0 56 rfl) 114 (by decide) (fun h => absurd h (nI_n9 (by have := (sExt_lt (B := B) (f := (sStr B (sPull B x) (sAll B))) (g := g) hm.1 i h0).1; unfold sTold; omega))) (fun h => ?_)
                refine g_iload hC (gDec_at DX0_extremePlace_0 57 rfl) rfl ?_
                refine g_if_eqN hC (by decide) (gDec_at DX0_extremePlace_0 58 rfl) 125 (by decide) (fun h => absurd h (by decide)) (fun h => ?_)
                refine g_aload hC (gDec_at DX0_extremePlace_0 59 rfl) rfl ?_
                refine g_get (w := wC q) hC (15 + i) (v := .int (nI (10 * (i / 6) + i % 6))) fl_X0_75 (show 15 + i < 63 from by have := (by omega); omega) (cC_p0 q _ _ (by omega)) (g_sv (ci_told hI (by omega))) (gDec_at DX0_extremePlace_0 60 rfl) ?_
                refine g_istore hC (gDec_at DX0_extremePlace_0 61 rfl) (by decide) (L' := [(7, .int (nI (10 * (i / 6) + i % 6))), (16, .int (nI 1)), (14, .long (lN (sStr B (sPull B x) (sAll B) i))), (13, .ref (q.2.2 (15 + i))), (0, .ref (q.2.2 9)), (1, .int (nI x)), (2, .int (nI g)), (3, .long (lN (sPull B x))), (5, .long (lN (sAll B))), (8, .long (lN (sStr B (sPull B x) (sAll B) (sExt B (sStr B (sPull B x) (sAll B)) g i)))), (10, .ref (q.2.2 11)), (11, .int (nI 12)), (12, .int (nI i))]) rfl ?_
                refine g_lload hC (gDec_at DX0_extremePlace_0 62 rfl) rfl ?_
                refine g_lstore hC (gDec_at DX0_extremePlace_0 63 rfl) (by decide) (L' := [(8, .long (lN (sStr B (sPull B x) (sAll B) i))), (7, .int (nI (10 * (i / 6) + i % 6))), (16, .int (nI 1)), (14, .long (lN (sStr B (sPull B x) (sAll B) i))), (13, .ref (q.2.2 (15 + i))), (0, .ref (q.2.2 9)), (1, .int (nI x)), (2, .int (nI g)), (3, .long (lN (sPull B x))), (5, .long (lN (sAll B))), (10, .ref (q.2.2 11)), (11, .int (nI 12)), (12, .int (nI i))]) rfl ?_
                refine g_iincN hC (gDec_at DX0_extremePlace_1 0 rfl) rfl (by decide) (L' := [(12, .int (nI (i + 1))), (8, .long (lN (sStr B (sPull B x) (sAll B) i))), (7, .int (nI (10 * (i / 6) + i % 6))), (16, .int (nI 1)), (14, .long (lN (sStr B (sPull B x) (sAll B) i))), (13, .ref (q.2.2 (15 + i))), (0, .ref (q.2.2 9)), (1, .int (nI x)), (2, .int (nI g)), (3, .long (lN (sPull B x))), (5, .long (lN (sAll B))), (10, .ref (q.2.2 11)), (11, .int (nI 12))]) rfl ?_
                refine g_goto hC (gDec_at DX0_extremePlace_1 1 rfl) 33 (by decide) ?_
                refine g_sub [6, 7, 8, 9, 10, 2, 1, 11, 12, 0] (L' := [(0, .ref (q.2.2 9)), (1, .int (nI x)), (2, .int (nI g)), (3, .long (lN (sPull B x))), (5, .long (lN (sAll B))), (7, .int (nI (10 * (i / 6) + i % 6))), (8, .long (lN (sStr B (sPull B x) (sAll B) i))), (10, .ref (q.2.2 11)), (11, .int (nI 12)), (12, .int (nI (i + 1)))]) rfl ?_
                have h9 := ih (i + 1) (nI (10 * (i / 6) + i % 6)) (lN (sStr B (sPull B x) (sAll B) i)) (by omega) (by omega) (Or.inr ⟨by omega, by rw [show (sExt B (sStr B (sPull B x) (sAll B)) g (i + 1)) = i from if_pos ⟨h53_1, by omega⟩]; rfl, by rw [show (sExt B (sStr B (sPull B x) (sAll B)) g (i + 1)) = i from if_pos ⟨h53_1, by omega⟩]⟩)
                exact h9
            · skip
              refine g_lload hC (gDec_at DX0_extremePlace_0 38 rfl) rfl ?_
              refine g_lload hC (gDec_at DX0_extremePlace_0 39 rfl) rfl ?_
              refine g_lc_leN hC (by omega) (by omega) (gDec_at DX0_extremePlace_0 40 rfl) (gDec_at DX0_extremePlace_0 41 rfl) 83 (by decide) (fun h75_1 => ?_) (fun h75_1 => ?_)
              · skip
                refine g_iconst hC (gDec_at DX0_extremePlace_0 44 rfl) (v := nI 0) (by decide) ?_
                refine g_goto hC (gDec_at DX0_extremePlace_0 45 rfl) 100 (by decide) ?_
                refine g_istore hC (gDec_at DX0_extremePlace_0 53 rfl) (by decide) (L' := [(16, .int (nI 0)), (14, .long (lN (sStr B (sPull B x) (sAll B) i))), (13, .ref (q.2.2 (15 + i))), (0, .ref (q.2.2 9)), (1, .int (nI x)), (2, .int (nI g)), (3, .long (lN (sPull B x))), (5, .long (lN (sAll B))), (7, .int (nI (sTold (sExt B (sStr B (sPull B x) (sAll B)) g i)))), (8, .long (lN (sStr B (sPull B x) (sAll B) (sExt B (sStr B (sPull B x) (sAll B)) g i)))), (10, .ref (q.2.2 11)), (11, .int (nI 12)), (12, .int (nI i))]) rfl ?_
                refine g_iload hC (gDec_at DX0_extremePlace_0 54 rfl) rfl ?_
                refine g_bipush hC (gDec_at DX0_extremePlace_0 55 rfl) (v := -9) (by decide) ?_
                refine g_icmp_eq hC (gDec_at DX0_extremePlace_0 56 rfl) 114 (by decide) (fun h => absurd h (nI_n9 (by have := (sExt_lt (B := B) (f := (sStr B (sPull B x) (sAll B))) (g := g) hm.1 i h0).1; unfold sTold; omega))) (fun h => ?_)
                refine g_iload hC (gDec_at DX0_extremePlace_0 57 rfl) rfl ?_
                refine g_if_eqN hC (by decide) (gDec_at DX0_extremePlace_0 58 rfl) 125 (by decide) (fun h => ?_) (fun h => absurd h (by decide))
                refine g_iincN hC (gDec_at DX0_extremePlace_1 0 rfl) rfl (by decide) (L' := [(12, .int (nI (i + 1))), (16, .int (nI 0)), (14, .long (lN (sStr B (sPull B x) (sAll B) i))), (13, .ref (q.2.2 (15 + i))), (0, .ref (q.2.2 9)), (1, .int (nI x)), (2, .int (nI g)), (3, .long (lN (sPull B x))), (5, .long (lN (sAll B))), (7, .int (nI (sTold (sExt B (sStr B (sPull B x) (sAll B)) g i)))), (8, .long (lN (sStr B (sPull B x) (sAll B) (sExt B (sStr B (sPull B x) (sAll B)) g i)))), (10, .ref (q.2.2 11)), (11, .int (nI 12))]) rfl ?_
                refine g_goto hC (gDec_at DX0_extremePlace_1 1 rfl) 33 (by decide) ?_
                refine g_sub [4, 5, 6, 7, 8, 9, 10, 11, 12, 0] (L' := [(0, .ref (q.2.2 9)), (1, .int (nI x)), (2, .int (nI g)), (3, .long (lN (sPull B x))), (5, .long (lN (sAll B))), (7, .int (nI (sTold (sExt B (sStr B (sPull B x) (sAll B)) g i)))), (8, .long (lN (sStr B (sPull B x) (sAll B) (sExt B (sStr B (sPull B x) (sAll B)) g i)))), (10, .ref (q.2.2 11)), (11, .int (nI 12)), (12, .int (nI (i + 1)))]) rfl ?_
                have h9 := ih (i + 1) (nI (sTold (sExt B (sStr B (sPull B x) (sAll B)) g i))) (lN (sStr B (sPull B x) (sAll B) (sExt B (sStr B (sPull B x) (sAll B)) g i))) (by omega) (by omega) (Or.inr ⟨by omega, by rw [show (sExt B (sStr B (sPull B x) (sAll B)) g (i + 1)) = (sExt B (sStr B (sPull B x) (sAll B)) g i) from if_neg (fun z => by have := z.2; omega)], by rw [show (sExt B (sStr B (sPull B x) (sAll B)) g (i + 1)) = (sExt B (sStr B (sPull B x) (sAll B)) g i) from if_neg (fun z => by have := z.2; omega)]⟩)
                exact h9
              · skip
                refine g_iconst hC (gDec_at DX0_extremePlace_0 42 rfl) (v := nI 1) (by decide) ?_
                refine g_goto hC (gDec_at DX0_extremePlace_0 43 rfl) 100 (by decide) ?_
                refine g_istore hC (gDec_at DX0_extremePlace_0 53 rfl) (by decide) (L' := [(16, .int (nI 1)), (14, .long (lN (sStr B (sPull B x) (sAll B) i))), (13, .ref (q.2.2 (15 + i))), (0, .ref (q.2.2 9)), (1, .int (nI x)), (2, .int (nI g)), (3, .long (lN (sPull B x))), (5, .long (lN (sAll B))), (7, .int (nI (sTold (sExt B (sStr B (sPull B x) (sAll B)) g i)))), (8, .long (lN (sStr B (sPull B x) (sAll B) (sExt B (sStr B (sPull B x) (sAll B)) g i)))), (10, .ref (q.2.2 11)), (11, .int (nI 12)), (12, .int (nI i))]) rfl ?_
                refine g_iload hC (gDec_at DX0_extremePlace_0 54 rfl) rfl ?_
                refine g_bipush hC (gDec_at DX0_extremePlace_0 55 rfl) (v := -9) (by decide) ?_
                refine g_icmp_eq hC (gDec_at DX0_extremePlace_0 56 rfl) 114 (by decide) (fun h => absurd h (nI_n9 (by have := (sExt_lt (B := B) (f := (sStr B (sPull B x) (sAll B))) (g := g) hm.1 i h0).1; unfold sTold; omega))) (fun h => ?_)
                refine g_iload hC (gDec_at DX0_extremePlace_0 57 rfl) rfl ?_
                refine g_if_eqN hC (by decide) (gDec_at DX0_extremePlace_0 58 rfl) 125 (by decide) (fun h => absurd h (by decide)) (fun h => ?_)
                refine g_aload hC (gDec_at DX0_extremePlace_0 59 rfl) rfl ?_
                refine g_get (w := wC q) hC (15 + i) (v := .int (nI (10 * (i / 6) + i % 6))) fl_X0_75 (show 15 + i < 63 from by have := (by omega); omega) (cC_p0 q _ _ (by omega)) (g_sv (ci_told hI (by omega))) (gDec_at DX0_extremePlace_0 60 rfl) ?_
                refine g_istore hC (gDec_at DX0_extremePlace_0 61 rfl) (by decide) (L' := [(7, .int (nI (10 * (i / 6) + i % 6))), (16, .int (nI 1)), (14, .long (lN (sStr B (sPull B x) (sAll B) i))), (13, .ref (q.2.2 (15 + i))), (0, .ref (q.2.2 9)), (1, .int (nI x)), (2, .int (nI g)), (3, .long (lN (sPull B x))), (5, .long (lN (sAll B))), (8, .long (lN (sStr B (sPull B x) (sAll B) (sExt B (sStr B (sPull B x) (sAll B)) g i)))), (10, .ref (q.2.2 11)), (11, .int (nI 12)), (12, .int (nI i))]) rfl ?_
                refine g_lload hC (gDec_at DX0_extremePlace_0 62 rfl) rfl ?_
                refine g_lstore hC (gDec_at DX0_extremePlace_0 63 rfl) (by decide) (L' := [(8, .long (lN (sStr B (sPull B x) (sAll B) i))), (7, .int (nI (10 * (i / 6) + i % 6))), (16, .int (nI 1)), (14, .long (lN (sStr B (sPull B x) (sAll B) i))), (13, .ref (q.2.2 (15 + i))), (0, .ref (q.2.2 9)), (1, .int (nI x)), (2, .int (nI g)), (3, .long (lN (sPull B x))), (5, .long (lN (sAll B))), (10, .ref (q.2.2 11)), (11, .int (nI 12)), (12, .int (nI i))]) rfl ?_
                refine g_iincN hC (gDec_at DX0_extremePlace_1 0 rfl) rfl (by decide) (L' := [(12, .int (nI (i + 1))), (8, .long (lN (sStr B (sPull B x) (sAll B) i))), (7, .int (nI (10 * (i / 6) + i % 6))), (16, .int (nI 1)), (14, .long (lN (sStr B (sPull B x) (sAll B) i))), (13, .ref (q.2.2 (15 + i))), (0, .ref (q.2.2 9)), (1, .int (nI x)), (2, .int (nI g)), (3, .long (lN (sPull B x))), (5, .long (lN (sAll B))), (10, .ref (q.2.2 11)), (11, .int (nI 12))]) rfl ?_
                refine g_goto hC (gDec_at DX0_extremePlace_1 1 rfl) 33 (by decide) ?_
                refine g_sub [6, 7, 8, 9, 10, 2, 1, 11, 12, 0] (L' := [(0, .ref (q.2.2 9)), (1, .int (nI x)), (2, .int (nI g)), (3, .long (lN (sPull B x))), (5, .long (lN (sAll B))), (7, .int (nI (10 * (i / 6) + i % 6))), (8, .long (lN (sStr B (sPull B x) (sAll B) i))), (10, .ref (q.2.2 11)), (11, .int (nI 12)), (12, .int (nI (i + 1)))]) rfl ?_
                have h9 := ih (i + 1) (nI (10 * (i / 6) + i % 6)) (lN (sStr B (sPull B x) (sAll B) i)) (by omega) (by omega) (Or.inr ⟨by omega, by rw [show (sExt B (sStr B (sPull B x) (sAll B)) g (i + 1)) = i from if_pos ⟨h53_1, by omega⟩]; rfl, by rw [show (sExt B (sStr B (sPull B x) (sAll B)) g (i + 1)) = i from if_pos ⟨h53_1, by omega⟩]⟩)
                exact h9
  exact g_sub [7, 8, 9, 6, 5, 4, 3, 2, 1, 0] rfl (loop33 (12 + 1 - 0) 0 (-9) (lN 0) (by omega) (by omega) (Or.inl ⟨rfl, rfl, rfl⟩))

theorem lsub_le {a b m : Nat} (ha : a < 4611686018427387904) (hb : b < 4611686018427387904) (hm : m < 4611686018427387904) : lN a - lN b ≤ lN m ↔ a - b ≤ m := by
  have h1 : (lN a).toInt = a := pk_lT (by omega)
  have h2 : (lN b).toInt = b := pk_lT (by omega)
  have h3 : (lN m).toInt = m := pk_lT (by omega)
  rw [Int64.le_iff_toInt_le, Int64.toInt_sub, h1, h2, h3]
  have e : ((a : Int) - (b : Int)).bmod (2 ^ 64) = (a : Int) - b := by
    rw [Int.bmod_eq_of_le] <;> omega
  rw [e]
  omega
def sAb (B : gB) (ln : Nat → Nat) (pull gives j : Nat) : Nat := sStr B pull gives j - 1000 * ln j
def bkP (q : gQ3) (r : Nat) (wv : Value) : Prop := r = 0 ∧ wv = .null ∨ ∃ k, r = k + 1 ∧ wv = .ref (q.2.2 (15 + k))
/-- the place (and 1) most above its line, and by how much -/
def sBk (B : gB) (a : Nat → Nat) : Nat → Nat × Nat
  | 0 => (0, 0)
  | n + 1 => if n % 6 < B 9 0 ∧ (sBk B a n).2 < a n then (n + 1, a n) else sBk B a n
theorem sBk_bd {B : gB} {a : Nat → Nat} {c : Nat} (h : ∀ j, a j ≤ c) : ∀ n, (sBk B a n).2 ≤ c
  | 0 => Nat.zero_le _
  | n + 1 => by
    rw [sBk]
    split
    · exact h n
    · exact sBk_bd h n
theorem sBk_at {B : gB} {a : Nat → Nat} : ∀ n, (sBk B a n).1 = 0 ∨ ((sBk B a n).1 ≤ n ∧ ((sBk B a n).1 - 1) % 6 < B 9 0)
  | 0 => Or.inl rfl
  | n + 1 => by
    rw [sBk]
    split
    · rename_i h; exact Or.inr ⟨Nat.le_refl _, h.1⟩
    · rcases sBk_at (B := B) (a := a) n with h | h
      · exact Or.inl h
      · exact Or.inr ⟨by omega, h.2⟩
theorem sPl_le {B : gB} (h : bV B) {j : Nat} (hj : j < 12) (ht : j % 6 < B 9 0) : sPl B j ≤ 99 := by
  have h2 := bv_pull h (bv_f2 h hj ht)
  unfold sPl; split <;> omega
theorem sPr_le {B : gB} (h : bV B) {j : Nat} (hj : j < 12) (ht : j % 6 < B 9 0) : sPr B j ≤ 99 := (bv_press h (bv_f2 h hj ht)).2
set_option maxRecDepth 100000 in
set_option maxHeartbeats 4000000 in
theorem c_X0_breakingPlace_no (q : gQ3) {M : gM} {B : gB} (hI : cI M B) {pull gives : Nat} (hp : pull ≤ 80000000) (hg : gives ≤ 432000000000) (hk : (sBk B (sAb B (sPl B) pull gives) 12).1 = 0) : gCt (wC q) yX0_breakingPlace cX0_breakingPlace 14 (some (.object "BowBend$Place")) 2 [.ref (q.2.2 9), .long (lN pull), .long (lN gives)] M (gR (some .null) M) := by
  refine gMet RX0 (by decide +kernel) rfl (Nat.le_of_ble_eq_true rfl) (fun X hC => ?_)
  have hC : gC X (wC q) cX0_breakingPlace 14 RX0 (some (.object "BowBend$Place")) 2 := hC
  show gG X (wC q) _ 14 M 0 [(0, .ref (q.2.2 9)), (1, .long (lN pull)), (3, .long (lN gives))] []
  have hm := bv_many hI.2.2
  have hst := fun j => sStr_le B j (gives := gives) hp
  have hbd := fun n => sBk_bd (B := B) (a := (sAb B (sPl B) pull gives)) (c := 480000000000000) (fun j => by have := hst j; unfold sAb; omega) n
  refine g_null hC (gDec_at DX0_breakingPlace_0 0 rfl) ?_
  refine g_astoreN hC (gDec_at DX0_breakingPlace_0 1 rfl) (by decide) (L' := [(5, .null), (0, .ref (q.2.2 9)), (1, .long (lN pull)), (3, .long (lN gives))]) rfl ?_
  refine g_lconst hC (gDec_at DX0_breakingPlace_0 2 rfl) (v := lN 0) (by decide) ?_
  refine g_lstore hC (gDec_at DX0_breakingPlace_0 3 rfl) (by decide) (L' := [(6, .long (lN 0)), (5, .null), (0, .ref (q.2.2 9)), (1, .long (lN pull)), (3, .long (lN gives))]) rfl ?_
  refine g_aload_n hC (gDec_at DX0_breakingPlace_0 4 rfl) rfl ?_
  refine g_get (w := wC q) hC 9 (v := .ref (q.2.2 11)) fl_X0_22 (show 9 < 63 from by decide) rfl rfl (gDec_at DX0_breakingPlace_0 5 rfl) ?_
  refine g_astore hC (gDec_at DX0_breakingPlace_0 6 rfl) (by decide) (L' := [(8, .ref (q.2.2 11)), (6, .long (lN 0)), (5, .null), (0, .ref (q.2.2 9)), (1, .long (lN pull)), (3, .long (lN gives))]) rfl ?_
  refine g_aload hC (gDec_at DX0_breakingPlace_0 7 rfl) rfl ?_
  refine g_alen (w := wC q) hC 11 3 (show 11 < 63 from by decide) rfl rfl (gDec_at DX0_breakingPlace_0 8 rfl) ?_
  refine g_istore hC (gDec_at DX0_breakingPlace_0 9 rfl) (by decide) (L' := [(9, .int (nI 12)), (8, .ref (q.2.2 11)), (6, .long (lN 0)), (5, .null), (0, .ref (q.2.2 9)), (1, .long (lN pull)), (3, .long (lN gives))]) rfl ?_
  refine g_iconst hC (gDec_at DX0_breakingPlace_0 10 rfl) (v := nI 0) (by decide) ?_
  refine g_istore hC (gDec_at DX0_breakingPlace_0 11 rfl) (by decide) (L' := [(10, .int (nI 0)), (9, .int (nI 12)), (8, .ref (q.2.2 11)), (6, .long (lN 0)), (5, .null), (0, .ref (q.2.2 9)), (1, .long (lN pull)), (3, .long (lN gives))]) rfl ?_
  have loop20 : ∀ (fu i : Nat) (wv : Value), i ≤ 12 → 12 - i < fu → bkP q (sBk B (sAb B (sPl B) pull gives) i).1 wv → gG X (wC q) (gR (some .null) M) 14 M 20 [(0, .ref (q.2.2 9)), (1, .long (lN pull)), (3, .long (lN gives)), (5, wv), (6, .long (lN ((sBk B (sAb B (sPl B) pull gives) i).2))), (8, .ref (q.2.2 11)), (9, .int (nI 12)), (10, .int (nI i))] [] := by
    intro fu; induction fu with
    | zero => intro i wv h1 h2; omega
    | succ fu ih =>
      intro i wv hi hfu hf
      have hsi := hst i
      have hbi := hbd i
      refine g_iload hC (gDec_at DX0_breakingPlace_0 12 rfl) rfl ?_
      refine g_iload hC (gDec_at DX0_breakingPlace_0 13 rfl) rfl ?_
      refine g_icmp_geN hC (by omega) (by omega) (gDec_at DX0_breakingPlace_0 14 rfl) 86 (by decide) (fun h24 => ?_) (fun h24 => ?_)
      · skip
        obtain rfl : i = 12 := by omega
        rcases hf with ⟨hz, rfl⟩ | ⟨k, hz, rfl⟩
        · skip
          refine g_aloadN hC (gDec_at DX0_breakingPlace_0 45 rfl) rfl ?_
          refine g_aret hC (Or.inl rfl) (gDec_at DX0_breakingPlace_0 46 rfl) ?_
          exact ⟨rfl, rfl⟩
        · skip
          exact absurd hk (by omega)
      · skip
        refine g_aload hC (gDec_at DX0_breakingPlace_0 15 rfl) rfl ?_
        refine g_iload hC (gDec_at DX0_breakingPlace_0 16 rfl) rfl ?_
        refine g_aald (w := wC q) hC 11 3 i (a := q.2.2 (15 + i)) (show 11 < 63 from by decide) rfl rfl (by omega) (by decide) rfl (gDec_at DX0_breakingPlace_0 17 rfl) ?_
        refine g_astore hC (gDec_at DX0_breakingPlace_0 18 rfl) (by decide) (L' := [(11, .ref (q.2.2 (15 + i))), (0, .ref (q.2.2 9)), (1, .long (lN pull)), (3, .long (lN gives)), (5, wv), (6, .long (lN ((sBk B (sAb B (sPl B) pull gives) i).2))), (8, .ref (q.2.2 11)), (9, .int (nI 12)), (10, .int (nI i))]) rfl ?_
        refine g_aload_n hC (gDec_at DX0_breakingPlace_0 19 rfl) rfl ?_
        refine g_aload hC (gDec_at DX0_breakingPlace_0 20 rfl) rfl ?_
        refine g_callVd (w := wC q) hC 9 (c_X0_has q hI (by omega)) vf_X0_has ml_X0_42 (by decide) (show 9 < 63 from by decide) rfl rfl rfl rfl rfl (Nat.le_of_ble_eq_true rfl) (gDec_at DX0_breakingPlace_0 21 rfl) ?_
        refine g_if_eqB hC (gDec_at DX0_breakingPlace_0 22 rfl) 80 (by decide) (fun h40 => ?_) (fun h40 => ?_)
        · skip
          refine g_iincN hC (gDec_at DX0_breakingPlace_0 43 rfl) rfl (by decide) (L' := [(10, .int (nI (i + 1))), (11, .ref (q.2.2 (15 + i))), (0, .ref (q.2.2 9)), (1, .long (lN pull)), (3, .long (lN gives)), (5, wv), (6, .long (lN ((sBk B (sAb B (sPl B) pull gives) i).2))), (8, .ref (q.2.2 11)), (9, .int (nI 12))]) rfl ?_
          refine g_goto hC (gDec_at DX0_breakingPlace_0 44 rfl) 20 (by decide) ?_
          refine g_sub [2, 3, 4, 5, 6, 7, 8, 0] (L' := [(0, .ref (q.2.2 9)), (1, .long (lN pull)), (3, .long (lN gives)), (5, wv), (6, .long (lN ((sBk B (sAb B (sPl B) pull gives) i).2))), (8, .ref (q.2.2 11)), (9, .int (nI 12)), (10, .int (nI (i + 1)))]) rfl ?_
          have e9 : (sBk B (sAb B (sPl B) pull gives) (i + 1)) = (sBk B (sAb B (sPl B) pull gives) i) := if_neg (fun z => h40 z.1)
          have h9 := ih (i + 1) wv (by omega) (by omega) (by rw [e9]; exact hf)
          rw [e9] at h9
          exact h9
        · skip
          have hpl := sPl_le hI.2.2 (by omega : i < 12) h40
          refine g_aload_n hC (gDec_at DX0_breakingPlace_0 23 rfl) rfl ?_
          refine g_aload hC (gDec_at DX0_breakingPlace_0 24 rfl) rfl ?_
          refine g_lload_n hC (gDec_at DX0_breakingPlace_0 25 rfl) rfl ?_
          refine g_lload_n hC (gDec_at DX0_breakingPlace_0 26 rfl) rfl ?_
          refine g_callVd (w := wC q) hC 9 (c_X0_strainOf q hI (by omega) (by omega) (pull := pull) (gives := gives) (by omega) (by omega)) vf_X0_strainOf ml_X0_132 (by decide) (show 9 < 63 from by decide) rfl rfl rfl rfl rfl (Nat.le_of_ble_eq_true rfl) (gDec_at DX0_breakingPlace_0 27 rfl) ?_
          refine g_ldc2 hC cl_X0_136 (v' := lN 1000) (by decide) (gDec_at DX0_breakingPlace_0 28 rfl) ?_
          refine g_aload_n hC (gDec_at DX0_breakingPlace_0 29 rfl) rfl ?_
          refine g_aload hC (gDec_at DX0_breakingPlace_0 30 rfl) rfl ?_
          refine g_callVd (w := wC q) hC 9 (c_X0_pullLineOf q hI (by omega) (by omega)) vf_X0_pullLineOf ml_X0_138 (by decide) (show 9 < 63 from by decide) rfl rfl rfl rfl rfl (Nat.le_of_ble_eq_true rfl) (gDec_at DX0_breakingPlace_0 31 rfl) ?_
          refine g_lmulN hC (gDec_at DX0_breakingPlace_0 32 rfl) ?_
          refine g_lsub hC (gDec_at DX0_breakingPlace_0 33 rfl) (v := (lN (sStr B pull gives i) - lN (1000 * sPl B i))) rfl ?_
          refine g_lstore hC (gDec_at DX0_breakingPlace_0 34 rfl) (by decide) (L' := [(12, .long (lN (sStr B pull gives i) - lN (1000 * sPl B i))), (11, .ref (q.2.2 (15 + i))), (0, .ref (q.2.2 9)), (1, .long (lN pull)), (3, .long (lN gives)), (5, wv), (6, .long (lN ((sBk B (sAb B (sPl B) pull gives) i).2))), (8, .ref (q.2.2 11)), (9, .int (nI 12)), (10, .int (nI i))]) rfl ?_
          refine g_lload hC (gDec_at DX0_breakingPlace_0 35 rfl) rfl ?_
          refine g_lload hC (gDec_at DX0_breakingPlace_0 36 rfl) rfl ?_
          refine g_lc_le hC (gDec_at DX0_breakingPlace_0 37 rfl) (gDec_at DX0_breakingPlace_0 38 rfl) 80 (by decide) (fun h68 => ?_) (fun h68 => ?_)
          · skip
            have h68n : sStr B pull gives i - 1000 * sPl B i ≤ (sBk B (sAb B (sPl B) pull gives) i).2 := (lsub_le (by omega) (by omega) (by omega)).mp h68
            refine g_iincN hC (gDec_at DX0_breakingPlace_0 43 rfl) rfl (by decide) (L' := [(10, .int (nI (i + 1))), (12, .long (lN (sStr B pull gives i) - lN (1000 * sPl B i))), (11, .ref (q.2.2 (15 + i))), (0, .ref (q.2.2 9)), (1, .long (lN pull)), (3, .long (lN gives)), (5, wv), (6, .long (lN ((sBk B (sAb B (sPl B) pull gives) i).2))), (8, .ref (q.2.2 11)), (9, .int (nI 12))]) rfl ?_
            refine g_goto hC (gDec_at DX0_breakingPlace_0 44 rfl) 20 (by decide) ?_
            refine g_sub [3, 4, 5, 6, 7, 8, 9, 0] (L' := [(0, .ref (q.2.2 9)), (1, .long (lN pull)), (3, .long (lN gives)), (5, wv), (6, .long (lN ((sBk B (sAb B (sPl B) pull gives) i).2))), (8, .ref (q.2.2 11)), (9, .int (nI 12)), (10, .int (nI (i + 1)))]) rfl ?_
            have e9 : (sBk B (sAb B (sPl B) pull gives) (i + 1)) = (sBk B (sAb B (sPl B) pull gives) i) := if_neg (fun z => by have z2 : (sBk B (sAb B (sPl B) pull gives) i).2 < sStr B pull gives i - 1000 * sPl B i := z.2; omega)
            have h9 := ih (i + 1) wv (by omega) (by omega) (by rw [e9]; exact hf)
            rw [e9] at h9
            exact h9
          · skip
            have h68n : (sBk B (sAb B (sPl B) pull gives) i).2 < sStr B pull gives i - 1000 * sPl B i := Nat.lt_of_not_le (fun z => h68 ((lsub_le (by omega) (by omega) (by omega)).mpr z))
            rw [lN_sub (show 1000 * sPl B i ≤ sStr B pull gives i from by omega)]
            refine g_sub [0, 1, 2, 3, 4, 6, 7, 8, 9] (L' := [(12, .long (lN (sStr B pull gives i - 1000 * sPl B i))), (11, .ref (q.2.2 (15 + i))), (0, .ref (q.2.2 9)), (1, .long (lN pull)), (3, .long (lN gives)), (6, .long (lN ((sBk B (sAb B (sPl B) pull gives) i).2))), (8, .ref (q.2.2 11)), (9, .int (nI 12)), (10, .int (nI i))]) rfl ?_
            refine g_lload hC (gDec_at DX0_breakingPlace_0 39 rfl) rfl ?_
            refine g_lstore hC (gDec_at DX0_breakingPlace_0 40 rfl) (by decide) (L' := [(6, .long (lN (sStr B pull gives i - 1000 * sPl B i))), (12, .long (lN (sStr B pull gives i - 1000 * sPl B i))), (11, .ref (q.2.2 (15 + i))), (0, .ref (q.2.2 9)), (1, .long (lN pull)), (3, .long (lN gives)), (8, .ref (q.2.2 11)), (9, .int (nI 12)), (10, .int (nI i))]) rfl ?_
            refine g_aload hC (gDec_at DX0_breakingPlace_0 41 rfl) rfl ?_
            refine g_astore hC (gDec_at DX0_breakingPlace_0 42 rfl) (by decide) (L' := [(5, .ref (q.2.2 (15 + i))), (6, .long (lN (sStr B pull gives i - 1000 * sPl B i))), (12, .long (lN (sStr B pull gives i - 1000 * sPl B i))), (11, .ref (q.2.2 (15 + i))), (0, .ref (q.2.2 9)), (1, .long (lN pull)), (3, .long (lN gives)), (8, .ref (q.2.2 11)), (9, .int (nI 12)), (10, .int (nI i))]) rfl ?_
            refine g_iincN hC (gDec_at DX0_breakingPlace_0 43 rfl) rfl (by decide) (L' := [(10, .int (nI (i + 1))), (5, .ref (q.2.2 (15 + i))), (6, .long (lN (sStr B pull gives i - 1000 * sPl B i))), (12, .long (lN (sStr B pull gives i - 1000 * sPl B i))), (11, .ref (q.2.2 (15 + i))), (0, .ref (q.2.2 9)), (1, .long (lN pull)), (3, .long (lN gives)), (8, .ref (q.2.2 11)), (9, .int (nI 12))]) rfl ?_
            refine g_goto hC (gDec_at DX0_breakingPlace_0 44 rfl) 20 (by decide) ?_
            refine g_sub [5, 6, 7, 1, 2, 8, 9, 0] (L' := [(0, .ref (q.2.2 9)), (1, .long (lN pull)), (3, .long (lN gives)), (5, .ref (q.2.2 (15 + i))), (6, .long (lN (sStr B pull gives i - 1000 * sPl B i))), (8, .ref (q.2.2 11)), (9, .int (nI 12)), (10, .int (nI (i + 1)))]) rfl ?_
            have e9 : (sBk B (sAb B (sPl B) pull gives) (i + 1)) = (i + 1, (sAb B (sPl B) pull gives) i) := if_pos ⟨h40, by show _ < sStr B pull gives i - 1000 * sPl B i; omega⟩
            have h9 := ih (i + 1) (.ref (q.2.2 (15 + i))) (by omega) (by omega) (Or.inr ⟨i, by rw [e9], rfl⟩)
            rw [e9] at h9
            exact h9
  exact g_sub [5, 6, 7, 4, 3, 2, 1, 0] rfl (loop20 (12 + 1 - 0) 0 .null (by omega) (by omega) (Or.inl ⟨rfl, rfl⟩))

set_option maxRecDepth 100000 in
set_option maxHeartbeats 4000000 in
theorem c_X0_breakingPlace (q : gQ3) {M : gM} {B : gB} (hI : cI M B) {pull gives : Nat} (hp : pull ≤ 80000000) (hg : gives ≤ 432000000000) {j : Nat} (hk : (sBk B (sAb B (sPl B) pull gives) 12).1 = j + 1) : gCt (wC q) yX0_breakingPlace cX0_breakingPlace 14 (some (.object "BowBend$Place")) 2 [.ref (q.2.2 9), .long (lN pull), .long (lN gives)] M (gR (some (.ref (q.2.2 (15 + j)))) M) := by
  refine gMet RX0 (by decide +kernel) rfl (Nat.le_of_ble_eq_true rfl) (fun X hC => ?_)
  have hC : gC X (wC q) cX0_breakingPlace 14 RX0 (some (.object "BowBend$Place")) 2 := hC
  show gG X (wC q) _ 14 M 0 [(0, .ref (q.2.2 9)), (1, .long (lN pull)), (3, .long (lN gives))] []
  have hm := bv_many hI.2.2
  have hst := fun j => sStr_le B j (gives := gives) hp
  have hbd := fun n => sBk_bd (B := B) (a := (sAb B (sPl B) pull gives)) (c := 480000000000000) (fun j => by have := hst j; unfold sAb; omega) n
  refine g_null hC (gDec_at DX0_breakingPlace_0 0 rfl) ?_
  refine g_astoreN hC (gDec_at DX0_breakingPlace_0 1 rfl) (by decide) (L' := [(5, .null), (0, .ref (q.2.2 9)), (1, .long (lN pull)), (3, .long (lN gives))]) rfl ?_
  refine g_lconst hC (gDec_at DX0_breakingPlace_0 2 rfl) (v := lN 0) (by decide) ?_
  refine g_lstore hC (gDec_at DX0_breakingPlace_0 3 rfl) (by decide) (L' := [(6, .long (lN 0)), (5, .null), (0, .ref (q.2.2 9)), (1, .long (lN pull)), (3, .long (lN gives))]) rfl ?_
  refine g_aload_n hC (gDec_at DX0_breakingPlace_0 4 rfl) rfl ?_
  refine g_get (w := wC q) hC 9 (v := .ref (q.2.2 11)) fl_X0_22 (show 9 < 63 from by decide) rfl rfl (gDec_at DX0_breakingPlace_0 5 rfl) ?_
  refine g_astore hC (gDec_at DX0_breakingPlace_0 6 rfl) (by decide) (L' := [(8, .ref (q.2.2 11)), (6, .long (lN 0)), (5, .null), (0, .ref (q.2.2 9)), (1, .long (lN pull)), (3, .long (lN gives))]) rfl ?_
  refine g_aload hC (gDec_at DX0_breakingPlace_0 7 rfl) rfl ?_
  refine g_alen (w := wC q) hC 11 3 (show 11 < 63 from by decide) rfl rfl (gDec_at DX0_breakingPlace_0 8 rfl) ?_
  refine g_istore hC (gDec_at DX0_breakingPlace_0 9 rfl) (by decide) (L' := [(9, .int (nI 12)), (8, .ref (q.2.2 11)), (6, .long (lN 0)), (5, .null), (0, .ref (q.2.2 9)), (1, .long (lN pull)), (3, .long (lN gives))]) rfl ?_
  refine g_iconst hC (gDec_at DX0_breakingPlace_0 10 rfl) (v := nI 0) (by decide) ?_
  refine g_istore hC (gDec_at DX0_breakingPlace_0 11 rfl) (by decide) (L' := [(10, .int (nI 0)), (9, .int (nI 12)), (8, .ref (q.2.2 11)), (6, .long (lN 0)), (5, .null), (0, .ref (q.2.2 9)), (1, .long (lN pull)), (3, .long (lN gives))]) rfl ?_
  have loop20 : ∀ (fu i : Nat) (wv : Value), i ≤ 12 → 12 - i < fu → bkP q (sBk B (sAb B (sPl B) pull gives) i).1 wv → gG X (wC q) (gR (some (.ref (q.2.2 (15 + j)))) M) 14 M 20 [(0, .ref (q.2.2 9)), (1, .long (lN pull)), (3, .long (lN gives)), (5, wv), (6, .long (lN ((sBk B (sAb B (sPl B) pull gives) i).2))), (8, .ref (q.2.2 11)), (9, .int (nI 12)), (10, .int (nI i))] [] := by
    intro fu; induction fu with
    | zero => intro i wv h1 h2; omega
    | succ fu ih =>
      intro i wv hi hfu hf
      have hsi := hst i
      have hbi := hbd i
      refine g_iload hC (gDec_at DX0_breakingPlace_0 12 rfl) rfl ?_
      refine g_iload hC (gDec_at DX0_breakingPlace_0 13 rfl) rfl ?_
      refine g_icmp_geN hC (by omega) (by omega) (gDec_at DX0_breakingPlace_0 14 rfl) 86 (by decide) (fun h24 => ?_) (fun h24 => ?_)
      · skip
        obtain rfl : i = 12 := by omega
        rcases hf with ⟨hz, rfl⟩ | ⟨k, hz, rfl⟩
        · skip
          exact absurd hk (by omega)
        · skip
          obtain rfl : k = j := by omega
          refine g_aload hC (gDec_at DX0_breakingPlace_0 45 rfl) rfl ?_
          refine g_aret hC (Or.inr ⟨_, rfl⟩) (gDec_at DX0_breakingPlace_0 46 rfl) ?_
          exact ⟨rfl, rfl⟩
      · skip
        refine g_aload hC (gDec_at DX0_breakingPlace_0 15 rfl) rfl ?_
        refine g_iload hC (gDec_at DX0_breakingPlace_0 16 rfl) rfl ?_
        refine g_aald (w := wC q) hC 11 3 i (a := q.2.2 (15 + i)) (show 11 < 63 from by decide) rfl rfl (by omega) (by decide) rfl (gDec_at DX0_breakingPlace_0 17 rfl) ?_
        refine g_astore hC (gDec_at DX0_breakingPlace_0 18 rfl) (by decide) (L' := [(11, .ref (q.2.2 (15 + i))), (0, .ref (q.2.2 9)), (1, .long (lN pull)), (3, .long (lN gives)), (5, wv), (6, .long (lN ((sBk B (sAb B (sPl B) pull gives) i).2))), (8, .ref (q.2.2 11)), (9, .int (nI 12)), (10, .int (nI i))]) rfl ?_
        refine g_aload_n hC (gDec_at DX0_breakingPlace_0 19 rfl) rfl ?_
        refine g_aload hC (gDec_at DX0_breakingPlace_0 20 rfl) rfl ?_
        refine g_callVd (w := wC q) hC 9 (c_X0_has q hI (by omega)) vf_X0_has ml_X0_42 (by decide) (show 9 < 63 from by decide) rfl rfl rfl rfl rfl (Nat.le_of_ble_eq_true rfl) (gDec_at DX0_breakingPlace_0 21 rfl) ?_
        refine g_if_eqB hC (gDec_at DX0_breakingPlace_0 22 rfl) 80 (by decide) (fun h40 => ?_) (fun h40 => ?_)
        · skip
          refine g_iincN hC (gDec_at DX0_breakingPlace_0 43 rfl) rfl (by decide) (L' := [(10, .int (nI (i + 1))), (11, .ref (q.2.2 (15 + i))), (0, .ref (q.2.2 9)), (1, .long (lN pull)), (3, .long (lN gives)), (5, wv), (6, .long (lN ((sBk B (sAb B (sPl B) pull gives) i).2))), (8, .ref (q.2.2 11)), (9, .int (nI 12))]) rfl ?_
          refine g_goto hC (gDec_at DX0_breakingPlace_0 44 rfl) 20 (by decide) ?_
          refine g_sub [2, 3, 4, 5, 6, 7, 8, 0] (L' := [(0, .ref (q.2.2 9)), (1, .long (lN pull)), (3, .long (lN gives)), (5, wv), (6, .long (lN ((sBk B (sAb B (sPl B) pull gives) i).2))), (8, .ref (q.2.2 11)), (9, .int (nI 12)), (10, .int (nI (i + 1)))]) rfl ?_
          have e9 : (sBk B (sAb B (sPl B) pull gives) (i + 1)) = (sBk B (sAb B (sPl B) pull gives) i) := if_neg (fun z => h40 z.1)
          have h9 := ih (i + 1) wv (by omega) (by omega) (by rw [e9]; exact hf)
          rw [e9] at h9
          exact h9
        · skip
          have hpl := sPl_le hI.2.2 (by omega : i < 12) h40
          refine g_aload_n hC (gDec_at DX0_breakingPlace_0 23 rfl) rfl ?_
          refine g_aload hC (gDec_at DX0_breakingPlace_0 24 rfl) rfl ?_
          refine g_lload_n hC (gDec_at DX0_breakingPlace_0 25 rfl) rfl ?_
          refine g_lload_n hC (gDec_at DX0_breakingPlace_0 26 rfl) rfl ?_
          refine g_callVd (w := wC q) hC 9 (c_X0_strainOf q hI (by omega) (by omega) (pull := pull) (gives := gives) (by omega) (by omega)) vf_X0_strainOf ml_X0_132 (by decide) (show 9 < 63 from by decide) rfl rfl rfl rfl rfl (Nat.le_of_ble_eq_true rfl) (gDec_at DX0_breakingPlace_0 27 rfl) ?_
          refine g_ldc2 hC cl_X0_136 (v' := lN 1000) (by decide) (gDec_at DX0_breakingPlace_0 28 rfl) ?_
          refine g_aload_n hC (gDec_at DX0_breakingPlace_0 29 rfl) rfl ?_
          refine g_aload hC (gDec_at DX0_breakingPlace_0 30 rfl) rfl ?_
          refine g_callVd (w := wC q) hC 9 (c_X0_pullLineOf q hI (by omega) (by omega)) vf_X0_pullLineOf ml_X0_138 (by decide) (show 9 < 63 from by decide) rfl rfl rfl rfl rfl (Nat.le_of_ble_eq_true rfl) (gDec_at DX0_breakingPlace_0 31 rfl) ?_
          refine g_lmulN hC (gDec_at DX0_breakingPlace_0 32 rfl) ?_
          refine g_lsub hC (gDec_at DX0_breakingPlace_0 33 rfl) (v := (lN (sStr B pull gives i) - lN (1000 * sPl B i))) rfl ?_
          refine g_lstore hC (gDec_at DX0_breakingPlace_0 34 rfl) (by decide) (L' := [(12, .long (lN (sStr B pull gives i) - lN (1000 * sPl B i))), (11, .ref (q.2.2 (15 + i))), (0, .ref (q.2.2 9)), (1, .long (lN pull)), (3, .long (lN gives)), (5, wv), (6, .long (lN ((sBk B (sAb B (sPl B) pull gives) i).2))), (8, .ref (q.2.2 11)), (9, .int (nI 12)), (10, .int (nI i))]) rfl ?_
          refine g_lload hC (gDec_at DX0_breakingPlace_0 35 rfl) rfl ?_
          refine g_lload hC (gDec_at DX0_breakingPlace_0 36 rfl) rfl ?_
          refine g_lc_le hC (gDec_at DX0_breakingPlace_0 37 rfl) (gDec_at DX0_breakingPlace_0 38 rfl) 80 (by decide) (fun h68 => ?_) (fun h68 => ?_)
          · skip
            have h68n : sStr B pull gives i - 1000 * sPl B i ≤ (sBk B (sAb B (sPl B) pull gives) i).2 := (lsub_le (by omega) (by omega) (by omega)).mp h68
            refine g_iincN hC (gDec_at DX0_breakingPlace_0 43 rfl) rfl (by decide) (L' := [(10, .int (nI (i + 1))), (12, .long (lN (sStr B pull gives i) - lN (1000 * sPl B i))), (11, .ref (q.2.2 (15 + i))), (0, .ref (q.2.2 9)), (1, .long (lN pull)), (3, .long (lN gives)), (5, wv), (6, .long (lN ((sBk B (sAb B (sPl B) pull gives) i).2))), (8, .ref (q.2.2 11)), (9, .int (nI 12))]) rfl ?_
            refine g_goto hC (gDec_at DX0_breakingPlace_0 44 rfl) 20 (by decide) ?_
            refine g_sub [3, 4, 5, 6, 7, 8, 9, 0] (L' := [(0, .ref (q.2.2 9)), (1, .long (lN pull)), (3, .long (lN gives)), (5, wv), (6, .long (lN ((sBk B (sAb B (sPl B) pull gives) i).2))), (8, .ref (q.2.2 11)), (9, .int (nI 12)), (10, .int (nI (i + 1)))]) rfl ?_
            have e9 : (sBk B (sAb B (sPl B) pull gives) (i + 1)) = (sBk B (sAb B (sPl B) pull gives) i) := if_neg (fun z => by have z2 : (sBk B (sAb B (sPl B) pull gives) i).2 < sStr B pull gives i - 1000 * sPl B i := z.2; omega)
            have h9 := ih (i + 1) wv (by omega) (by omega) (by rw [e9]; exact hf)
            rw [e9] at h9
            exact h9
          · skip
            have h68n : (sBk B (sAb B (sPl B) pull gives) i).2 < sStr B pull gives i - 1000 * sPl B i := Nat.lt_of_not_le (fun z => h68 ((lsub_le (by omega) (by omega) (by omega)).mpr z))
            rw [lN_sub (show 1000 * sPl B i ≤ sStr B pull gives i from by omega)]
            refine g_sub [0, 1, 2, 3, 4, 6, 7, 8, 9] (L' := [(12, .long (lN (sStr B pull gives i - 1000 * sPl B i))), (11, .ref (q.2.2 (15 + i))), (0, .ref (q.2.2 9)), (1, .long (lN pull)), (3, .long (lN gives)), (6, .long (lN ((sBk B (sAb B (sPl B) pull gives) i).2))), (8, .ref (q.2.2 11)), (9, .int (nI 12)), (10, .int (nI i))]) rfl ?_
            refine g_lload hC (gDec_at DX0_breakingPlace_0 39 rfl) rfl ?_
            refine g_lstore hC (gDec_at DX0_breakingPlace_0 40 rfl) (by decide) (L' := [(6, .long (lN (sStr B pull gives i - 1000 * sPl B i))), (12, .long (lN (sStr B pull gives i - 1000 * sPl B i))), (11, .ref (q.2.2 (15 + i))), (0, .ref (q.2.2 9)), (1, .long (lN pull)), (3, .long (lN gives)), (8, .ref (q.2.2 11)), (9, .int (nI 12)), (10, .int (nI i))]) rfl ?_
            refine g_aload hC (gDec_at DX0_breakingPlace_0 41 rfl) rfl ?_
            refine g_astore hC (gDec_at DX0_breakingPlace_0 42 rfl) (by decide) (L' := [(5, .ref (q.2.2 (15 + i))), (6, .long (lN (sStr B pull gives i - 1000 * sPl B i))), (12, .long (lN (sStr B pull gives i - 1000 * sPl B i))), (11, .ref (q.2.2 (15 + i))), (0, .ref (q.2.2 9)), (1, .long (lN pull)), (3, .long (lN gives)), (8, .ref (q.2.2 11)), (9, .int (nI 12)), (10, .int (nI i))]) rfl ?_
            refine g_iincN hC (gDec_at DX0_breakingPlace_0 43 rfl) rfl (by decide) (L' := [(10, .int (nI (i + 1))), (5, .ref (q.2.2 (15 + i))), (6, .long (lN (sStr B pull gives i - 1000 * sPl B i))), (12, .long (lN (sStr B pull gives i - 1000 * sPl B i))), (11, .ref (q.2.2 (15 + i))), (0, .ref (q.2.2 9)), (1, .long (lN pull)), (3, .long (lN gives)), (8, .ref (q.2.2 11)), (9, .int (nI 12))]) rfl ?_
            refine g_goto hC (gDec_at DX0_breakingPlace_0 44 rfl) 20 (by decide) ?_
            refine g_sub [5, 6, 7, 1, 2, 8, 9, 0] (L' := [(0, .ref (q.2.2 9)), (1, .long (lN pull)), (3, .long (lN gives)), (5, .ref (q.2.2 (15 + i))), (6, .long (lN (sStr B pull gives i - 1000 * sPl B i))), (8, .ref (q.2.2 11)), (9, .int (nI 12)), (10, .int (nI (i + 1)))]) rfl ?_
            have e9 : (sBk B (sAb B (sPl B) pull gives) (i + 1)) = (i + 1, (sAb B (sPl B) pull gives) i) := if_pos ⟨h40, by show _ < sStr B pull gives i - 1000 * sPl B i; omega⟩
            have h9 := ih (i + 1) (.ref (q.2.2 (15 + i))) (by omega) (by omega) (Or.inr ⟨i, by rw [e9], rfl⟩)
            rw [e9] at h9
            exact h9
  exact g_sub [5, 6, 7, 4, 3, 2, 1, 0] rfl (loop20 (12 + 1 - 0) 0 .null (by omega) (by omega) (Or.inl ⟨rfl, rfl⟩))

def tkB (B : gB) (a : Nat → Nat) (n : Nat) : gB := fun r j => if r = 3 ∧ j < n ∧ j % 6 < B 9 0 then min 99 (B 3 j + (a j + 999) / 1000) else B r j
theorem tkB_0 (B : gB) (a : Nat → Nat) : tkB B a 0 = B := by
  funext r j; unfold tkB; rw [if_neg (by omega)]
theorem tkB_s {B : gB} (hV : bV B) {a : Nat → Nat} {n v : Nat} (hn : n < 12) (hv : n % 6 < B 9 0 → v = min 99 (B 3 n + (a n + 999) / 1000)) (ht : n % 6 < B 9 0) : upB (tkB B a n) 3 n v = tkB B a (n + 1) := by
  funext r j
  unfold upB tkB
  by_cases h : r = 3 ∧ j = n
  · obtain ⟨rfl, rfl⟩ := h
    rw [if_pos ⟨rfl, rfl⟩, if_pos ⟨rfl, by omega, ht⟩, hv ht]
  · rw [if_neg h]
    by_cases h2 : r = 3 ∧ j < n ∧ j % 6 < B 9 0
    · rw [if_pos h2, if_pos ⟨h2.1, by omega, h2.2.2⟩]
    · rw [if_neg h2, if_neg (by omega)]
theorem tkB_k {B : gB} (hV : bV B) {a : Nat → Nat} {n : Nat} (hn : n < 12) (h0 : n % 6 < B 9 0 → a n = 0) : tkB B a (n + 1) = tkB B a n := by
  funext r j
  unfold tkB
  by_cases h : r = 3 ∧ j = n
  · obtain ⟨rfl, rfl⟩ := h
    by_cases ht : j % 6 < B 9 0
    · have h3 := bv_f3 hV hn ht
      rw [if_pos ⟨rfl, by omega, ht⟩, if_neg (by omega), h0 ht]
      omega
    · rw [if_neg (by omega), if_neg (by omega)]
  · by_cases h2 : r = 3 ∧ j < n ∧ j % 6 < B 9 0
    · rw [if_pos h2, if_pos ⟨h2.1, by omega, h2.2.2⟩]
    · rw [if_neg h2, if_neg (by omega)]
theorem tkB_i (B : gB) (a : Nat → Nat) (n : Nat) : tkB B a n 3 n = B 3 n := by
  unfold tkB; rw [if_neg (by omega)]
theorem tkB_V {B : gB} (hV : bV B) (a : Nat → Nat) (n : Nat) : bV (tkB B a n) := by
  obtain ⟨h1, h2, h3, h4, h5⟩ := hV
  refine ⟨h1, h2, h3, h4, fun j hj ht => ?_⟩
  obtain ⟨a0, a1, a2, a3, a4, a5⟩ := h5 j hj ht
  refine ⟨a0, a1, a2, ?_, a4, a5⟩
  show (if 3 = 3 ∧ j < n ∧ j % 6 < B 9 0 then min 99 (B 3 j + (a j + 999) / 1000) else B 3 j) ≤ 99
  split <;> omega
def sTkN (B : gB) (a : Nat → Nat) (n : Nat) : Nat := gsm (fun j => if j % 6 < B 9 0 ∧ 0 < a j then 1 else 0) n
set_option maxRecDepth 100000 in
set_option maxHeartbeats 4000000 in
theorem c_X0_takeSets (q : gQ3) {M : gM} {B : gB} (hI : cI M B) {pull gives : Nat} (hp : pull ≤ 80000000) (hg : gives ≤ 432000000000) : gCt (wC q) yX0_takeSets cX0_takeSets 12 (some .int) 2 [.ref (q.2.2 9), .long (lN pull), .long (lN gives)] M (fun v M' => v = some (.int (nI (sTkN B (sAb B (sPr B) pull gives) 12))) ∧ cI M' (tkB B (sAb B (sPr B) pull gives) 12) ∧ sameO (fun i => 15 ≤ i ∧ i < 27) M M') := by
  refine gMet RX0 (by decide +kernel) rfl (Nat.le_of_ble_eq_true rfl) (fun X hC => ?_)
  have hC : gC X (wC q) cX0_takeSets 12 RX0 (some .int) 2 := hC
  show gG X (wC q) _ 12 M 0 [(0, .ref (q.2.2 9)), (1, .long (lN pull)), (3, .long (lN gives))] []
  have hm := bv_many hI.2.2
  have hst := fun j => sStr_le B j (gives := gives) hp
  refine g_iconst hC (gDec_at DX0_takeSets_0 0 rfl) (v := nI 0) (by decide) ?_
  refine g_istore hC (gDec_at DX0_takeSets_0 1 rfl) (by decide) (L' := [(5, .int (nI 0)), (0, .ref (q.2.2 9)), (1, .long (lN pull)), (3, .long (lN gives))]) rfl ?_
  refine g_aload_n hC (gDec_at DX0_takeSets_0 2 rfl) rfl ?_
  refine g_get (w := wC q) hC 9 (v := .ref (q.2.2 11)) fl_X0_22 (show 9 < 63 from by decide) rfl rfl (gDec_at DX0_takeSets_0 3 rfl) ?_
  refine g_astore hC (gDec_at DX0_takeSets_0 4 rfl) (by decide) (L' := [(6, .ref (q.2.2 11)), (5, .int (nI 0)), (0, .ref (q.2.2 9)), (1, .long (lN pull)), (3, .long (lN gives))]) rfl ?_
  refine g_aload hC (gDec_at DX0_takeSets_0 5 rfl) rfl ?_
  refine g_alen (w := wC q) hC 11 3 (show 11 < 63 from by decide) rfl rfl (gDec_at DX0_takeSets_0 6 rfl) ?_
  refine g_istore hC (gDec_at DX0_takeSets_0 7 rfl) (by decide) (L' := [(7, .int (nI 12)), (6, .ref (q.2.2 11)), (5, .int (nI 0)), (0, .ref (q.2.2 9)), (1, .long (lN pull)), (3, .long (lN gives))]) rfl ?_
  refine g_iconst hC (gDec_at DX0_takeSets_0 8 rfl) (v := nI 0) (by decide) ?_
  refine g_istore hC (gDec_at DX0_takeSets_0 9 rfl) (by decide) (L' := [(8, .int (nI 0)), (7, .int (nI 12)), (6, .ref (q.2.2 11)), (5, .int (nI 0)), (0, .ref (q.2.2 9)), (1, .long (lN pull)), (3, .long (lN gives))]) rfl ?_
  have loop17 : ∀ (fu i : Nat) (M1 : gM), i ≤ 12 → 12 - i < fu → cI M1 (tkB B (sAb B (sPr B) pull gives) i) → sameO (fun i => 15 ≤ i ∧ i < 27) M M1 → gG X (wC q) (fun v M' => v = some (.int (nI (sTkN B (sAb B (sPr B) pull gives) 12))) ∧ cI M' (tkB B (sAb B (sPr B) pull gives) 12) ∧ sameO (fun i => 15 ≤ i ∧ i < 27) M M') 12 M1 17 [(0, .ref (q.2.2 9)), (1, .long (lN pull)), (3, .long (lN gives)), (5, .int (nI (sTkN B (sAb B (sPr B) pull gives) i))), (6, .ref (q.2.2 11)), (7, .int (nI 12)), (8, .int (nI i))] [] := by
    intro fu; induction fu with
    | zero => intro i M1 h1 h2; omega
    | succ fu ih =>
      intro i M1 hi hfu hI1 hs1
      have hsi := hst i
      refine g_iload hC (gDec_at DX0_takeSets_0 10 rfl) rfl ?_
      refine g_iload hC (gDec_at DX0_takeSets_0 11 rfl) rfl ?_
      refine g_icmp_geN hC (by omega) (by omega) (gDec_at DX0_takeSets_0 12 rfl) 106 (by decide) (fun h21 => ?_) (fun h21 => ?_)
      · skip
        obtain rfl : i = 12 := by omega
        refine g_iload hC (gDec_at DX0_takeSets_0 54 rfl) rfl ?_
        refine g_iret hC (gDec_at DX0_takeSets_0 55 rfl) ?_
        exact ⟨rfl, hI1, hs1⟩
      · skip
        refine g_aload hC (gDec_at DX0_takeSets_0 13 rfl) rfl ?_
        refine g_iload hC (gDec_at DX0_takeSets_0 14 rfl) rfl ?_
        refine g_aald (w := wC q) hC 11 3 i (a := q.2.2 (15 + i)) (show 11 < 63 from by decide) rfl rfl (by omega) (by decide) rfl (gDec_at DX0_takeSets_0 15 rfl) ?_
        refine g_astore hC (gDec_at DX0_takeSets_0 16 rfl) (by decide) (L' := [(9, .ref (q.2.2 (15 + i))), (0, .ref (q.2.2 9)), (1, .long (lN pull)), (3, .long (lN gives)), (5, .int (nI (sTkN B (sAb B (sPr B) pull gives) i))), (6, .ref (q.2.2 11)), (7, .int (nI 12)), (8, .int (nI i))]) rfl ?_
        refine g_aload_n hC (gDec_at DX0_takeSets_0 17 rfl) rfl ?_
        refine g_aload hC (gDec_at DX0_takeSets_0 18 rfl) rfl ?_
        refine g_callVd (w := wC q) hC 9 (c_X0_has q hI1 (by omega)) vf_X0_has ml_X0_42 (by decide) (show 9 < 63 from by decide) rfl rfl rfl rfl rfl (Nat.le_of_ble_eq_true rfl) (gDec_at DX0_takeSets_0 19 rfl) ?_
        refine g_if_eqB hC (gDec_at DX0_takeSets_0 20 rfl) 100 (by decide) (fun h37 => ?_) (fun h37 => ?_)
        · skip
          have h37 : ¬ i % 6 < B 9 0 := h37
          refine g_iincN hC (gDec_at DX0_takeSets_0 52 rfl) rfl (by decide) (L' := [(8, .int (nI (i + 1))), (9, .ref (q.2.2 (15 + i))), (0, .ref (q.2.2 9)), (1, .long (lN pull)), (3, .long (lN gives)), (5, .int (nI (sTkN B (sAb B (sPr B) pull gives) i))), (6, .ref (q.2.2 11)), (7, .int (nI 12))]) rfl ?_
          refine g_goto hC (gDec_at DX0_takeSets_0 53 rfl) 17 (by decide) ?_
          refine g_sub [2, 3, 4, 5, 6, 7, 0] (L' := [(0, .ref (q.2.2 9)), (1, .long (lN pull)), (3, .long (lN gives)), (5, .int (nI (sTkN B (sAb B (sPr B) pull gives) i))), (6, .ref (q.2.2 11)), (7, .int (nI 12)), (8, .int (nI (i + 1)))]) rfl ?_
          have h9 := ih (i + 1) M1 (by omega) (by omega) (by rw [tkB_k hI.2.2 (by omega) (fun z => absurd z h37)]; exact hI1) (hs1)
          rw [show sTkN B (sAb B (sPr B) pull gives) (i + 1) = sTkN B (sAb B (sPr B) pull gives) i from gsm_s0 (if_neg (fun z => h37 z.1))] at h9
          exact h9
        · skip
          have h37 : i % 6 < B 9 0 := h37
          have hpr := sPr_le hI.2.2 (by omega : i < 12) h37
          have hs3 := bv_f3 hI.2.2 (by omega : i < 12) h37
          have e3 := tkB_i B (sAb B (sPr B) pull gives) i
          refine g_aload_n hC (gDec_at DX0_takeSets_0 21 rfl) rfl ?_
          refine g_aload hC (gDec_at DX0_takeSets_0 22 rfl) rfl ?_
          refine g_lload_n hC (gDec_at DX0_takeSets_0 23 rfl) rfl ?_
          refine g_lload_n hC (gDec_at DX0_takeSets_0 24 rfl) rfl ?_
          refine g_callVd (w := wC q) hC 9 (c_X0_strainOf q hI1 (by omega) (by omega) (pull := pull) (gives := gives) (by omega) (by omega)) vf_X0_strainOf ml_X0_132 (by decide) (show 9 < 63 from by decide) rfl rfl rfl rfl rfl (Nat.le_of_ble_eq_true rfl) (gDec_at DX0_takeSets_0 25 rfl) ?_
          refine g_ldc2 hC cl_X0_136 (v' := lN 1000) (by decide) (gDec_at DX0_takeSets_0 26 rfl) ?_
          refine g_aload_n hC (gDec_at DX0_takeSets_0 27 rfl) rfl ?_
          refine g_aload hC (gDec_at DX0_takeSets_0 28 rfl) rfl ?_
          refine g_callVd (w := wC q) hC 9 (c_X0_pressLineOf q hI1 (by omega) (by omega)) vf_X0_pressLineOf ml_X0_141 (by decide) (show 9 < 63 from by decide) rfl rfl rfl rfl rfl (Nat.le_of_ble_eq_true rfl) (gDec_at DX0_takeSets_0 29 rfl) ?_
          refine g_lmulN hC (gDec_at DX0_takeSets_0 30 rfl) ?_
          refine g_lsub hC (gDec_at DX0_takeSets_0 31 rfl) (v := (lN (sStr B pull gives i) - lN (1000 * sPr B i))) rfl ?_
          refine g_lstore hC (gDec_at DX0_takeSets_0 32 rfl) (by decide) (L' := [(10, .long (lN (sStr B pull gives i) - lN (1000 * sPr B i))), (9, .ref (q.2.2 (15 + i))), (0, .ref (q.2.2 9)), (1, .long (lN pull)), (3, .long (lN gives)), (5, .int (nI (sTkN B (sAb B (sPr B) pull gives) i))), (6, .ref (q.2.2 11)), (7, .int (nI 12)), (8, .int (nI i))]) rfl ?_
          refine g_lload hC (gDec_at DX0_takeSets_0 33 rfl) rfl ?_
          refine g_lconst hC (gDec_at DX0_takeSets_0 34 rfl) (v := lN 0) (by decide) ?_
          refine g_lc_le hC (gDec_at DX0_takeSets_0 35 rfl) (gDec_at DX0_takeSets_0 36 rfl) 100 (by decide) (fun h64 => ?_) (fun h64 => ?_)
          · skip
            have h64n : sStr B pull gives i - 1000 * sPr B i ≤ 0 := (lsub_le (by omega) (by omega) (m := 0) (by omega)).mp h64
            refine g_iincN hC (gDec_at DX0_takeSets_0 52 rfl) rfl (by decide) (L' := [(8, .int (nI (i + 1))), (10, .long (lN (sStr B pull gives i) - lN (1000 * sPr B i))), (9, .ref (q.2.2 (15 + i))), (0, .ref (q.2.2 9)), (1, .long (lN pull)), (3, .long (lN gives)), (5, .int (nI (sTkN B (sAb B (sPr B) pull gives) i))), (6, .ref (q.2.2 11)), (7, .int (nI 12))]) rfl ?_
            refine g_goto hC (gDec_at DX0_takeSets_0 53 rfl) 17 (by decide) ?_
            refine g_sub [3, 4, 5, 6, 7, 8, 0] (L' := [(0, .ref (q.2.2 9)), (1, .long (lN pull)), (3, .long (lN gives)), (5, .int (nI (sTkN B (sAb B (sPr B) pull gives) i))), (6, .ref (q.2.2 11)), (7, .int (nI 12)), (8, .int (nI (i + 1)))]) rfl ?_
            have h9 := ih (i + 1) M1 (by omega) (by omega) (by rw [tkB_k hI.2.2 (by omega) (fun _ => by show sStr B pull gives i - 1000 * sPr B i = 0; omega)]; exact hI1) (hs1)
            rw [show sTkN B (sAb B (sPr B) pull gives) (i + 1) = sTkN B (sAb B (sPr B) pull gives) i from gsm_s0 (if_neg (fun z => by have z2 : 0 < sStr B pull gives i - 1000 * sPr B i := z.2; omega))] at h9
            exact h9
          · skip
            have h64n : 0 < sStr B pull gives i - 1000 * sPr B i := Nat.lt_of_not_le (fun z => h64 ((lsub_le (by omega) (by omega) (m := 0) (by omega)).mpr z))
            rw [lN_sub (show 1000 * sPr B i ≤ sStr B pull gives i from by omega)]
            refine g_aload hC (gDec_at DX0_takeSets_0 37 rfl) rfl ?_
            refine g_ldc2 hC cl_X0_144 (v' := lN 99) (by decide) (gDec_at DX0_takeSets_0 38 rfl) ?_
            refine g_aload hC (gDec_at DX0_takeSets_0 39 rfl) rfl ?_
            refine g_get (w := wC q) hC (15 + i) (v := .int (nI (B 3 i))) fl_X0_146 (show 15 + i < 63 from by omega) (cC_p0 q _ _ (by omega)) (g_sv ((ci_f3 hI1 (by omega) (by omega)).trans (congrArg nI e3))) (gDec_at DX0_takeSets_0 40 rfl) ?_
            refine g_i2lN hC (by omega) (gDec_at DX0_takeSets_0 41 rfl) ?_
            refine g_lload hC (gDec_at DX0_takeSets_0 42 rfl) rfl ?_
            refine g_ldc2 hC cl_X0_149 (v' := lN 999) (by decide) (gDec_at DX0_takeSets_0 43 rfl) ?_
            refine g_laddN hC (gDec_at DX0_takeSets_0 44 rfl) ?_
            refine g_ldc2 hC cl_X0_136 (v' := lN 1000) (by decide) (gDec_at DX0_takeSets_0 45 rfl) ?_
            refine g_ldivN hC (by omega) (by omega) (by omega) (gDec_at DX0_takeSets_0 46 rfl) ?_
            refine g_laddN hC (gDec_at DX0_takeSets_0 47 rfl) ?_
            refine g_mmin_long ml_X0_151 hC jm_min_long (by decide) (v := (lN (min 99 (B 3 i + (sStr B pull gives i - 1000 * sPr B i + 999) / 1000)))) (lN_min (by omega) (by omega)) (Nat.le_of_ble_eq_true rfl) (gDec_at DX0_takeSets_0 48 rfl) ?_
            refine g_l2iN hC (gDec_at DX0_takeSets_0 49 rfl) ?_
            refine g_putI (w := wC q) hC (15 + i) fl_X0_146 fp_1_6 (show 15 + i < 63 from by have := (by omega); omega) (cC_p0 q _ _ (by omega)) (Nat.le_of_ble_eq_true rfl) (cC_p0 q _ _ (by omega)) rfl (gDec_at DX0_takeSets_0 50 rfl) ?_
            refine g_iincN hC (gDec_at DX0_takeSets_0 51 rfl) rfl (by decide) (L' := [(5, .int (nI (sTkN B (sAb B (sPr B) pull gives) i + 1))), (10, .long (lN (sStr B pull gives i - 1000 * sPr B i))), (9, .ref (q.2.2 (15 + i))), (0, .ref (q.2.2 9)), (1, .long (lN pull)), (3, .long (lN gives)), (6, .ref (q.2.2 11)), (7, .int (nI 12)), (8, .int (nI i))]) rfl ?_
            refine g_iincN hC (gDec_at DX0_takeSets_0 52 rfl) rfl (by decide) (L' := [(8, .int (nI (i + 1))), (5, .int (nI (sTkN B (sAb B (sPr B) pull gives) i + 1))), (10, .long (lN (sStr B pull gives i - 1000 * sPr B i))), (9, .ref (q.2.2 (15 + i))), (0, .ref (q.2.2 9)), (1, .long (lN pull)), (3, .long (lN gives)), (6, .ref (q.2.2 11)), (7, .int (nI 12))]) rfl ?_
            refine g_goto hC (gDec_at DX0_takeSets_0 53 rfl) 17 (by decide) ?_
            refine g_sub [4, 5, 6, 1, 7, 8, 0] (L' := [(0, .ref (q.2.2 9)), (1, .long (lN pull)), (3, .long (lN gives)), (5, .int (nI (sTkN B (sAb B (sPr B) pull gives) i + 1))), (6, .ref (q.2.2 11)), (7, .int (nI 12)), (8, .int (nI (i + 1)))]) rfl ?_
            have e1 : upB (tkB B (sAb B (sPr B) pull gives) i) 3 i (min 99 (B 3 i + (sStr B pull gives i - 1000 * sPr B i + 999) / 1000)) = (tkB B (sAb B (sPr B) pull gives) (i + 1)) := tkB_s hI.2.2 (by omega) (fun _ => rfl) h37
            have hI2 : cI (gupd M1 (15 + i) 6 (nI (min 99 (B 3 i + (sStr B pull gives i - 1000 * sPr B i + 999) / 1000)))) (tkB B (sAb B (sPr B) pull gives) (i + 1)) := by rw [← e1]; exact cI_set hI1 (by unfold fldOf; omega) (by rw [e1]; exact tkB_V hI.2.2 _ _)
            have h9 := ih (i + 1) _ (by omega) (by omega) (hI2) (sameO_up hs1 (by omega))
            rw [show sTkN B (sAb B (sPr B) pull gives) (i + 1) = sTkN B (sAb B (sPr B) pull gives) i + 1 from gsm_s (if_pos ⟨h37, by show 0 < sStr B pull gives i - 1000 * sPr B i; omega⟩)] at h9
            exact h9
  exact g_sub [4, 5, 6, 3, 2, 1, 0] rfl (loop17 (12 + 1 - 0) 0 M (by omega) (by omega) (by rw [tkB_0]; exact hI) sameO_rf)
