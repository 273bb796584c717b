/-! Search: the look ahead; best, bestAt -/
theorem gsm_one {f g : Nat → Nat} {i : Nat} (hne : ∀ k, k ≠ i → f k = g k) : ∀ {n : Nat}, i < n → gsm f n + g i = gsm g n + f i
  | 0, h => absurd h (Nat.not_lt_zero _)
  | n + 1, h => by
    show gsm f n + f n + g i = gsm g n + g n + f i
    by_cases e : i = n
    · subst e
      have h2 : gsm f i = gsm g i := gsm_cong (fun k hk => hne k (by omega))
      omega
    · have h2 := gsm_one (f := f) (g := g) hne (n := n) (i := i) (by omega)
      have h3 := hne n (fun q => e q.symm)
      omega
theorem limb_same {B : gB} {j l : Nat} (h : j / 6 ≠ l) : sLimb (dec B j) l = sLimb B l := gsm_cong (fun k hk => by
  have e : 6 * l + k ≠ j := by omega
  have e2 : dec B j 1 (6 * l + k) = B 1 (6 * l + k) := if_neg (fun z => e z.2)
  show (if k < B 9 0 then sGive B (6 * l + k) (dec B j 1 (6 * l + k)) else 0) = _
  rw [e2])
theorem all_dec {B : gB} {j : Nat} (hj : j < 12) (ht : j % 6 < B 9 0) : sAll B - sGive B j (B 1 j) + sGive (dec B j) j (dec B j 1 j) = sAll (dec B j) := by
  have hat := sAll_at hj ht
  have key : sLimb B (j / 6) + sGive (dec B j) j (dec B j 1 j) = sLimb (dec B j) (j / 6) + sGive B j (B 1 j) := by
    have e : 6 * (j / 6) + j % 6 = j := by omega
    have h := gsm_one (f := fun k => if k < B 9 0 then sGive B (6 * (j / 6) + k) (B 1 (6 * (j / 6) + k)) else 0) (g := fun k => if k < B 9 0 then sGive (dec B j) (6 * (j / 6) + k) (dec B j 1 (6 * (j / 6) + k)) else 0) (i := j % 6) (fun k hk => by
      have e2 : dec B j 1 (6 * (j / 6) + k) = B 1 (6 * (j / 6) + k) := if_neg (fun z => by omega)
      show (if k < B 9 0 then sGive B (6 * (j / 6) + k) (B 1 (6 * (j / 6) + k)) else 0) = (if k < B 9 0 then sGive B (6 * (j / 6) + k) (dec B j 1 (6 * (j / 6) + k)) else 0)
      rw [e2]) (n := 6) (by omega)
    simp only [if_pos ht, e] at h
    exact h
  unfold sAll
  rcases (show j / 6 = 0 ∨ j / 6 = 1 by omega) with q | q
  · rw [q] at key
    have h2 := limb_same (B := B) (j := j) (l := 1) (by omega)
    unfold sAll at hat
    omega
  · rw [q] at key
    have h2 := limb_same (B := B) (j := j) (l := 0) (by omega)
    unfold sAll at hat
    omega
def wyU (wy : Nat → Nat) (tk v : Nat) : Nat → Nat := fun i => if i = tk then v else wy i
theorem qS_fwd {M : gM} {P f mo tk : Nat} {wy : Nat → Nat} {T : gT} (h : qS M P f mo tk wy T) {i : Nat} {x : Int32} {v : Nat} : qS (gupd (gupd M (15 + i) 4 x) 4 tk (nI v)) P f mo (tk + 1) (wyU wy tk v) T := by
  obtain ⟨h1, h2, h3, h4, h5, h6, h7, h8, h9⟩ := h
  refine ⟨h1, ?_, ?_, ?_, ?_, h6, h7, fun k hk => ?_, fun k hk => ?_⟩
  · rw [gupd_get, if_neg (by omega), gupd_get, if_neg (by omega)]; exact h2
  · rw [gupd_get, if_neg (by omega), gupd_get, if_neg (by omega)]; exact h3
  · rw [gupd_get, if_neg (by omega), gupd_get, if_neg (by omega)]; exact h4
  · rw [gupd_get, if_neg (by omega), gupd_get, if_neg (by omega)]; exact h5
  · unfold wyU
    by_cases e : k = tk
    · subst e; rw [gupd_get, if_pos ⟨rfl, rfl⟩, if_pos rfl]
    · rw [gupd_get, if_neg (by omega), gupd_get, if_neg (by omega), if_neg e]; exact h8 k (by omega)
  · rw [gupd_get, if_neg (by omega), gupd_get, if_neg (by omega)]; exact h9 k hk
theorem qS_bwd {M : gM} {P f mo tk v : Nat} {wy : Nat → Nat} {T : gT} (h : qS M P f mo (tk + 1) (wyU wy tk v) T) {i : Nat} {x : Int32} : qS (gupd M (15 + i) 4 x) P f mo tk wy T := by
  obtain ⟨h1, h2, h3, h4, h5, h6, h7, h8, h9⟩ := h
  refine ⟨h1, ?_, ?_, ?_, ?_, h6, h7, fun k hk => ?_, fun k hk => ?_⟩
  · rw [gupd_get, if_neg (by omega)]; exact h2
  · rw [gupd_get, if_neg (by omega)]; exact h3
  · rw [gupd_get, if_neg (by omega)]; exact h4
  · rw [gupd_get, if_neg (by omega)]; exact h5
  · have := h8 k (by omega)
    unfold wyU at this
    rw [if_neg (by omega)] at this
    rw [gupd_get, if_neg (by omega)]; exact this
  · rw [gupd_get, if_neg (by omega)]; exact h9 k hk
theorem qO_back {M1 M3 : gM} {i tk : Nat} {x y : Int32} {w : Int32} (h : qO (gupd (gupd M1 (15 + i) 4 x) 4 tk w) M3) (hy : M1.1 (15 + i) 4 = y) : qO M1 (gupd M3 (15 + i) 4 y) := by
  intro c h3 h4 h5
  funext k
  have h6 := congrFun (h c h3 h4 h5) k
  rw [gupd_get, if_neg (by omega)] at h6
  rw [gupd_get]
  by_cases e : c = 15 + i ∧ k = 4
  · rw [if_pos e, e.1, e.2, hy]
  · rw [if_neg e, h6, gupd_get, if_neg e]
set_option maxRecDepth 100000 in
set_option maxHeartbeats 4000000 in
theorem c_X2_tryWays (q : gQ3) : ∀ (dd : Nat) {M : gM} {B : gB} (hI : cI M B) {P f mo tk fr : Nat} {wy : Nat → Nat} {T : gT} (hq : qS M P f mo tk wy T) (hP : P ≤ 80000000) (hf : f ≤ 999) (hmo : mo = tk + dd) (h3 : mo ≤ 3) (hfr : fr ≤ 15), gCt (wC q) yX2_tryWays cX2_tryWays 12 none (4 + dd) [.ref (q.2.2 3), .ref (q.2.2 9), .int (nI fr), .int (nI tk), .long (lN (sAll B))] M (fun v M' => v = none ∧ qS M' P f mo tk wy (sTry P f dd B fr tk wy T) ∧ qO M M') := by
  intro dd
  induction dd with
  | zero =>
    intro M B hI P f mo tk fr wy T hq hP hf hmo h3 hfr
    refine gMet RX2 (by decide +kernel) rfl (Nat.le_of_ble_eq_true rfl) (fun X hC => ?_)
    have hC : gC X (wC q) cX2_tryWays 12 RX2 none 4 := hC
    show gG X (wC q) _ 12 M 0 [(0, .ref (q.2.2 3)), (1, .ref (q.2.2 9)), (2, .int (nI fr)), (3, .int (nI tk)), (4, .long (lN (sAll B)))] []
    have hm := bv_many hI.2.2
    have hal := sAll_le B
    refine g_aload_n hC (gDec_at DX2_tryWays_0 0 rfl) rfl ?_
    refine g_aload_n hC (gDec_at DX2_tryWays_0 1 rfl) rfl ?_
    refine g_iload_n hC (gDec_at DX2_tryWays_0 2 rfl) rfl ?_
    refine g_lload hC (gDec_at DX2_tryWays_0 3 rfl) rfl ?_
    refine g_callV (w := wC q) hC (i := 3) (c_X2_judge q hI hq hP hf (by omega)) vf_X2_judge ml_X2_73 (by omega) (show 3 < 63 from by decide) rfl rfl rfl rfl rfl (Nat.le_of_ble_eq_true rfl) (gDec_at DX2_tryWays_0 4 rfl) (fun v_5 M_5 hq_5 => ?_)
    obtain ⟨rfl, hq1, ho1⟩ := hq_5
    have hI1 := cI_q hI ho1
    refine g_iload_n hC (gDec_at DX2_tryWays_0 5 rfl) rfl ?_
    refine g_if_ltN hC (by omega) (gDec_at DX2_tryWays_0 6 rfl) ?_ 29 (by decide)
    refine g_iload_n hC (gDec_at DX2_tryWays_0 7 rfl) rfl ?_
    refine g_aload_n hC (gDec_at DX2_tryWays_0 8 rfl) rfl ?_
    refine g_get (w := wC q) hC 3 (v := .int (nI mo)) fl_X2_63 (show 3 < 63 from by decide) rfl (g_sv hq1.2.2.1) (gDec_at DX2_tryWays_0 9 rfl) ?_
    refine g_icmp_geN hC (by omega) (by omega) (gDec_at DX2_tryWays_0 10 rfl) 29 (by decide) (fun h17 => ?_) (fun h17 => ?_)
    · skip
      refine g_vret hC (gDec_at DX2_tryWays_0 16 rfl) ?_
      exact ⟨rfl, hq1, ho1⟩
    · skip
      exact absurd h17 (by omega)
  | succ dd IH =>
    intro M B hI P f mo tk fr wy T hq hP hf hmo h3 hfr
    refine gMet RX2 (by decide +kernel) rfl (Nat.le_of_ble_eq_true rfl) (fun X hC => ?_)
    have hC : gC X (wC q) cX2_tryWays 12 RX2 none (4 + dd + 1) := hC
    show gG X (wC q) _ 12 M 0 [(0, .ref (q.2.2 3)), (1, .ref (q.2.2 9)), (2, .int (nI fr)), (3, .int (nI tk)), (4, .long (lN (sAll B)))] []
    have hm := bv_many hI.2.2
    have hal := sAll_le B
    refine g_aload_n hC (gDec_at DX2_tryWays_0 0 rfl) rfl ?_
    refine g_aload_n hC (gDec_at DX2_tryWays_0 1 rfl) rfl ?_
    refine g_iload_n hC (gDec_at DX2_tryWays_0 2 rfl) rfl ?_
    refine g_lload hC (gDec_at DX2_tryWays_0 3 rfl) rfl ?_
    refine g_callV (w := wC q) hC (i := 3) (c_X2_judge q hI hq hP hf (by omega)) vf_X2_judge ml_X2_73 (by omega) (show 3 < 63 from by decide) rfl rfl rfl rfl rfl (Nat.le_of_ble_eq_true rfl) (gDec_at DX2_tryWays_0 4 rfl) (fun v_5 M_5 hq_5 => ?_)
    obtain ⟨rfl, hq1, ho1⟩ := hq_5
    have hI1 := cI_q hI ho1
    refine g_iload_n hC (gDec_at DX2_tryWays_0 5 rfl) rfl ?_
    refine g_if_ltN hC (by omega) (gDec_at DX2_tryWays_0 6 rfl) ?_ 29 (by decide)
    refine g_iload_n hC (gDec_at DX2_tryWays_0 7 rfl) rfl ?_
    refine g_aload_n hC (gDec_at DX2_tryWays_0 8 rfl) rfl ?_
    refine g_get (w := wC q) hC 3 (v := .int (nI mo)) fl_X2_63 (show 3 < 63 from by decide) rfl (g_sv hq1.2.2.1) (gDec_at DX2_tryWays_0 9 rfl) ?_
    refine g_icmp_geN hC (by omega) (by omega) (gDec_at DX2_tryWays_0 10 rfl) 29 (by decide) (fun h17 => ?_) (fun h17 => ?_)
    · skip
      exact absurd h17 (by omega)
    · skip
      refine g_iload_n hC (gDec_at DX2_tryWays_0 11 rfl) rfl ?_
      refine g_aload_n hC (gDec_at DX2_tryWays_0 12 rfl) rfl ?_
      refine g_get (w := wC q) hC 3 (v := .ref (q.2.2 4)) fl_X2_9 (show 3 < 63 from by decide) rfl rfl (gDec_at DX2_tryWays_0 13 rfl) ?_
      refine g_alen (w := wC q) hC 4 0 (show 4 < 63 from by decide) rfl rfl (gDec_at DX2_tryWays_0 14 rfl) ?_
      refine g_icmp_ltN hC (by omega) (by omega) (gDec_at DX2_tryWays_0 15 rfl) 30 (by decide) (fun h26 => ?_) (fun h26 => ?_)
      · skip
        refine g_aload_n hC (gDec_at DX2_tryWays_0 17 rfl) rfl ?_
        refine g_get (w := wC q) hC 9 (v := .ref (q.2.2 11)) fl_X2_36 (show 9 < 63 from by decide) rfl rfl (gDec_at DX2_tryWays_0 18 rfl) ?_
        refine g_astore hC (gDec_at DX2_tryWays_0 19 rfl) (by decide) (L' := [(6, .ref (q.2.2 11)), (0, .ref (q.2.2 3)), (1, .ref (q.2.2 9)), (2, .int (nI fr)), (3, .int (nI tk)), (4, .long (lN (sAll B)))]) rfl ?_
        refine g_aload hC (gDec_at DX2_tryWays_0 20 rfl) rfl ?_
        refine g_alen (w := wC q) hC 11 3 (show 11 < 63 from by decide) rfl rfl (gDec_at DX2_tryWays_0 21 rfl) ?_
        refine g_istore hC (gDec_at DX2_tryWays_0 22 rfl) (by decide) (L' := [(7, .int (nI 12)), (6, .ref (q.2.2 11)), (0, .ref (q.2.2 3)), (1, .ref (q.2.2 9)), (2, .int (nI fr)), (3, .int (nI tk)), (4, .long (lN (sAll B)))]) rfl ?_
        refine g_iconst hC (gDec_at DX2_tryWays_0 23 rfl) (v := nI 0) (by decide) ?_
        refine g_istore hC (gDec_at DX2_tryWays_0 24 rfl) (by decide) (L' := [(8, .int (nI 0)), (7, .int (nI 12)), (6, .ref (q.2.2 11)), (0, .ref (q.2.2 3)), (1, .ref (q.2.2 9)), (2, .int (nI fr)), (3, .int (nI tk)), (4, .long (lN (sAll B)))]) rfl ?_
        have loop44 : ∀ (fu i : Nat) (M1 : gM), i ≤ 12 → 12 - i < fu → qS M1 P f mo tk wy (gfold (fun j T => if j % 6 < B 9 0 ∧ fr ≤ sTold j ∧ 4 < B 1 j then sTry P f dd (dec B j) (sTold j) (tk + 1) (fun i => if i = tk then sTold j else wy i) T else T) i (jdg P f B tk wy T)) → qO M M1 → gG X (wC q) (fun v M' => v = none ∧ qS M' P f mo tk wy (sTry P f (dd + 1) B fr tk wy T) ∧ qO M M') 12 M1 44 [(0, .ref (q.2.2 3)), (1, .ref (q.2.2 9)), (2, .int (nI fr)), (3, .int (nI tk)), (4, .long (lN (sAll B))), (6, .ref (q.2.2 11)), (7, .int (nI 12)), (8, .int (nI i))] [] := by
          intro fu; induction fu with
          | zero => intro i M1 h1 h2; omega
          | succ fu ih =>
            intro i M1 hi hfu hqi hoi
            have hIi := cI_q hI hoi
            have hq7 := hqi.2.2.1
            refine g_iload hC (gDec_at DX2_tryWays_0 25 rfl) rfl ?_
            refine g_iload hC (gDec_at DX2_tryWays_0 26 rfl) rfl ?_
            refine g_icmp_geN hC (by omega) (by omega) (gDec_at DX2_tryWays_0 27 rfl) 157 (by decide) (fun h48 => ?_) (fun h48 => ?_)
            · skip
              obtain rfl : i = 12 := by omega
              refine g_vret hC (gDec_at DX2_tryWays_1 19 rfl) ?_
              exact ⟨rfl, hqi, hoi⟩
            · skip
              refine g_aload hC (gDec_at DX2_tryWays_0 28 rfl) rfl ?_
              refine g_iload hC (gDec_at DX2_tryWays_0 29 rfl) rfl ?_
              refine g_aald (w := wC q) hC 11 3 i (a := q.2.2 (15 + i)) (show 11 < 63 from by decide) rfl rfl (by omega) (by decide) rfl (gDec_at DX2_tryWays_0 30 rfl) ?_
              refine g_astore hC (gDec_at DX2_tryWays_0 31 rfl) (by decide) (L' := [(9, .ref (q.2.2 (15 + i))), (0, .ref (q.2.2 3)), (1, .ref (q.2.2 9)), (2, .int (nI fr)), (3, .int (nI tk)), (4, .long (lN (sAll B))), (6, .ref (q.2.2 11)), (7, .int (nI 12)), (8, .int (nI i))]) rfl ?_
              refine g_aload_n hC (gDec_at DX2_tryWays_0 32 rfl) rfl ?_
              refine g_aload hC (gDec_at DX2_tryWays_0 33 rfl) rfl ?_
              refine g_callVd (w := wC q) hC 9 (c_X0_has q hIi (by omega)) vf_X0_has ml_X2_40 (by omega) (show 9 < 63 from by decide) rfl rfl rfl rfl rfl (Nat.le_of_ble_eq_true rfl) (gDec_at DX2_tryWays_0 34 rfl) ?_
              refine g_if_eqB hC (gDec_at DX2_tryWays_0 35 rfl) 151 (by decide) (fun h64 => ?_) (fun h64 => ?_)
              · skip
                refine g_iincN hC (gDec_at DX2_tryWays_1 17 rfl) rfl (by decide) (L' := [(8, .int (nI (i + 1))), (9, .ref (q.2.2 (15 + i))), (0, .ref (q.2.2 3)), (1, .ref (q.2.2 9)), (2, .int (nI fr)), (3, .int (nI tk)), (4, .long (lN (sAll B))), (6, .ref (q.2.2 11)), (7, .int (nI 12))]) rfl ?_
                refine g_goto hC (gDec_at DX2_tryWays_1 18 rfl) 44 (by decide) ?_
                refine g_sub [2, 3, 4, 5, 6, 7, 8, 0] (L' := [(0, .ref (q.2.2 3)), (1, .ref (q.2.2 9)), (2, .int (nI fr)), (3, .int (nI tk)), (4, .long (lN (sAll B))), (6, .ref (q.2.2 11)), (7, .int (nI 12)), (8, .int (nI (i + 1)))]) rfl ?_
                have e9 : (gfold (fun j T => if j % 6 < B 9 0 ∧ fr ≤ sTold j ∧ 4 < B 1 j then sTry P f dd (dec B j) (sTold j) (tk + 1) (fun i => if i = tk then sTold j else wy i) T else T) (i + 1) (jdg P f B tk wy T)) = (gfold (fun j T => if j % 6 < B 9 0 ∧ fr ≤ sTold j ∧ 4 < B 1 j then sTry P f dd (dec B j) (sTold j) (tk + 1) (fun i => if i = tk then sTold j else wy i) T else T) i (jdg P f B tk wy T)) := if_neg (fun z => h64 z.1)
                have h9 := ih (i + 1) M1 (by omega) (by omega) (by rw [e9]; exact hqi) (hoi)
                exact h9
              · skip
                have h1i := bv_f1 hI.2.2 (by omega : i < 12) h64
                have hga := sAll_at (by omega : i < 12) h64
                refine g_aload hC (gDec_at DX2_tryWays_0 36 rfl) rfl ?_
                refine g_get (w := wC q) hC (15 + i) (v := .int (nI (10 * (i / 6) + i % 6))) fl_X2_53 (show 15 + i < 63 from by have := (by omega); omega) (cC_p0 q _ _ (by omega)) (g_sv (ci_told hIi (by omega))) (gDec_at DX2_tryWays_0 37 rfl) ?_
                refine g_iload_n hC (gDec_at DX2_tryWays_0 38 rfl) rfl ?_
                refine g_icmp_ltN hC (by omega) (by omega) (gDec_at DX2_tryWays_0 39 rfl) 151 (by decide) (fun h73 => ?_) (fun h73 => ?_)
                · skip
                  refine g_iincN hC (gDec_at DX2_tryWays_1 17 rfl) rfl (by decide) (L' := [(8, .int (nI (i + 1))), (9, .ref (q.2.2 (15 + i))), (0, .ref (q.2.2 3)), (1, .ref (q.2.2 9)), (2, .int (nI fr)), (3, .int (nI tk)), (4, .long (lN (sAll B))), (6, .ref (q.2.2 11)), (7, .int (nI 12))]) rfl ?_
                  refine g_goto hC (gDec_at DX2_tryWays_1 18 rfl) 44 (by decide) ?_
                  refine g_sub [2, 3, 4, 5, 6, 7, 8, 0] (L' := [(0, .ref (q.2.2 3)), (1, .ref (q.2.2 9)), (2, .int (nI fr)), (3, .int (nI tk)), (4, .long (lN (sAll B))), (6, .ref (q.2.2 11)), (7, .int (nI 12)), (8, .int (nI (i + 1)))]) rfl ?_
                  have e9 : (gfold (fun j T => if j % 6 < B 9 0 ∧ fr ≤ sTold j ∧ 4 < B 1 j then sTry P f dd (dec B j) (sTold j) (tk + 1) (fun i => if i = tk then sTold j else wy i) T else T) (i + 1) (jdg P f B tk wy T)) = (gfold (fun j T => if j % 6 < B 9 0 ∧ fr ≤ sTold j ∧ 4 < B 1 j then sTry P f dd (dec B j) (sTold j) (tk + 1) (fun i => if i = tk then sTold j else wy i) T else T) i (jdg P f B tk wy T)) := if_neg (fun z => by have z2 := z.2; unfold sTold at z2; omega)
                  have h9 := ih (i + 1) M1 (by omega) (by omega) (by rw [e9]; exact hqi) (hoi)
                  exact h9
                · skip
                  refine g_aload hC (gDec_at DX2_tryWays_0 40 rfl) rfl ?_
                  refine g_get (w := wC q) hC (15 + i) (v := .int (nI (B 1 i))) fl_X2_44 (show 15 + i < 63 from by have := (by omega); omega) (cC_p0 q _ _ (by omega)) (g_sv (ci_f1 hIi (by omega) (by omega))) (gDec_at DX2_tryWays_0 41 rfl) ?_
                  refine g_iconst hC (gDec_at DX2_tryWays_0 42 rfl) (v := nI 4) (by decide) ?_
                  refine g_icmp_leN hC (by omega) (by omega) (gDec_at DX2_tryWays_0 43 rfl) 151 (by decide) (fun h82 => ?_) (fun h82 => ?_)
                  · skip
                    refine g_iincN hC (gDec_at DX2_tryWays_1 17 rfl) rfl (by decide) (L' := [(8, .int (nI (i + 1))), (9, .ref (q.2.2 (15 + i))), (0, .ref (q.2.2 3)), (1, .ref (q.2.2 9)), (2, .int (nI fr)), (3, .int (nI tk)), (4, .long (lN (sAll B))), (6, .ref (q.2.2 11)), (7, .int (nI 12))]) rfl ?_
                    refine g_goto hC (gDec_at DX2_tryWays_1 18 rfl) 44 (by decide) ?_
                    refine g_sub [2, 3, 4, 5, 6, 7, 8, 0] (L' := [(0, .ref (q.2.2 3)), (1, .ref (q.2.2 9)), (2, .int (nI fr)), (3, .int (nI tk)), (4, .long (lN (sAll B))), (6, .ref (q.2.2 11)), (7, .int (nI 12)), (8, .int (nI (i + 1)))]) rfl ?_
                    have e9 : (gfold (fun j T => if j % 6 < B 9 0 ∧ fr ≤ sTold j ∧ 4 < B 1 j then sTry P f dd (dec B j) (sTold j) (tk + 1) (fun i => if i = tk then sTold j else wy i) T else T) (i + 1) (jdg P f B tk wy T)) = (gfold (fun j T => if j % 6 < B 9 0 ∧ fr ≤ sTold j ∧ 4 < B 1 j then sTry P f dd (dec B j) (sTold j) (tk + 1) (fun i => if i = tk then sTold j else wy i) T else T) i (jdg P f B tk wy T)) := if_neg (fun z => by have z2 := z.2; unfold sTold at z2; omega)
                    have h9 := ih (i + 1) M1 (by omega) (by omega) (by rw [e9]; exact hqi) (hoi)
                    exact h9
                  · skip
                    refine g_lload hC (gDec_at DX2_tryWays_0 44 rfl) rfl ?_
                    refine g_aload_n hC (gDec_at DX2_tryWays_0 45 rfl) rfl ?_
                    refine g_aload hC (gDec_at DX2_tryWays_0 46 rfl) rfl ?_
                    refine g_callVd (w := wC q) hC 9 (c_X0_giveOf q hIi (by omega) (by omega)) vf_X0_giveOf ml_X2_77 (by omega) (show 9 < 63 from by decide) rfl rfl rfl rfl rfl (Nat.le_of_ble_eq_true rfl) (gDec_at DX2_tryWays_0 47 rfl) ?_
                    refine g_lsubN hC (by omega) (gDec_at DX2_tryWays_0 48 rfl) ?_
                    refine g_lstore hC (gDec_at DX2_tryWays_0 49 rfl) (by decide) (L' := [(10, .long (lN ((sAll B) - (sGive B i (B 1 i))))), (9, .ref (q.2.2 (15 + i))), (0, .ref (q.2.2 3)), (1, .ref (q.2.2 9)), (2, .int (nI fr)), (3, .int (nI tk)), (4, .long (lN (sAll B))), (6, .ref (q.2.2 11)), (7, .int (nI 12)), (8, .int (nI i))]) rfl ?_
                    refine g_aload hC (gDec_at DX2_tryWays_0 50 rfl) rfl ?_
                    refine g_dup hC (gDec_at DX2_tryWays_0 51 rfl) rfl ?_
                    refine g_get (w := wC q) hC (15 + i) (v := .int (nI (B 1 i))) fl_X2_44 (show 15 + i < 63 from by have := (by omega); omega) (cC_p0 q _ _ (by omega)) (g_sv (ci_f1 hIi (by omega) (by omega))) (gDec_at DX2_tryWays_0 52 rfl) ?_
                    refine g_iconst hC (gDec_at DX2_tryWays_0 53 rfl) (v := nI 1) (by decide) ?_
                    refine g_isubN hC (by omega) (gDec_at DX2_tryWays_0 54 rfl) ?_
                    refine g_putI (w := wC q) hC (15 + i) fl_X2_44 fp_1_4 (show 15 + i < 63 from by have := (by omega); omega) (cC_p0 q _ _ (by omega)) (Nat.le_of_ble_eq_true rfl) (cC_p0 q _ _ (by omega)) rfl (gDec_at DX2_tryWays_0 55 rfl) ?_
                    have hI2 := dec_I hIi (j := i) (by omega)
                    refine g_aload_n hC (gDec_at DX2_tryWays_0 56 rfl) rfl ?_
                    refine g_get (w := wC q) hC 3 (v := .ref (q.2.2 4)) fl_X2_9 (show 3 < 63 from by decide) rfl rfl (gDec_at DX2_tryWays_0 57 rfl) ?_
                    refine g_iload_n hC (gDec_at DX2_tryWays_0 58 rfl) rfl ?_
                    refine g_aload hC (gDec_at DX2_tryWays_0 59 rfl) rfl ?_
                    refine g_get (w := wC q) hC (15 + i) (v := .int (nI (10 * (i / 6) + i % 6))) fl_X2_53 (show 15 + i < 63 from by have := (by omega); omega) (cC_p0 q _ _ (by omega)) (g_sv (ci_told hI2 (by omega))) (gDec_at DX2_tryWays_0 60 rfl) ?_
                    refine g_iast (w := wC q) hC 4 0 tk (show 4 < 63 from by decide) rfl rfl rfl (by omega) (by decide) (gDec_at DX2_tryWays_0 61 rfl) ?_
                    have hI3 : cI (gupd (gupd M1 (15 + i) 4 (nI ((B 1 i) - 1))) 4 tk (nI (10 * (i / 6) + i % 6))) (dec B i) := cI_q hI2 (fun c a1 a2 a3 => by funext k; rw [gupd_get, if_neg (by omega)])
                    have hq3 := qS_fwd hqi (i := i) (x := nI (B 1 i - 1)) (v := sTold i)
                    have hti : i % 6 < dec B i 9 0 := by show i % 6 < B 9 0; omega
                    refine g_aload_n hC (gDec_at DX2_tryWays_0 62 rfl) rfl ?_
                    refine g_aload_n hC (gDec_at DX2_tryWays_0 63 rfl) rfl ?_
                    refine g_aload hC (gDec_at DX2_tryWays_1 0 rfl) rfl ?_
                    refine g_get (w := wC q) hC (15 + i) (v := .int (nI (10 * (i / 6) + i % 6))) fl_X2_53 (show 15 + i < 63 from by have := (by omega); omega) (cC_p0 q _ _ (by omega)) (g_sv (ci_told hI3 (by omega))) (gDec_at DX2_tryWays_1 1 rfl) ?_
                    refine g_iload_n hC (gDec_at DX2_tryWays_1 2 rfl) rfl ?_
                    refine g_iconst hC (gDec_at DX2_tryWays_1 3 rfl) (v := nI 1) (by decide) ?_
                    refine g_iaddN hC (gDec_at DX2_tryWays_1 4 rfl) ?_
                    refine g_lload hC (gDec_at DX2_tryWays_1 5 rfl) rfl ?_
                    refine g_aload_n hC (gDec_at DX2_tryWays_1 6 rfl) rfl ?_
                    refine g_aload hC (gDec_at DX2_tryWays_1 7 rfl) rfl ?_
                    refine g_callVd (w := wC q) hC 9 (c_X0_giveOf q hI3 (by omega) (by omega)) vf_X0_giveOf ml_X2_77 (by omega) (show 9 < 63 from by decide) rfl rfl rfl rfl rfl (Nat.le_of_ble_eq_true rfl) (gDec_at DX2_tryWays_1 8 rfl) ?_
                    refine g_ladd hC (gDec_at DX2_tryWays_1 9 rfl) (v := (lN (sAll (dec B i)))) ((lN_add _ _).trans (congrArg lN (all_dec (by omega) (by omega)))) ?_
                    refine g_callS (w := wC q) hC (IH hI3 hq3 hP hf (fr := sTold i) (by omega) h3 (by unfold sTold; omega)) sf_X2_tryWays ml_X2_69 (by omega) rfl rfl (Nat.le_of_ble_eq_true rfl) (gDec_at DX2_tryWays_1 10 rfl) (fun v_137 M_137 hq_137 => ?_)
                    obtain ⟨rfl, hq4, ho4⟩ := hq_137
                    refine g_aload hC (gDec_at DX2_tryWays_1 11 rfl) rfl ?_
                    refine g_dup hC (gDec_at DX2_tryWays_1 12 rfl) rfl ?_
                    refine g_get (w := wC q) hC (15 + i) (v := .int (nI (B 1 i - 1))) fl_X2_44 (show 15 + i < 63 from by have := (by omega); omega) (cC_p0 q _ _ (by omega)) (g_sv (by rw [ho4 (15 + i) (by omega) (by omega) (by omega), gupd_get, if_neg (by omega), gupd_get, if_pos ⟨rfl, rfl⟩])) (gDec_at DX2_tryWays_1 13 rfl) ?_
                    refine g_iconst hC (gDec_at DX2_tryWays_1 14 rfl) (v := nI 1) (by decide) ?_
                    refine g_iaddN hC (gDec_at DX2_tryWays_1 15 rfl) ?_
                    refine g_putI (w := wC q) hC (15 + i) fl_X2_44 fp_1_4 (show 15 + i < 63 from by have := (by omega); omega) (cC_p0 q _ _ (by omega)) (Nat.le_of_ble_eq_true rfl) (cC_p0 q _ _ (by omega)) rfl (gDec_at DX2_tryWays_1 16 rfl) ?_
                    refine g_iincN hC (gDec_at DX2_tryWays_1 17 rfl) rfl (by decide) (L' := [(8, .int (nI (i + 1))), (10, .long (lN ((sAll B) - (sGive B i (B 1 i))))), (9, .ref (q.2.2 (15 + i))), (0, .ref (q.2.2 3)), (1, .ref (q.2.2 9)), (2, .int (nI fr)), (3, .int (nI tk)), (4, .long (lN (sAll B))), (6, .ref (q.2.2 11)), (7, .int (nI 12))]) rfl ?_
                    refine g_goto hC (gDec_at DX2_tryWays_1 18 rfl) 44 (by decide) ?_
                    refine g_sub [3, 4, 5, 6, 7, 8, 9, 0] (L' := [(0, .ref (q.2.2 3)), (1, .ref (q.2.2 9)), (2, .int (nI fr)), (3, .int (nI tk)), (4, .long (lN (sAll B))), (6, .ref (q.2.2 11)), (7, .int (nI 12)), (8, .int (nI (i + 1)))]) rfl ?_
                    have e9 : (gfold (fun j T => if j % 6 < B 9 0 ∧ fr ≤ sTold j ∧ 4 < B 1 j then sTry P f dd (dec B j) (sTold j) (tk + 1) (fun i => if i = tk then sTold j else wy i) T else T) (i + 1) (jdg P f B tk wy T)) = sTry P f dd (dec B i) (sTold i) (tk + 1) (wyU wy tk (sTold i)) (gfold (fun j T => if j % 6 < B 9 0 ∧ fr ≤ sTold j ∧ 4 < B 1 j then sTry P f dd (dec B j) (sTold j) (tk + 1) (fun i => if i = tk then sTold j else wy i) T else T) i (jdg P f B tk wy T)) := if_pos ⟨h64, by unfold sTold; omega, by omega⟩
                    have h9 := ih (i + 1) (gupd M_137 (15 + i) 4 (nI (B 1 i - 1 + 1))) (by omega) (by omega) (by rw [e9]; exact qS_bwd hq4) (qO_tr hoi (qO_back ho4 ((ci_f1 hIi (by omega) (by omega)).trans (congrArg nI (by omega)))))
                    exact h9
        exact g_sub [3, 4, 5, 6, 7, 2, 1, 0] rfl (loop44 (12 + 1 - 0) 0 _ (by omega) (by omega) hq1 ho1)
      · skip
        exact absurd h26 (by omega)

theorem T0_q (M : gM) (P f mo : Nat) (wy : Nat → Nat) : qS (gupd (gupd (gupd (gupd (gupL M 3 4 (lN P)) 3 5 (nI f)) 3 6 (nI mo)) 3 3 (-9)) 3 2 (nI 0)) P f mo 0 wy (0, 0, wy) := by
  refine ⟨?_, ?_, ?_, ?_, ?_, Nat.zero_le _, Nat.zero_le _, fun i h => absurd h (Nat.not_lt_zero i), fun i h => absurd h (Nat.not_lt_zero i)⟩
  · show (gupL M 3 4 (lN P)).2 3 4 = lN P
    simp [gupL, vp_updL]
  · rw [gupd_get, if_neg (by omega), gupd_get, if_neg (by omega), gupd_get, if_neg (by omega), gupd_get, if_pos ⟨rfl, rfl⟩]
  · rw [gupd_get, if_neg (by omega), gupd_get, if_neg (by omega), gupd_get, if_pos ⟨rfl, rfl⟩]
  · rw [gupd_get, if_neg (by omega), gupd_get, if_pos ⟨rfl, rfl⟩]; rfl
  · rw [gupd_get, if_pos ⟨rfl, rfl⟩]
/-- the best of the ways of at most n scrapes -/
def sBest (B : gB) (x f n : Nat) : gT := sTry (sPull B x) f n B 0 0 (fun _ => 0) (0, 0, fun _ => 0)
set_option maxRecDepth 100000 in
set_option maxHeartbeats 4000000 in
theorem c_X2_seek (q : gQ3) {M : gM} {B : gB} (hI : cI M B) {x f n : Nat} (hx : x ≤ 40) (hfb : f ≤ 999) (hna : 1 ≤ n) (hnb : n ≤ 3) : gCt (wC q) yX2_seek cX2_seek 5 none 8 [.ref (q.2.2 3), .ref (q.2.2 9), .int (nI x), .int (nI f), .int (nI n)] M (fun v M' => v = none ∧ qS M' (sPull B x) f n 0 (fun _ => 0) (sBest B x f n) ∧ qO M M') := by
  refine gMet RX2 (by decide +kernel) rfl (Nat.le_of_ble_eq_true rfl) (fun X hC => ?_)
  have hC : gC X (wC q) cX2_seek 5 RX2 none 8 := hC
  show gG X (wC q) _ 5 M 0 [(0, .ref (q.2.2 3)), (1, .ref (q.2.2 9)), (2, .int (nI x)), (3, .int (nI f)), (4, .int (nI n))] []
  have hpl := sPull_le B hx
  have hal := sAll_le B
  refine g_aload_n hC (gDec_at DX2_seek_0 0 rfl) rfl ?_
  refine g_aload_n hC (gDec_at DX2_seek_0 1 rfl) rfl ?_
  refine g_iload_n hC (gDec_at DX2_seek_0 2 rfl) rfl ?_
  refine g_callVd (w := wC q) hC 9 (c_X0_pullAt q hI (x := x) (by omega)) vf_X0_pullAt ml_X2_22 (by decide) (show 9 < 63 from by decide) rfl rfl rfl rfl rfl (Nat.le_of_ble_eq_true rfl) (gDec_at DX2_seek_0 3 rfl) ?_
  refine g_putJ (w := wC q) hC 3 fl_X2_56 fp_2_4 (show 3 < 63 from by decide) rfl (Nat.le_of_ble_eq_true rfl) rfl rfl (gDec_at DX2_seek_0 4 rfl) ?_
  refine g_aload_n hC (gDec_at DX2_seek_0 5 rfl) rfl ?_
  refine g_iload_n hC (gDec_at DX2_seek_0 6 rfl) rfl ?_
  refine g_putI (w := wC q) hC 3 fl_X2_60 fp_2_5 (show 3 < 63 from by decide) rfl (Nat.le_of_ble_eq_true rfl) rfl rfl (gDec_at DX2_seek_0 7 rfl) ?_
  refine g_aload_n hC (gDec_at DX2_seek_0 8 rfl) rfl ?_
  refine g_iload hC (gDec_at DX2_seek_0 9 rfl) rfl ?_
  refine g_putI (w := wC q) hC 3 fl_X2_63 fp_2_6 (show 3 < 63 from by decide) rfl (Nat.le_of_ble_eq_true rfl) rfl rfl (gDec_at DX2_seek_0 10 rfl) ?_
  refine g_aload_n hC (gDec_at DX2_seek_0 11 rfl) rfl ?_
  refine g_bipush hC (gDec_at DX2_seek_0 12 rfl) (v := -9) (by decide) ?_
  refine g_putI (w := wC q) hC 3 fl_X2_18 fp_2_3 (show 3 < 63 from by decide) rfl (Nat.le_of_ble_eq_true rfl) rfl rfl (gDec_at DX2_seek_0 13 rfl) ?_
  refine g_aload_n hC (gDec_at DX2_seek_0 14 rfl) rfl ?_
  refine g_iconst hC (gDec_at DX2_seek_0 15 rfl) (v := nI 0) (by decide) ?_
  refine g_putI (w := wC q) hC 3 fl_X2_66 fp_2_2 (show 3 < 63 from by decide) rfl (Nat.le_of_ble_eq_true rfl) rfl rfl (gDec_at DX2_seek_0 16 rfl) ?_
  have hoS : qO M (gupd (gupd (gupd (gupd (gupL M 3 4 (lN (sPull B x))) 3 5 (nI f)) 3 6 (nI n)) 3 3 (-9)) 3 2 (nI 0)) := fun c a1 a2 a3 => by funext k; rw [gupd_get, if_neg (by omega), gupd_get, if_neg (by omega), gupd_get, if_neg (by omega), gupd_get, if_neg (by omega)]; rfl
  have hIS := cI_q hI hoS
  have hqS := T0_q M (sPull B x) f n (fun _ => 0)
  refine g_aload_n hC (gDec_at DX2_seek_0 17 rfl) rfl ?_
  refine g_aload_n hC (gDec_at DX2_seek_0 18 rfl) rfl ?_
  refine g_iconst hC (gDec_at DX2_seek_0 19 rfl) (v := nI 0) (by decide) ?_
  refine g_iconst hC (gDec_at DX2_seek_0 20 rfl) (v := nI 0) (by decide) ?_
  refine g_aload_n hC (gDec_at DX2_seek_0 21 rfl) rfl ?_
  refine g_callVd (w := wC q) hC 9 (c_X0_allGives q hIS) vf_X0_allGives ml_X2_28 (by decide) (show 9 < 63 from by decide) rfl rfl rfl rfl rfl (Nat.le_of_ble_eq_true rfl) (gDec_at DX2_seek_0 22 rfl) ?_
  refine g_callS (w := wC q) hC (c_X2_tryWays q n hIS hqS hpl hfb (fr := 0) (by omega) (by omega) (by omega)) sf_X2_tryWays ml_X2_69 (by omega) rfl rfl (Nat.le_of_ble_eq_true rfl) (gDec_at DX2_seek_0 23 rfl) (fun v_39 M_39 hq_39 => ?_)
  obtain ⟨rfl, hq1, ho1⟩ := hq_39
  refine g_vret hC (gDec_at DX2_seek_0 24 rfl) ?_
  exact ⟨rfl, hq1, qO_tr hoS ho1⟩

set_option maxRecDepth 100000 in
set_option maxHeartbeats 4000000 in
theorem c_X2_foundPlace_in (q : gQ3) {M : gM} {P f n : Nat} {T : gT} (hq : qS M P f n 0 (fun _ => 0) T) {i : Nat} (hi : i < T.2.1) : gCt (wC q) yX2_foundPlace cX2_foundPlace 2 (some .int) 0 [.ref (q.2.2 3), .int (nI i)] M (gR (some (.int (nI (T.2.2 i)))) M) := by
  refine gMet RX2 (by decide +kernel) rfl (Nat.le_of_ble_eq_true rfl) (fun X hC => ?_)
  have hC : gC X (wC q) cX2_foundPlace 2 RX2 (some .int) 0 := hC
  show gG X (wC q) _ 2 M 0 [(0, .ref (q.2.2 3)), (1, .int (nI i))] []
  have q7 := hq.2.2.2.2.2.2.1
  refine g_iload_n hC (gDec_at DX2_foundPlace_0 0 rfl) rfl ?_
  refine g_if_ltN hC (by omega) (gDec_at DX2_foundPlace_0 1 rfl) ?_ 30 (by decide)
  refine g_iload_n hC (gDec_at DX2_foundPlace_0 2 rfl) rfl ?_
  refine g_aload_n hC (gDec_at DX2_foundPlace_0 3 rfl) rfl ?_
  refine g_get (w := wC q) hC 3 (v := .int (nI T.2.1)) fl_X2_66 (show 3 < 63 from by decide) rfl (g_sv hq.2.2.2.2.1) (gDec_at DX2_foundPlace_0 4 rfl) ?_
  refine g_icmp_geN hC (by omega) (by omega) (gDec_at DX2_foundPlace_0 5 rfl) 30 (by decide) (fun h9 => ?_) (fun h9 => ?_)
  · skip
    exact absurd h9 (by omega)
  · skip
    refine g_iload_n hC (gDec_at DX2_foundPlace_0 6 rfl) rfl ?_
    refine g_aload_n hC (gDec_at DX2_foundPlace_0 7 rfl) rfl ?_
    refine g_get (w := wC q) hC 3 (v := .ref (q.2.2 5)) fl_X2_15 (show 3 < 63 from by decide) rfl rfl (gDec_at DX2_foundPlace_0 8 rfl) ?_
    refine g_alen (w := wC q) hC 5 0 (show 5 < 63 from by decide) rfl rfl (gDec_at DX2_foundPlace_0 9 rfl) ?_
    refine g_icmp_geN hC (by omega) (by omega) (gDec_at DX2_foundPlace_0 10 rfl) 30 (by decide) (fun h18 => ?_) (fun h18 => ?_)
    · skip
      exact absurd h18 (by omega)
    · skip
      refine g_aload_n hC (gDec_at DX2_foundPlace_0 11 rfl) rfl ?_
      refine g_get (w := wC q) hC 3 (v := .ref (q.2.2 5)) fl_X2_15 (show 3 < 63 from by decide) rfl rfl (gDec_at DX2_foundPlace_0 12 rfl) ?_
      refine g_iload_n hC (gDec_at DX2_foundPlace_0 13 rfl) rfl ?_
      refine g_iald (w := wC q) hC 5 0 i (x := (nI (T.2.2 i))) (show 5 < 63 from by decide) rfl rfl (by omega) (by decide) (hq.2.2.2.2.2.2.2.2 _ hi) (gDec_at DX2_foundPlace_0 14 rfl) ?_
      refine g_goto hC (gDec_at DX2_foundPlace_0 15 rfl) 32 (by decide) ?_
      refine g_iret hC (gDec_at DX2_foundPlace_0 17 rfl) ?_
      exact ⟨rfl, rfl⟩

def ginl (x : Int32) (n : Nat) : Prop := 0 ≤ x.toInt ∧ x.toInt < n
set_option maxRecDepth 100000 in
set_option maxHeartbeats 4000000 in
theorem c_X2_foundPlace_out (q : gQ3) {M : gM} {P f n : Nat} {T : gT} (hq : qS M P f n 0 (fun _ => 0) T) {y : Int32} (hy : ¬ ginl y T.2.1) : gCt (wC q) yX2_foundPlace cX2_foundPlace 2 (some .int) 0 [.ref (q.2.2 3), .int y] M (gR (some (.int (-9))) M) := by
  refine gMet RX2 (by decide +kernel) rfl (Nat.le_of_ble_eq_true rfl) (fun X hC => ?_)
  have hC : gC X (wC q) cX2_foundPlace 2 RX2 (some .int) 0 := hC
  show gG X (wC q) _ 2 M 0 [(0, .ref (q.2.2 3)), (1, .int y)] []
  have q7 := hq.2.2.2.2.2.2.1
  refine g_iload_n hC (gDec_at DX2_foundPlace_0 0 rfl) rfl ?_
  refine g_if_lt hC (gDec_at DX2_foundPlace_0 1 rfl) 30 (by decide) (fun h1 => ?_) (fun h1 => ?_)
  · skip
    refine g_bipush hC (gDec_at DX2_foundPlace_0 16 rfl) (v := -9) (by decide) ?_
    refine g_iret hC (gDec_at DX2_foundPlace_0 17 rfl) ?_
    exact ⟨rfl, rfl⟩
  · skip
    refine g_iload_n hC (gDec_at DX2_foundPlace_0 2 rfl) rfl ?_
    refine g_aload_n hC (gDec_at DX2_foundPlace_0 3 rfl) rfl ?_
    refine g_get (w := wC q) hC 3 (v := .int (nI T.2.1)) fl_X2_66 (show 3 < 63 from by decide) rfl (g_sv hq.2.2.2.2.1) (gDec_at DX2_foundPlace_0 4 rfl) ?_
    refine g_icmp_ge hC (gDec_at DX2_foundPlace_0 5 rfl) 30 (by decide) (fun h9 => ?_) (fun h9 => ?_)
    · skip
      refine g_bipush hC (gDec_at DX2_foundPlace_0 16 rfl) (v := -9) (by decide) ?_
      refine g_iret hC (gDec_at DX2_foundPlace_0 17 rfl) ?_
      exact ⟨rfl, rfl⟩
    · skip
      exact absurd (show ginl y T.2.1 from by rw [lt_I, zI] at h1; rw [le_I, nI_toInt (by omega)] at h9; unfold ginl; omega) hy

set_option maxRecDepth 100000 in
set_option maxHeartbeats 4000000 in
theorem c_X6_best_badx (q : gQ3) {M : gM} {B : gB} (hI : cI M B) {x : Int32} (hx : ¬ gin x 0 40) {f n : Int32} : gCt (wC q) yX6_best cX6_best 4 (some .int) 8 [.ref (q.2.2 0), .int x, .int f, .int n] M (gR (some (.int (-2))) M) := by
  refine gMet RX6 (by decide +kernel) rfl (Nat.le_of_ble_eq_true rfl) (fun X hC => ?_)
  have hC : gC X (wC q) cX6_best 4 RX6 (some .int) 8 := hC
  show gG X (wC q) _ 4 M 0 [(0, .ref (q.2.2 0)), (1, .int x), (2, .int f), (3, .int n)] []
  refine g_iload_n hC (gDec_at DX6_best_0 0 rfl) rfl ?_
  refine g_iload_n hC (gDec_at DX6_best_0 1 rfl) rfl ?_
  refine g_iload_n hC (gDec_at DX6_best_0 2 rfl) rfl ?_
  refine g_callSd (w := wC q) hC (c_X6_isBadSearch_0 q hx) sf_X6_isBadSearch ml_X6_163 (by decide) rfl rfl (Nat.le_of_ble_eq_true rfl) (gDec_at DX6_best_0 3 rfl) ?_
  refine g_if_eqN hC (by decide) (gDec_at DX6_best_0 4 rfl) 12 (by decide) (fun h => absurd h (by decide)) (fun h => ?_)
  refine g_bipush hC (gDec_at DX6_best_0 5 rfl) (v := -2) (by decide) ?_
  refine g_iret hC (gDec_at DX6_best_0 6 rfl) ?_
  exact ⟨rfl, rfl⟩

set_option maxRecDepth 100000 in
set_option maxHeartbeats 4000000 in
theorem c_X6_bestAt_badx (q : gQ3) {M : gM} {B : gB} (hI : cI M B) {x : Int32} (hx : ¬ gin x 0 40) {f n : Int32} {y : Int32} : gCt (wC q) yX6_bestAt cX6_bestAt 5 (some .int) 8 [.ref (q.2.2 0), .int x, .int f, .int n, .int y] M (gR (some (.int (-2))) M) := by
  refine gMet RX6 (by decide +kernel) rfl (Nat.le_of_ble_eq_true rfl) (fun X hC => ?_)
  have hC : gC X (wC q) cX6_bestAt 5 RX6 (some .int) 8 := hC
  show gG X (wC q) _ 5 M 0 [(0, .ref (q.2.2 0)), (1, .int x), (2, .int f), (3, .int n), (4, .int y)] []
  refine g_iload_n hC (gDec_at DX6_bestAt_0 0 rfl) rfl ?_
  refine g_iload_n hC (gDec_at DX6_bestAt_0 1 rfl) rfl ?_
  refine g_iload_n hC (gDec_at DX6_bestAt_0 2 rfl) rfl ?_
  refine g_callSd (w := wC q) hC (c_X6_isBadSearch_0 q hx) sf_X6_isBadSearch ml_X6_163 (by decide) rfl rfl (Nat.le_of_ble_eq_true rfl) (gDec_at DX6_bestAt_0 3 rfl) ?_
  refine g_if_eqN hC (by decide) (gDec_at DX6_bestAt_0 4 rfl) 12 (by decide) (fun h => absurd h (by decide)) (fun h => ?_)
  refine g_bipush hC (gDec_at DX6_bestAt_0 5 rfl) (v := -2) (by decide) ?_
  refine g_iret hC (gDec_at DX6_bestAt_0 6 rfl) ?_
  exact ⟨rfl, rfl⟩

set_option maxRecDepth 100000 in
set_option maxHeartbeats 4000000 in
theorem c_X6_best_badf (q : gQ3) {M : gM} {B : gB} (hI : cI M B) {x : Nat} (hx : x ≤ 40) {f : Int32} (hf : ¬ gin f 0 999) {n : Int32} : gCt (wC q) yX6_best cX6_best 4 (some .int) 8 [.ref (q.2.2 0), .int (nI x), .int f, .int n] M (gR (some (.int (-2))) M) := by
  refine gMet RX6 (by decide +kernel) rfl (Nat.le_of_ble_eq_true rfl) (fun X hC => ?_)
  have hC : gC X (wC q) cX6_best 4 RX6 (some .int) 8 := hC
  show gG X (wC q) _ 4 M 0 [(0, .ref (q.2.2 0)), (1, .int (nI x)), (2, .int f), (3, .int n)] []
  refine g_iload_n hC (gDec_at DX6_best_0 0 rfl) rfl ?_
  refine g_iload_n hC (gDec_at DX6_best_0 1 rfl) rfl ?_
  refine g_iload_n hC (gDec_at DX6_best_0 2 rfl) rfl ?_
  refine g_callSd (w := wC q) hC (c_X6_isBadSearch_1 q (by omega) (by omega) hf) sf_X6_isBadSearch ml_X6_163 (by decide) rfl rfl (Nat.le_of_ble_eq_true rfl) (gDec_at DX6_best_0 3 rfl) ?_
  refine g_if_eqN hC (by decide) (gDec_at DX6_best_0 4 rfl) 12 (by decide) (fun h => absurd h (by decide)) (fun h => ?_)
  refine g_bipush hC (gDec_at DX6_best_0 5 rfl) (v := -2) (by decide) ?_
  refine g_iret hC (gDec_at DX6_best_0 6 rfl) ?_
  exact ⟨rfl, rfl⟩

set_option maxRecDepth 100000 in
set_option maxHeartbeats 4000000 in
theorem c_X6_bestAt_badf (q : gQ3) {M : gM} {B : gB} (hI : cI M B) {x : Nat} (hx : x ≤ 40) {f : Int32} (hf : ¬ gin f 0 999) {n : Int32} {y : Int32} : gCt (wC q) yX6_bestAt cX6_bestAt 5 (some .int) 8 [.ref (q.2.2 0), .int (nI x), .int f, .int n, .int y] M (gR (some (.int (-2))) M) := by
  refine gMet RX6 (by decide +kernel) rfl (Nat.le_of_ble_eq_true rfl) (fun X hC => ?_)
  have hC : gC X (wC q) cX6_bestAt 5 RX6 (some .int) 8 := hC
  show gG X (wC q) _ 5 M 0 [(0, .ref (q.2.2 0)), (1, .int (nI x)), (2, .int f), (3, .int n), (4, .int y)] []
  refine g_iload_n hC (gDec_at DX6_bestAt_0 0 rfl) rfl ?_
  refine g_iload_n hC (gDec_at DX6_bestAt_0 1 rfl) rfl ?_
  refine g_iload_n hC (gDec_at DX6_bestAt_0 2 rfl) rfl ?_
  refine g_callSd (w := wC q) hC (c_X6_isBadSearch_1 q (by omega) (by omega) hf) sf_X6_isBadSearch ml_X6_163 (by decide) rfl rfl (Nat.le_of_ble_eq_true rfl) (gDec_at DX6_bestAt_0 3 rfl) ?_
  refine g_if_eqN hC (by decide) (gDec_at DX6_bestAt_0 4 rfl) 12 (by decide) (fun h => absurd h (by decide)) (fun h => ?_)
  refine g_bipush hC (gDec_at DX6_bestAt_0 5 rfl) (v := -2) (by decide) ?_
  refine g_iret hC (gDec_at DX6_bestAt_0 6 rfl) ?_
  exact ⟨rfl, rfl⟩

set_option maxRecDepth 100000 in
set_option maxHeartbeats 4000000 in
theorem c_X6_best_badn (q : gQ3) {M : gM} {B : gB} (hI : cI M B) {x : Nat} (hx : x ≤ 40) {f : Nat} (hfa : 0 ≤ f) (hfb : f ≤ 999) {n : Int32} (hn : ¬ gin n 1 3) : gCt (wC q) yX6_best cX6_best 4 (some .int) 8 [.ref (q.2.2 0), .int (nI x), .int (nI f), .int n] M (gR (some (.int (-2))) M) := by
  refine gMet RX6 (by decide +kernel) rfl (Nat.le_of_ble_eq_true rfl) (fun X hC => ?_)
  have hC : gC X (wC q) cX6_best 4 RX6 (some .int) 8 := hC
  show gG X (wC q) _ 4 M 0 [(0, .ref (q.2.2 0)), (1, .int (nI x)), (2, .int (nI f)), (3, .int n)] []
  refine g_iload_n hC (gDec_at DX6_best_0 0 rfl) rfl ?_
  refine g_iload_n hC (gDec_at DX6_best_0 1 rfl) rfl ?_
  refine g_iload_n hC (gDec_at DX6_best_0 2 rfl) rfl ?_
  refine g_callSd (w := wC q) hC (c_X6_isBadSearch_2 q (by omega) (by omega) (by omega) (by omega) hn) sf_X6_isBadSearch ml_X6_163 (by decide) rfl rfl (Nat.le_of_ble_eq_true rfl) (gDec_at DX6_best_0 3 rfl) ?_
  refine g_if_eqN hC (by decide) (gDec_at DX6_best_0 4 rfl) 12 (by decide) (fun h => absurd h (by decide)) (fun h => ?_)
  refine g_bipush hC (gDec_at DX6_best_0 5 rfl) (v := -2) (by decide) ?_
  refine g_iret hC (gDec_at DX6_best_0 6 rfl) ?_
  exact ⟨rfl, rfl⟩

set_option maxRecDepth 100000 in
set_option maxHeartbeats 4000000 in
theorem c_X6_bestAt_badn (q : gQ3) {M : gM} {B : gB} (hI : cI M B) {x : Nat} (hx : x ≤ 40) {f : Nat} (hfa : 0 ≤ f) (hfb : f ≤ 999) {n : Int32} (hn : ¬ gin n 1 3) {y : Int32} : gCt (wC q) yX6_bestAt cX6_bestAt 5 (some .int) 8 [.ref (q.2.2 0), .int (nI x), .int (nI f), .int n, .int y] M (gR (some (.int (-2))) M) := by
  refine gMet RX6 (by decide +kernel) rfl (Nat.le_of_ble_eq_true rfl) (fun X hC => ?_)
  have hC : gC X (wC q) cX6_bestAt 5 RX6 (some .int) 8 := hC
  show gG X (wC q) _ 5 M 0 [(0, .ref (q.2.2 0)), (1, .int (nI x)), (2, .int (nI f)), (3, .int n), (4, .int y)] []
  refine g_iload_n hC (gDec_at DX6_bestAt_0 0 rfl) rfl ?_
  refine g_iload_n hC (gDec_at DX6_bestAt_0 1 rfl) rfl ?_
  refine g_iload_n hC (gDec_at DX6_bestAt_0 2 rfl) rfl ?_
  refine g_callSd (w := wC q) hC (c_X6_isBadSearch_2 q (by omega) (by omega) (by omega) (by omega) hn) sf_X6_isBadSearch ml_X6_163 (by decide) rfl rfl (Nat.le_of_ble_eq_true rfl) (gDec_at DX6_bestAt_0 3 rfl) ?_
  refine g_if_eqN hC (by decide) (gDec_at DX6_bestAt_0 4 rfl) 12 (by decide) (fun h => absurd h (by decide)) (fun h => ?_)
  refine g_bipush hC (gDec_at DX6_bestAt_0 5 rfl) (v := -2) (by decide) ?_
  refine g_iret hC (gDec_at DX6_bestAt_0 6 rfl) ?_
  exact ⟨rfl, rfl⟩

set_option maxRecDepth 100000 in
set_option maxHeartbeats 4000000 in
theorem c_X6_best_ok (q : gQ3) {M : gM} {B : gB} (hI : cI M B) {x f n : Nat} (hx : x ≤ 40) (hfb : f ≤ 999) (hna : 1 ≤ n) (hnb : n ≤ 3) : gCt (wC q) yX6_best cX6_best 4 (some .int) 10 [.ref (q.2.2 0), .int (nI x), .int (nI f), .int (nI n)] M (fun v M' => v = some (.int (bk (sBest B x f n).1)) ∧ qO M M') := by
  refine gMet RX6 (by decide +kernel) rfl (Nat.le_of_ble_eq_true rfl) (fun X hC => ?_)
  have hC : gC X (wC q) cX6_best 4 RX6 (some .int) 10 := hC
  show gG X (wC q) _ 4 M 0 [(0, .ref (q.2.2 0)), (1, .int (nI x)), (2, .int (nI f)), (3, .int (nI n))] []
  refine g_iload_n hC (gDec_at DX6_best_0 0 rfl) rfl ?_
  refine g_iload_n hC (gDec_at DX6_best_0 1 rfl) rfl ?_
  refine g_iload_n hC (gDec_at DX6_best_0 2 rfl) rfl ?_
  refine g_callSd (w := wC q) hC (c_X6_isBadSearch_3 q (by omega) (by omega) (by omega) (by omega) (by omega) (by omega)) sf_X6_isBadSearch ml_X6_163 (by decide) rfl rfl (Nat.le_of_ble_eq_true rfl) (gDec_at DX6_best_0 3 rfl) ?_
  refine g_if_eqN hC (by decide) (gDec_at DX6_best_0 4 rfl) 12 (by decide) (fun h => ?_) (fun h => absurd h (by decide))
  refine g_aload_n hC (gDec_at DX6_best_0 7 rfl) rfl ?_
  refine g_get (w := wC q) hC 0 (v := .ref (q.2.2 3)) fl_X6_26 (show 0 < 63 from by decide) rfl rfl (gDec_at DX6_best_0 8 rfl) ?_
  refine g_aload_n hC (gDec_at DX6_best_0 9 rfl) rfl ?_
  refine g_get (w := wC q) hC 0 (v := .ref (q.2.2 9)) fl_X6_19 (show 0 < 63 from by decide) rfl rfl (gDec_at DX6_best_0 10 rfl) ?_
  refine g_iload_n hC (gDec_at DX6_best_0 11 rfl) rfl ?_
  refine g_iload_n hC (gDec_at DX6_best_0 12 rfl) rfl ?_
  refine g_iload_n hC (gDec_at DX6_best_0 13 rfl) rfl ?_
  refine g_callV (w := wC q) hC (i := 3) (c_X2_seek q hI hx hfb hna hnb) vf_X2_seek ml_X6_166 (by decide) (show 3 < 63 from by decide) rfl rfl rfl rfl rfl (Nat.le_of_ble_eq_true rfl) (gDec_at DX6_best_0 14 rfl) (fun v_23 M_23 hq_23 => ?_)
  obtain ⟨rfl, hq1, ho1⟩ := hq_23
  refine g_aload_n hC (gDec_at DX6_best_0 15 rfl) rfl ?_
  refine g_get (w := wC q) hC 0 (v := .ref (q.2.2 3)) fl_X6_26 (show 0 < 63 from by decide) rfl rfl (gDec_at DX6_best_0 16 rfl) ?_
  refine g_get (w := wC q) hC 3 (v := .int (bk (sBest B x f n).1)) fl_X6_170 (show 3 < 63 from by decide) rfl (g_sv hq1.2.2.2.1) (gDec_at DX6_best_0 17 rfl) ?_
  refine g_iret hC (gDec_at DX6_best_0 18 rfl) ?_
  exact ⟨rfl, ho1⟩

set_option maxRecDepth 100000 in
set_option maxHeartbeats 4000000 in
theorem c_X6_bestAt_in (q : gQ3) {M : gM} {B : gB} (hI : cI M B) {x f n : Nat} (hx : x ≤ 40) (hfb : f ≤ 999) (hna : 1 ≤ n) (hnb : n ≤ 3) {i : Nat} (hi : i < (sBest B x f n).2.1) : gCt (wC q) yX6_bestAt cX6_bestAt 5 (some .int) 10 [.ref (q.2.2 0), .int (nI x), .int (nI f), .int (nI n), .int (nI i)] M (fun v M' => v = some (.int (nI ((sBest B x f n).2.2 i))) ∧ qO M M') := by
  refine gMet RX6 (by decide +kernel) rfl (Nat.le_of_ble_eq_true rfl) (fun X hC => ?_)
  have hC : gC X (wC q) cX6_bestAt 5 RX6 (some .int) 10 := hC
  show gG X (wC q) _ 5 M 0 [(0, .ref (q.2.2 0)), (1, .int (nI x)), (2, .int (nI f)), (3, .int (nI n)), (4, .int (nI i))] []
  refine g_iload_n hC (gDec_at DX6_bestAt_0 0 rfl) rfl ?_
  refine g_iload_n hC (gDec_at DX6_bestAt_0 1 rfl) rfl ?_
  refine g_iload_n hC (gDec_at DX6_bestAt_0 2 rfl) rfl ?_
  refine g_callSd (w := wC q) hC (c_X6_isBadSearch_3 q (by omega) (by omega) (by omega) (by omega) (by omega) (by omega)) sf_X6_isBadSearch ml_X6_163 (by decide) rfl rfl (Nat.le_of_ble_eq_true rfl) (gDec_at DX6_bestAt_0 3 rfl) ?_
  refine g_if_eqN hC (by decide) (gDec_at DX6_bestAt_0 4 rfl) 12 (by decide) (fun h => ?_) (fun h => absurd h (by decide))
  refine g_aload_n hC (gDec_at DX6_bestAt_0 7 rfl) rfl ?_
  refine g_get (w := wC q) hC 0 (v := .ref (q.2.2 3)) fl_X6_26 (show 0 < 63 from by decide) rfl rfl (gDec_at DX6_bestAt_0 8 rfl) ?_
  refine g_aload_n hC (gDec_at DX6_bestAt_0 9 rfl) rfl ?_
  refine g_get (w := wC q) hC 0 (v := .ref (q.2.2 9)) fl_X6_19 (show 0 < 63 from by decide) rfl rfl (gDec_at DX6_bestAt_0 10 rfl) ?_
  refine g_iload_n hC (gDec_at DX6_bestAt_0 11 rfl) rfl ?_
  refine g_iload_n hC (gDec_at DX6_bestAt_0 12 rfl) rfl ?_
  refine g_iload_n hC (gDec_at DX6_bestAt_0 13 rfl) rfl ?_
  refine g_callV (w := wC q) hC (i := 3) (c_X2_seek q hI hx hfb hna hnb) vf_X2_seek ml_X6_166 (by decide) (show 3 < 63 from by decide) rfl rfl rfl rfl rfl (Nat.le_of_ble_eq_true rfl) (gDec_at DX6_bestAt_0 14 rfl) (fun v_23 M_23 hq_23 => ?_)
  obtain ⟨rfl, hq1, ho1⟩ := hq_23
  refine g_aload_n hC (gDec_at DX6_bestAt_0 15 rfl) rfl ?_
  refine g_get (w := wC q) hC 0 (v := .ref (q.2.2 3)) fl_X6_26 (show 0 < 63 from by decide) rfl rfl (gDec_at DX6_bestAt_0 16 rfl) ?_
  refine g_iload hC (gDec_at DX6_bestAt_0 17 rfl) rfl ?_
  refine g_callVd (w := wC q) hC 3 (c_X2_foundPlace_in q hq1 hi) vf_X2_foundPlace ml_X6_173 (by decide) (show 3 < 63 from by decide) rfl rfl rfl rfl rfl (Nat.le_of_ble_eq_true rfl) (gDec_at DX6_bestAt_0 18 rfl) ?_
  refine g_iret hC (gDec_at DX6_bestAt_0 19 rfl) ?_
  exact ⟨rfl, ho1⟩

set_option maxRecDepth 100000 in
set_option maxHeartbeats 4000000 in
theorem c_X6_bestAt_none (q : gQ3) {M : gM} {B : gB} (hI : cI M B) {x f n : Nat} (hx : x ≤ 40) (hfb : f ≤ 999) (hna : 1 ≤ n) (hnb : n ≤ 3) {y : Int32} (hy : ¬ ginl y (sBest B x f n).2.1) : gCt (wC q) yX6_bestAt cX6_bestAt 5 (some .int) 10 [.ref (q.2.2 0), .int (nI x), .int (nI f), .int (nI n), .int y] M (fun v M' => v = some (.int (-9)) ∧ qO M M') := by
  refine gMet RX6 (by decide +kernel) rfl (Nat.le_of_ble_eq_true rfl) (fun X hC => ?_)
  have hC : gC X (wC q) cX6_bestAt 5 RX6 (some .int) 10 := hC
  show gG X (wC q) _ 5 M 0 [(0, .ref (q.2.2 0)), (1, .int (nI x)), (2, .int (nI f)), (3, .int (nI n)), (4, .int y)] []
  refine g_iload_n hC (gDec_at DX6_bestAt_0 0 rfl) rfl ?_
  refine g_iload_n hC (gDec_at DX6_bestAt_0 1 rfl) rfl ?_
  refine g_iload_n hC (gDec_at DX6_bestAt_0 2 rfl) rfl ?_
  refine g_callSd (w := wC q) hC (c_X6_isBadSearch_3 q (by omega) (by omega) (by omega) (by omega) (by omega) (by omega)) sf_X6_isBadSearch ml_X6_163 (by decide) rfl rfl (Nat.le_of_ble_eq_true rfl) (gDec_at DX6_bestAt_0 3 rfl) ?_
  refine g_if_eqN hC (by decide) (gDec_at DX6_bestAt_0 4 rfl) 12 (by decide) (fun h => ?_) (fun h => absurd h (by decide))
  refine g_aload_n hC (gDec_at DX6_bestAt_0 7 rfl) rfl ?_
  refine g_get (w := wC q) hC 0 (v := .ref (q.2.2 3)) fl_X6_26 (show 0 < 63 from by decide) rfl rfl (gDec_at DX6_bestAt_0 8 rfl) ?_
  refine g_aload_n hC (gDec_at DX6_bestAt_0 9 rfl) rfl ?_
  refine g_get (w := wC q) hC 0 (v := .ref (q.2.2 9)) fl_X6_19 (show 0 < 63 from by decide) rfl rfl (gDec_at DX6_bestAt_0 10 rfl) ?_
  refine g_iload_n hC (gDec_at DX6_bestAt_0 11 rfl) rfl ?_
  refine g_iload_n hC (gDec_at DX6_bestAt_0 12 rfl) rfl ?_
  refine g_iload_n hC (gDec_at DX6_bestAt_0 13 rfl) rfl ?_
  refine g_callV (w := wC q) hC (i := 3) (c_X2_seek q hI hx hfb hna hnb) vf_X2_seek ml_X6_166 (by decide) (show 3 < 63 from by decide) rfl rfl rfl rfl rfl (Nat.le_of_ble_eq_true rfl) (gDec_at DX6_bestAt_0 14 rfl) (fun v_23 M_23 hq_23 => ?_)
  obtain ⟨rfl, hq1, ho1⟩ := hq_23
  refine g_aload_n hC (gDec_at DX6_bestAt_0 15 rfl) rfl ?_
  refine g_get (w := wC q) hC 0 (v := .ref (q.2.2 3)) fl_X6_26 (show 0 < 63 from by decide) rfl rfl (gDec_at DX6_bestAt_0 16 rfl) ?_
  refine g_iload hC (gDec_at DX6_bestAt_0 17 rfl) rfl ?_
  refine g_callVd (w := wC q) hC 3 (c_X2_foundPlace_out q hq1 hy) vf_X2_foundPlace ml_X6_173 (by decide) (show 3 < 63 from by decide) rfl rfl rfl rfl rfl (Nat.le_of_ble_eq_true rfl) (gDec_at DX6_bestAt_0 18 rfl) ?_
  refine g_iret hC (gDec_at DX6_bestAt_0 19 rfl) ?_
  exact ⟨rfl, ho1⟩
