/-! THE REFERENCE: the third scrape sought -/
/-- one scrape more, from place a on; n: how far the loop is -/
def mF1 (P f : Nat) (B : gB) (tk : Nat) (wy : Nat → Nat) (a n : Nat) (T : gT) : gT := gfold (fun c T => if a ≤ c ∧ c % 6 < B 9 0 ∧ 4 < B 1 c then mjd P f (dec B c) (tk + 1) (wyU wy tk c) T else T) n T
def mF2 (P f : Nat) (B : gB) (tk : Nat) (wy : Nat → Nat) (a n : Nat) (T : gT) : gT := gfold (fun b T => if a ≤ b ∧ b % 6 < B 9 0 ∧ 4 < B 1 b then mF1 P f (dec B b) (tk + 1) (wyU wy tk b) b 12 T else T) n T
def mF3 (P f : Nat) (B : gB) (tk : Nat) (wy : Nat → Nat) (a n : Nat) (T : gT) : gT := gfold (fun b T => if a ≤ b ∧ b % 6 < B 9 0 ∧ 4 < B 1 b then mF2 P f (dec B b) (tk + 1) (wyU wy tk b) b 12 T else T) n T
theorem gf_lo {α : Type} {a : Nat} {C : Nat → Prop} [DecidablePred C] {g : Nat → α → α} {T : α} : ∀ n, n ≤ a → gfold (fun c T => if a ≤ c ∧ C c then g c T else T) n T = T
  | 0, _ => rfl
  | n + 1, h => by
    show (if a ≤ n ∧ C n then g n (gfold (fun c T => if a ≤ c ∧ C c then g c T else T) n T) else gfold (fun c T => if a ≤ c ∧ C c then g c T else T) n T) = T
    rw [if_neg (by omega), gf_lo n (by omega)]
theorem mF1_lo {P f : Nat} {B : gB} {tk : Nat} {wy : Nat → Nat} {a : Nat} {T : gT} : mF1 P f B tk wy a a T = T := gf_lo (C := fun c => c % 6 < B 9 0 ∧ 4 < B 1 c) a (Nat.le_refl a)
theorem mF2_lo {P f : Nat} {B : gB} {tk : Nat} {wy : Nat → Nat} {a : Nat} {T : gT} : mF2 P f B tk wy a a T = T := gf_lo (C := fun c => c % 6 < B 9 0 ∧ 4 < B 1 c) a (Nat.le_refl a)
theorem mF3_lo {P f : Nat} {B : gB} {tk : Nat} {wy : Nat → Nat} {a : Nat} {T : gT} : mF3 P f B tk wy a a T = T := gf_lo (C := fun c => c % 6 < B 9 0 ∧ 4 < B 1 c) a (Nat.le_refl a)
theorem lay_I {M : gM} {B : gB} (hI : mI M B) {i t : Nat} {y : Int32} (h : 4 < B 1 i) : mI (gupd (gupd M 3 i (nI (B 1 i - 1))) 15 t y) (dec B i) := mI_Q (dec_m hI h) (mQ_c mQ_rf (by omega))
theorem lay_T {M : gM} {tk : Nat} {wy : Nat → Nat} {T : gT} (hT : tS M tk wy T) {i : Nat} (hi : i < 12) {x : Int32} : tS (gupd (gupd M 3 i x) 15 tk (nI i)) (tk + 1) (wyU wy tk i) T := by
  obtain ⟨h1, h2, h3, h4, h5, h6⟩ := hT
  refine ⟨by rw [gupd_get, if_neg (by omega), gupd_get, if_neg (by omega)]; exact h1, by rw [gupd_get, if_neg (by omega), gupd_get, if_neg (by omega)]; exact h2, h3, h4, fun k hk => ?_, fun k hk => by rw [gupd_get, if_neg (by omega), gupd_get, if_neg (by omega)]; exact h6 k hk⟩
  unfold wyU
  by_cases e : k = tk
  · subst e; rw [gupd_get, if_pos ⟨rfl, rfl⟩, if_pos rfl]; exact ⟨rfl, hi⟩
  · rw [gupd_get, if_neg (by omega), gupd_get, if_neg (by omega), if_neg e]; exact h5 k (by omega)
theorem mQ_back {M1 M2 : gM} {i t : Nat} {v x y : Int32} (hv : M1.1 3 i = v) (h : mQ (gupd (gupd M1 3 i x) 15 t y) M2) : mQ M1 (gupd M2 3 i v) := by
  refine ⟨fun c h0 h1 h2 => ?_, fun k a b => ?_⟩
  · funext z
    rw [gupd_get]
    by_cases e : c = 3 ∧ z = i
    · rw [if_pos e, e.1, e.2, hv]
    · rw [if_neg e, h.1 c h0 h1 h2, gupd_get, if_neg (by omega), gupd_get, if_neg e]
  · rw [gupd_get, if_neg (by omega), h.2 k a b, gupd_get, if_neg (by omega), gupd_get, if_neg (by omega)]
theorem tS_back {M : gM} {tk v : Nat} {wy : Nat → Nat} {T : gT} (h : tS M (tk + 1) (wyU wy tk v) T) {i : Nat} {x : Int32} : tS (gupd M 3 i x) tk wy T := by
  obtain ⟨h1, h2, h3, h4, h5, h6⟩ := h
  refine ⟨by rw [gupd_get, if_neg (by omega)]; exact h1, by rw [gupd_get, if_neg (by omega)]; exact h2, h3, h4, fun k hk => ?_, fun k hk => by rw [gupd_get, if_neg (by omega)]; exact h6 k hk⟩
  have := h5 k (by omega)
  unfold wyU at this
  rw [if_neg (by omega)] at this
  rw [gupd_get, if_neg (by omega)]
  exact this
theorem lay_at {M1 M2 : gM} {i t : Nat} {x y : Int32} (h : mQ (gupd (gupd M1 3 i x) 15 t y) M2) : M2.1 3 i = x := by
  rw [h.1 3 (by omega) (by omega) (by omega), gupd_get, if_neg (by omega), gupd_get, if_pos ⟨rfl, rfl⟩]
set_option maxRecDepth 100000 in
set_option maxHeartbeats 4000000 in
theorem c_X7_findThird (q : gQ3) {M : gM} {B : gB} (hI : mI M B) {x f a : Nat} (hx : x ≤ 40) (hf : f ≤ 999) (ha : a < 12) {wy : Nat → Nat} {T : gT} (hT : tS M 1 wy T) : gCt (wM q) yX7_findThird cX7_findThird 6 none 8 [.ref (q.2.2 0), .int (nI x), .int (nI f), .int (nI a)] M (fun v M' => v = none ∧ tS M' 1 wy (mF2 (sPull B x) f B 1 wy a 12 T) ∧ mQ M M') := by
  refine gMet RX7 (by decide +kernel) rfl (Nat.le_of_ble_eq_true rfl) (fun X hC => ?_)
  have hC : gC X (wM q) cX7_findThird 6 RX7 none 8 := hC
  show gG X (wM q) _ 6 M 0 [(0, .ref (q.2.2 0)), (1, .int (nI x)), (2, .int (nI f)), (3, .int (nI a))] []
  refine g_iload_n hC (gDec_at DX7_findThird_0 0 rfl) rfl ?_
  refine g_istore hC (gDec_at DX7_findThird_0 1 rfl) (by decide) (L' := [(4, .int (nI a)), (0, .ref (q.2.2 0)), (1, .int (nI x)), (2, .int (nI f)), (3, .int (nI a))]) rfl ?_
  have loop3 : ∀ (fu i : Nat) (M1 : gM), i ≤ 12 → 12 - i < fu → mQ M M1 → tS M1 1 wy (mF2 (sPull B x) f B 1 wy a i T) → a ≤ i → gG X (wM q) (fun v M' => v = none ∧ tS M' 1 wy (mF2 (sPull B x) f B 1 wy a 12 T) ∧ mQ M M') 6 M1 3 [(0, .ref (q.2.2 0)), (1, .int (nI x)), (2, .int (nI f)), (3, .int (nI a)), (4, .int (nI i))] [] := by
    intro fu; induction fu with
    | zero => intro i M1 h1 h2; omega
    | succ fu ih =>
      intro i M1 hi hfu hq1 hT1 hai
      have hI1 := mI_Q hI hq1
      by_cases hl : i % 6 < B 9 0 ∧ 4 < B 1 i
      · skip
        refine g_iload hC (gDec_at DX7_findThird_0 2 rfl) rfl ?_
        refine g_bipush hC (gDec_at DX7_findThird_0 3 rfl) (v := nI 12) (by decide) ?_
        refine g_icmp_geN hC (by omega) (by omega) (gDec_at DX7_findThird_0 4 rfl) 82 (by decide) (fun h7 => ?_) (fun h7 => ?_)
        · skip
          obtain rfl : i = 12 := by omega
          refine g_vret hC (gDec_at DX7_findThird_0 45 rfl) ?_
          exact ⟨rfl, hT1, hq1⟩
        · skip
          refine g_aload_n hC (gDec_at DX7_findThird_0 5 rfl) rfl ?_
          refine g_iload hC (gDec_at DX7_findThird_0 6 rfl) rfl ?_
          refine g_iconst hC (gDec_at DX7_findThird_0 7 rfl) (v := nI 1) (by decide) ?_
          refine g_callVd (w := wM q) hC 0 (c_X7_lay_ok q hI1 (i := i) (n := 1) (by omega) (by omega) hl) vf_X7_lay ml_X7_191 (by decide) (show 0 < 17 from by decide) rfl rfl rfl rfl rfl (Nat.le_of_ble_eq_true rfl) (gDec_at DX7_findThird_0 8 rfl) ?_
          have hI2 := lay_I hI1 (i := i) (t := 1) (y := nI i) hl.2
          have hT2 := lay_T hT1 (i := i) (x := nI (B 1 i - 1)) (by omega)
          have hb2 := fun M3 (h : mQ (gupd (gupd M1 3 i (nI (B 1 i - 1))) 15 1 (nI i)) M3) => mQ_back (mi_f1 hI1 (by omega) hl.1) h
          have ha2 := fun M3 (h : mQ (gupd (gupd M1 3 i (nI (B 1 i - 1))) 15 1 (nI i)) M3) => lay_at h
          generalize hM2 : gupd (gupd M1 3 i (nI (B 1 i - 1))) 15 1 (nI i) = M2 at hI2 hT2 hb2 ha2 ⊢
          refine g_if_eqN hC (by decide) (gDec_at DX7_findThird_0 9 rfl) 76 (by decide) (fun h => absurd h (by decide)) (fun h => ?_)
          refine g_iload hC (gDec_at DX7_findThird_0 10 rfl) rfl ?_
          refine g_istore hC (gDec_at DX7_findThird_0 11 rfl) (by decide) (L' := [(5, .int (nI i)), (0, .ref (q.2.2 0)), (1, .int (nI x)), (2, .int (nI f)), (3, .int (nI a)), (4, .int (nI i))]) rfl ?_
          have lp2 : ∀ (fu j : Nat) (M3 : gM), j ≤ 12 → 12 - j < fu → mQ M2 M3 → tS M3 2 (wyU wy 1 i) (mF1 (sPull B x) f (dec B i) 2 (wyU wy 1 i) i j (mF2 (sPull B x) f B 1 wy a i T)) → i ≤ j → gG X (wM q) (fun v M' => v = none ∧ tS M' 1 wy (mF2 (sPull B x) f B 1 wy a 12 T) ∧ mQ M M') 6 M3 24 [(0, .ref (q.2.2 0)), (1, .int (nI x)), (2, .int (nI f)), (3, .int (nI a)), (4, .int (nI i)), (5, .int (nI j))] [] := by
            intro fu; induction fu with
            | zero => intro j M3 h1 h2; omega
            | succ fu ih_lp2 =>
              intro j M3 hj12 hfu hq3 hT3 hij
              have hI3 := mI_Q hI2 hq3
              by_cases hk : j % 6 < dec B i 9 0 ∧ 4 < dec B i 1 j
              · skip
                refine g_iload hC (gDec_at DX7_findThird_0 12 rfl) rfl ?_
                refine g_bipush hC (gDec_at DX7_findThird_0 13 rfl) (v := nI 12) (by decide) ?_
                refine g_icmp_geN hC (by omega) (by omega) (gDec_at DX7_findThird_0 14 rfl) 65 (by decide) (fun h28 => ?_) (fun h28 => ?_)
                · skip
                  obtain rfl : j = 12 := by omega
                  have hb3 := hb2 _ hq3
                  refine g_sub [0, 1, 2, 3, 4] (L' := [(0, .ref (q.2.2 0)), (1, .int (nI x)), (2, .int (nI f)), (3, .int (nI a)), (4, .int (nI i))]) rfl ?_
                  refine g_aload_n hC (gDec_at DX7_findThird_0 35 rfl) rfl ?_
                  refine g_get (w := wM q) hC 0 (v := .ref (q.2.2 3)) fl_X7_20 (show 0 < 17 from by decide) rfl rfl (gDec_at DX7_findThird_0 36 rfl) ?_
                  refine g_iload hC (gDec_at DX7_findThird_0 37 rfl) rfl ?_
                  refine g_dup2 hC (gDec_at DX7_findThird_0 38 rfl) rfl rfl ?_
                  refine g_iald (w := wM q) hC 3 0 i (x := (nI (B 1 i - 1))) (show 3 < 17 from by decide) rfl rfl (by omega) (by decide) (ha2 _ hq3) (gDec_at DX7_findThird_0 39 rfl) ?_
                  refine g_iconst hC (gDec_at DX7_findThird_0 40 rfl) (v := nI 1) (by decide) ?_
                  refine g_iaddN hC (gDec_at DX7_findThird_0 41 rfl) ?_
                  refine g_iast (w := wM q) hC 3 0 i (show 3 < 17 from by decide) rfl rfl rfl (by omega) (by decide) (gDec_at DX7_findThird_0 42 rfl) ?_
                  rw [show B 1 i - 1 + 1 = B 1 i by omega]
                  refine g_iincN hC (gDec_at DX7_findThird_0 43 rfl) rfl (by decide) (L' := [(4, .int (nI (i + 1))), (0, .ref (q.2.2 0)), (1, .int (nI x)), (2, .int (nI f)), (3, .int (nI a))]) rfl ?_
                  refine g_goto hC (gDec_at DX7_findThird_0 44 rfl) 3 (by decide) ?_
                  refine g_sub [1, 2, 3, 4, 0] (L' := [(0, .ref (q.2.2 0)), (1, .int (nI x)), (2, .int (nI f)), (3, .int (nI a)), (4, .int (nI (i + 1)))]) rfl ?_
                  have e9 : (mF2 (sPull B x) f B 1 wy a (i + 1) T) = (mF1 (sPull B x) f (dec B i) 2 (wyU wy 1 i) i 12 (mF2 (sPull B x) f B 1 wy a i T)) := if_pos ⟨hai, hl⟩
                  have h9 := ih (i + 1) (gupd M3 3 i (nI (B 1 i))) (by omega) (by omega) (mQ_tr hq1 hb3) (by rw [e9]; exact tS_back hT3) (by omega)
                  exact h9
                · skip
                  refine g_aload_n hC (gDec_at DX7_findThird_0 15 rfl) rfl ?_
                  refine g_iload hC (gDec_at DX7_findThird_0 16 rfl) rfl ?_
                  refine g_iconst hC (gDec_at DX7_findThird_0 17 rfl) (v := nI 2) (by decide) ?_
                  refine g_callVd (w := wM q) hC 0 (c_X7_lay_ok q hI3 (i := j) (n := 2) (by omega) (by omega) hk) vf_X7_lay ml_X7_191 (by decide) (show 0 < 17 from by decide) rfl rfl rfl rfl rfl (Nat.le_of_ble_eq_true rfl) (gDec_at DX7_findThird_0 18 rfl) ?_
                  have hI4 := lay_I hI3 (i := j) (t := 2) (y := nI j) hk.2
                  have hT4 := lay_T hT3 (i := j) (x := nI (dec B i 1 j - 1)) (by omega)
                  have hb4 := fun M5 (h : mQ (gupd (gupd M3 3 j (nI (dec B i 1 j - 1))) 15 2 (nI j)) M5) => mQ_back (mi_f1 hI3 (by omega) hk.1) h
                  have ha4 := fun M5 (h : mQ (gupd (gupd M3 3 j (nI (dec B i 1 j - 1))) 15 2 (nI j)) M5) => lay_at h
                  generalize hM4 : gupd (gupd M3 3 j (nI (dec B i 1 j - 1))) 15 2 (nI j) = M4 at hI4 hT4 hb4 ha4 ⊢
                  refine g_if_eqN hC (by decide) (gDec_at DX7_findThird_0 19 rfl) 59 (by decide) (fun h => absurd h (by decide)) (fun h => ?_)
                  refine g_aload_n hC (gDec_at DX7_findThird_0 20 rfl) rfl ?_
                  refine g_iload_n hC (gDec_at DX7_findThird_0 21 rfl) rfl ?_
                  refine g_iload_n hC (gDec_at DX7_findThird_0 22 rfl) rfl ?_
                  refine g_iconst hC (gDec_at DX7_findThird_0 23 rfl) (v := nI 3) (by decide) ?_
                  refine g_callV (w := wM q) hC (i := 0) (c_X7_weigh q hI4 (x := x) (f := f) (n := 3) hx hf (by omega) hT4) vf_X7_weigh ml_X7_187 (by decide) (show 0 < 17 from by decide) rfl rfl rfl rfl rfl (Nat.le_of_ble_eq_true rfl) (gDec_at DX7_findThird_0 24 rfl) (fun v_45 M_45 hq_45 => ?_)
                  obtain ⟨rfl, hT5, hq5⟩ := hq_45
                  have hb5 := hb4 _ hq5
                  refine g_aload_n hC (gDec_at DX7_findThird_0 25 rfl) rfl ?_
                  refine g_get (w := wM q) hC 0 (v := .ref (q.2.2 3)) fl_X7_20 (show 0 < 17 from by decide) rfl rfl (gDec_at DX7_findThird_0 26 rfl) ?_
                  refine g_iload hC (gDec_at DX7_findThird_0 27 rfl) rfl ?_
                  refine g_dup2 hC (gDec_at DX7_findThird_0 28 rfl) rfl rfl ?_
                  refine g_iald (w := wM q) hC 3 0 j (x := (nI (dec B i 1 j - 1))) (show 3 < 17 from by decide) rfl rfl (by omega) (by decide) (ha4 _ hq5) (gDec_at DX7_findThird_0 29 rfl) ?_
                  refine g_iconst hC (gDec_at DX7_findThird_0 30 rfl) (v := nI 1) (by decide) ?_
                  refine g_iaddN hC (gDec_at DX7_findThird_0 31 rfl) ?_
                  refine g_iast (w := wM q) hC 3 0 j (show 3 < 17 from by decide) rfl rfl rfl (by omega) (by decide) (gDec_at DX7_findThird_0 32 rfl) ?_
                  rw [show dec B i 1 j - 1 + 1 = dec B i 1 j by omega]
                  refine g_iincN hC (gDec_at DX7_findThird_0 33 rfl) rfl (by decide) (L' := [(5, .int (nI (j + 1))), (0, .ref (q.2.2 0)), (1, .int (nI x)), (2, .int (nI f)), (3, .int (nI a)), (4, .int (nI i))]) rfl ?_
                  refine g_goto hC (gDec_at DX7_findThird_0 34 rfl) 24 (by decide) ?_
                  refine g_sub [1, 2, 3, 4, 5, 0] (L' := [(0, .ref (q.2.2 0)), (1, .int (nI x)), (2, .int (nI f)), (3, .int (nI a)), (4, .int (nI i)), (5, .int (nI (j + 1)))]) rfl ?_
                  have e9 : (mF1 (sPull B x) f (dec B i) 2 (wyU wy 1 i) i (j + 1) (mF2 (sPull B x) f B 1 wy a i T)) = mjd (sPull B x) f (dec (dec B i) j) 3 (wyU (wyU wy 1 i) 2 j) (mF1 (sPull B x) f (dec B i) 2 (wyU wy 1 i) i j (mF2 (sPull B x) f B 1 wy a i T)) := if_pos ⟨hij, hk⟩
                  have h9 := ih_lp2 (j + 1) (gupd M_45 3 j (nI (dec B i 1 j))) (by omega) (by omega) (mQ_tr hq3 hb5) (by rw [e9]; exact tS_back hT5) (by omega)
                  exact h9
              · skip
                refine g_iload hC (gDec_at DX7_findThird_0 12 rfl) rfl ?_
                refine g_bipush hC (gDec_at DX7_findThird_0 13 rfl) (v := nI 12) (by decide) ?_
                refine g_icmp_geN hC (by omega) (by omega) (gDec_at DX7_findThird_0 14 rfl) 65 (by decide) (fun h28_1 => ?_) (fun h28_1 => ?_)
                · skip
                  obtain rfl : j = 12 := by omega
                  have hb3 := hb2 _ hq3
                  refine g_sub [0, 1, 2, 3, 4] (L' := [(0, .ref (q.2.2 0)), (1, .int (nI x)), (2, .int (nI f)), (3, .int (nI a)), (4, .int (nI i))]) rfl ?_
                  refine g_aload_n hC (gDec_at DX7_findThird_0 35 rfl) rfl ?_
                  refine g_get (w := wM q) hC 0 (v := .ref (q.2.2 3)) fl_X7_20 (show 0 < 17 from by decide) rfl rfl (gDec_at DX7_findThird_0 36 rfl) ?_
                  refine g_iload hC (gDec_at DX7_findThird_0 37 rfl) rfl ?_
                  refine g_dup2 hC (gDec_at DX7_findThird_0 38 rfl) rfl rfl ?_
                  refine g_iald (w := wM q) hC 3 0 i (x := (nI (B 1 i - 1))) (show 3 < 17 from by decide) rfl rfl (by omega) (by decide) (ha2 _ hq3) (gDec_at DX7_findThird_0 39 rfl) ?_
                  refine g_iconst hC (gDec_at DX7_findThird_0 40 rfl) (v := nI 1) (by decide) ?_
                  refine g_iaddN hC (gDec_at DX7_findThird_0 41 rfl) ?_
                  refine g_iast (w := wM q) hC 3 0 i (show 3 < 17 from by decide) rfl rfl rfl (by omega) (by decide) (gDec_at DX7_findThird_0 42 rfl) ?_
                  rw [show B 1 i - 1 + 1 = B 1 i by omega]
                  refine g_iincN hC (gDec_at DX7_findThird_0 43 rfl) rfl (by decide) (L' := [(4, .int (nI (i + 1))), (0, .ref (q.2.2 0)), (1, .int (nI x)), (2, .int (nI f)), (3, .int (nI a))]) rfl ?_
                  refine g_goto hC (gDec_at DX7_findThird_0 44 rfl) 3 (by decide) ?_
                  refine g_sub [1, 2, 3, 4, 0] (L' := [(0, .ref (q.2.2 0)), (1, .int (nI x)), (2, .int (nI f)), (3, .int (nI a)), (4, .int (nI (i + 1)))]) rfl ?_
                  have e9 : (mF2 (sPull B x) f B 1 wy a (i + 1) T) = (mF1 (sPull B x) f (dec B i) 2 (wyU wy 1 i) i 12 (mF2 (sPull B x) f B 1 wy a i T)) := if_pos ⟨hai, hl⟩
                  have h9 := ih (i + 1) (gupd M3 3 i (nI (B 1 i))) (by omega) (by omega) (mQ_tr hq1 hb3) (by rw [e9]; exact tS_back hT3) (by omega)
                  exact h9
                · skip
                  refine g_aload_n hC (gDec_at DX7_findThird_0 15 rfl) rfl ?_
                  refine g_iload hC (gDec_at DX7_findThird_0 16 rfl) rfl ?_
                  refine g_iconst hC (gDec_at DX7_findThird_0 17 rfl) (v := nI 2) (by decide) ?_
                  refine g_callVd (w := wM q) hC 0 (c_X7_lay_no q hI3 (i := j) (n := 2) (by omega) hk) vf_X7_lay ml_X7_191 (by decide) (show 0 < 17 from by decide) rfl rfl rfl rfl rfl (Nat.le_of_ble_eq_true rfl) (gDec_at DX7_findThird_0 18 rfl) ?_
                  refine g_if_eqN hC (by decide) (gDec_at DX7_findThird_0 19 rfl) 59 (by decide) (fun h => ?_) (fun h => absurd h (by decide))
                  refine g_iincN hC (gDec_at DX7_findThird_0 33 rfl) rfl (by decide) (L' := [(5, .int (nI (j + 1))), (0, .ref (q.2.2 0)), (1, .int (nI x)), (2, .int (nI f)), (3, .int (nI a)), (4, .int (nI i))]) rfl ?_
                  refine g_goto hC (gDec_at DX7_findThird_0 34 rfl) 24 (by decide) ?_
                  refine g_sub [1, 2, 3, 4, 5, 0] (L' := [(0, .ref (q.2.2 0)), (1, .int (nI x)), (2, .int (nI f)), (3, .int (nI a)), (4, .int (nI i)), (5, .int (nI (j + 1)))]) rfl ?_
                  have e9 : (mF1 (sPull B x) f (dec B i) 2 (wyU wy 1 i) i (j + 1) (mF2 (sPull B x) f B 1 wy a i T)) = (mF1 (sPull B x) f (dec B i) 2 (wyU wy 1 i) i j (mF2 (sPull B x) f B 1 wy a i T)) := if_neg (fun z => hk z.2)
                  have h9 := ih_lp2 (j + 1) M3 (by omega) (by omega) (hq3) (by rw [e9]; exact hT3) (by omega)
                  exact h9
          exact g_sub [1, 2, 3, 4, 5, 0] rfl (lp2 (12 + 1 - i) i M2 (by omega) (by omega) mQ_rf (by rw [mF1_lo]; exact hT2) (by omega))
      · skip
        refine g_iload hC (gDec_at DX7_findThird_0 2 rfl) rfl ?_
        refine g_bipush hC (gDec_at DX7_findThird_0 3 rfl) (v := nI 12) (by decide) ?_
        refine g_icmp_geN hC (by omega) (by omega) (gDec_at DX7_findThird_0 4 rfl) 82 (by decide) (fun h7_1 => ?_) (fun h7_1 => ?_)
        · skip
          obtain rfl : i = 12 := by omega
          refine g_vret hC (gDec_at DX7_findThird_0 45 rfl) ?_
          exact ⟨rfl, hT1, hq1⟩
        · skip
          refine g_aload_n hC (gDec_at DX7_findThird_0 5 rfl) rfl ?_
          refine g_iload hC (gDec_at DX7_findThird_0 6 rfl) rfl ?_
          refine g_iconst hC (gDec_at DX7_findThird_0 7 rfl) (v := nI 1) (by decide) ?_
          refine g_callVd (w := wM q) hC 0 (c_X7_lay_no q hI1 (i := i) (n := 1) (by omega) hl) vf_X7_lay ml_X7_191 (by decide) (show 0 < 17 from by decide) rfl rfl rfl rfl rfl (Nat.le_of_ble_eq_true rfl) (gDec_at DX7_findThird_0 8 rfl) ?_
          refine g_if_eqN hC (by decide) (gDec_at DX7_findThird_0 9 rfl) 76 (by decide) (fun h => ?_) (fun h => absurd h (by decide))
          refine g_iincN hC (gDec_at DX7_findThird_0 43 rfl) rfl (by decide) (L' := [(4, .int (nI (i + 1))), (0, .ref (q.2.2 0)), (1, .int (nI x)), (2, .int (nI f)), (3, .int (nI a))]) rfl ?_
          refine g_goto hC (gDec_at DX7_findThird_0 44 rfl) 3 (by decide) ?_
          refine g_sub [1, 2, 3, 4, 0] (L' := [(0, .ref (q.2.2 0)), (1, .int (nI x)), (2, .int (nI f)), (3, .int (nI a)), (4, .int (nI (i + 1)))]) rfl ?_
          have e9 : (mF2 (sPull B x) f B 1 wy a (i + 1) T) = (mF2 (sPull B x) f B 1 wy a i T) := if_neg (fun z => hl z.2)
          have h9 := ih (i + 1) M1 (by omega) (by omega) (hq1) (by rw [e9]; exact hT1) (by omega)
          exact h9
  exact g_sub [1, 2, 3, 4, 0] rfl (loop3 (12 + 1 - a) a M (by omega) (by omega) mQ_rf (by rw [mF2_lo]; exact hT) (by omega))
