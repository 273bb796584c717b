/-! BOW, READ ONLY, on: finding places, extremes, form, load, off -/
section NUL
variable {X : gX} {w : gW} {post : Option Value → gM → Prop} {nL : Nat} {M : gM} {pc : Nat} {L : List (Nat × Value)} {st : List Value} {cc : ByteArray} {own : String} {ret : Option FieldType} {d : Nat}
theorem g_aload_nN (hC : gC X w cc nL own ret d) {i : Fin 4} (hd : decode cc pc = .ok (.aload_n i, 1)) (hl : lvg L i = some .null) (k : gG X w post nL M (pc + 1) L (.null :: st)) : gG X w post nL M pc L st := fun H locs ls hP hS hL => lv_aload_nN hC.1 hC.2.1 hd rfl (lvg_at hL hl) (k H locs ls hP hS hL)
theorem g_aloadN (hC : gC X w cc nL own ret d) {i : Nat} (hd : decode cc pc = .ok (.aload i, 2)) (hl : lvg L i = some .null) (k : gG X w post nL M (pc + 2) L (.null :: st)) : gG X w post nL M pc L st := fun H locs ls hP hS hL => lv_aloadN hC.1 hC.2.1 hd (lvg_at hL hl) (k H locs ls hP hS hL)
theorem g_astore_nN (hC : gC X w cc nL own ret d) {i : Fin 4} (hd : decode cc pc = .ok (.astore_n i, 1)) (hn : (i : Nat) < nL) {L' : List (Nat × Value)} (hl : ((i : Nat), Value.null) :: L.filter (fun q => !(q.1 == (i : Nat)) && !(q.1 + 1 == (i : Nat) && q.2.category == 2)) = L') (k : gG X w post nL M (pc + 1) L' st) : gG X w post nL M pc L (.null :: st) := fun H locs ls hP hS hL => lv_astore_nN hC.1 hC.2.1 hd rfl hL hn hl (fun ls hL => k H locs ls hP hS hL)
theorem g_astoreN (hC : gC X w cc nL own ret d) {i : Nat} (hd : decode cc pc = .ok (.astore i, 2)) (hn : i < nL) {L' : List (Nat × Value)} (hl : (i, Value.null) :: L.filter (fun q => !(q.1 == i) && !(q.1 + 1 == i && q.2.category == 2)) = L') (k : gG X w post nL M (pc + 2) L' st) : gG X w post nL M pc L (.null :: st) := fun H locs ls hP hS hL => lv_astoreN hC.1 hC.2.1 hd hL hn hl (fun ls hL => k H locs ls hP hS hL)
theorem g_ifnonnullN (hC : gC X w cc nL own ret d) {off : Int} (hd : decode cc pc = .ok (.ifnonnull off, 3)) (k : gG X w post nL M (pc + 3) L st) (tgt : Nat) (ht : (pc : Int) + off = (tgt : Int)) : gG X w post nL M pc L (.null :: st) := fun H locs ls hP hS hL => lv_ifnonnullN hC.1 hC.2.1 hd (k H locs ls hP hS hL)
theorem g_ifnullN (hC : gC X w cc nL own ret d) {off : Int} (hd : decode cc pc = .ok (.ifnull off, 3)) (tgt : Nat) (ht : (pc : Int) + off = (tgt : Int)) (k : gG X w post nL M tgt L st) : gG X w post nL M pc L (.null :: st) := fun H locs ls hP hS hL => lv_ifnullN hC.1 hC.2.1 hd ht (k H locs ls hP hS hL)
end NUL
/-- an int lies in a range of small numbers -/
def gin (x : Int32) (a b : Nat) : Prop := (a : Int) ≤ x.toInt ∧ x.toInt ≤ b
theorem gin_ex {x : Int32} {a b : Nat} (h : gin x a b) : ∃ k : Nat, a ≤ k ∧ k ≤ b ∧ x = nI k := by
  obtain ⟨h1, h2⟩ := h
  have h3 := Int32.toInt_lt x
  refine ⟨x.toInt.toNat, by omega, by omega, ?_⟩
  apply Int32.toInt_inj.mp
  rw [nI_toInt (by omega)]
  omega
theorem nI_gin {k a b : Nat} (h1 : a ≤ k) (h2 : k ≤ b) (h3 : k < 2147483648) : gin (nI k) a b := by
  unfold gin
  rw [nI_toInt h3]
  omega
theorem lt_I {x y : Int32} : x < y ↔ x.toInt < y.toInt := Int32.lt_iff_toInt_lt
theorem le_I {x y : Int32} : x ≤ y ↔ x.toInt ≤ y.toInt := Int32.le_iff_toInt_le
theorem zI : (0 : Int32).toInt = 0 := by decide
set_option maxRecDepth 100000 in
set_option maxHeartbeats 4000000 in
theorem c_X0_woodNumbered (q : gQ3) {M : gM} {k : Nat} (hk : k < 3) : gCt (wC q) yX0_woodNumbered cX0_woodNumbered 2 (some (.object "BowBend$Wood")) 0 [.ref (q.2.2 9), .int (nI k)] M (gR (some (.ref (q.2.2 (12 + k)))) M) := by
  refine gMet RX0 (by decide +kernel) rfl (Nat.le_of_ble_eq_true rfl) (fun X hC => ?_)
  have hC : gC X (wC q) cX0_woodNumbered 2 RX0 (some (.object "BowBend$Wood")) 0 := hC
  show gG X (wC q) _ 2 M 0 [(0, .ref (q.2.2 9)), (1, .int (nI k))] []
  refine g_iload_n hC (gDec_at DX0_woodNumbered_0 0 rfl) rfl ?_
  refine g_if_ltN hC (by omega) (gDec_at DX0_woodNumbered_0 1 rfl) ?_ 22 (by decide)
  refine g_iload_n hC (gDec_at DX0_woodNumbered_0 2 rfl) rfl ?_
  refine g_aload_n hC (gDec_at DX0_woodNumbered_0 3 rfl) rfl ?_
  refine g_get (w := wC q) hC 9 (v := .ref (q.2.2 10)) fl_X0_14 (show 9 < 63 from by decide) rfl rfl (gDec_at DX0_woodNumbered_0 4 rfl) ?_
  refine g_alen (w := wC q) hC 10 5 (show 10 < 63 from by decide) rfl rfl (gDec_at DX0_woodNumbered_0 5 rfl) ?_
  refine g_icmp_geN hC (by omega) (by omega) (gDec_at DX0_woodNumbered_0 6 rfl) 22 (by decide) (fun h10 => ?_) (fun h10 => ?_)
  · skip
    exact absurd hk (by omega)
  · skip
    refine g_aload_n hC (gDec_at DX0_woodNumbered_0 7 rfl) rfl ?_
    refine g_get (w := wC q) hC 9 (v := .ref (q.2.2 10)) fl_X0_14 (show 9 < 63 from by decide) rfl rfl (gDec_at DX0_woodNumbered_0 8 rfl) ?_
    refine g_iload_n hC (gDec_at DX0_woodNumbered_0 9 rfl) rfl ?_
    refine g_aald (w := wC q) hC 10 5 k (a := q.2.2 (12 + k)) (show 10 < 63 from by decide) rfl rfl (by omega) (by decide) rfl (gDec_at DX0_woodNumbered_0 10 rfl) ?_
    refine g_goto hC (gDec_at DX0_woodNumbered_0 11 rfl) 23 (by decide) ?_
    refine g_aret hC (Or.inr ⟨_, rfl⟩) (gDec_at DX0_woodNumbered_0 13 rfl) ?_
    exact ⟨rfl, rfl⟩

set_option maxRecDepth 100000 in
set_option maxHeartbeats 4000000 in
theorem c_X0_woodNumbered_out (q : gQ3) {M : gM} {x : Int32} (hx : ¬ gin x 0 2) : gCt (wC q) yX0_woodNumbered cX0_woodNumbered 2 (some (.object "BowBend$Wood")) 0 [.ref (q.2.2 9), .int x] M (gR (some .null) M) := by
  refine gMet RX0 (by decide +kernel) rfl (Nat.le_of_ble_eq_true rfl) (fun X hC => ?_)
  have hC : gC X (wC q) cX0_woodNumbered 2 RX0 (some (.object "BowBend$Wood")) 0 := hC
  show gG X (wC q) _ 2 M 0 [(0, .ref (q.2.2 9)), (1, .int x)] []
  refine g_iload_n hC (gDec_at DX0_woodNumbered_0 0 rfl) rfl ?_
  refine g_if_lt hC (gDec_at DX0_woodNumbered_0 1 rfl) 22 (by decide) (fun h1 => ?_) (fun h1 => ?_)
  · skip
    refine g_null hC (gDec_at DX0_woodNumbered_0 12 rfl) ?_
    refine g_aret hC (Or.inl rfl) (gDec_at DX0_woodNumbered_0 13 rfl) ?_
    exact ⟨rfl, rfl⟩
  · skip
    refine g_iload_n hC (gDec_at DX0_woodNumbered_0 2 rfl) rfl ?_
    refine g_aload_n hC (gDec_at DX0_woodNumbered_0 3 rfl) rfl ?_
    refine g_get (w := wC q) hC 9 (v := .ref (q.2.2 10)) fl_X0_14 (show 9 < 63 from by decide) rfl rfl (gDec_at DX0_woodNumbered_0 4 rfl) ?_
    refine g_alen (w := wC q) hC 10 5 (show 10 < 63 from by decide) rfl rfl (gDec_at DX0_woodNumbered_0 5 rfl) ?_
    refine g_icmp_ge hC (gDec_at DX0_woodNumbered_0 6 rfl) 22 (by decide) (fun h10 => ?_) (fun h10 => ?_)
    · skip
      refine g_null hC (gDec_at DX0_woodNumbered_0 12 rfl) ?_
      refine g_aret hC (Or.inl rfl) (gDec_at DX0_woodNumbered_0 13 rfl) ?_
      exact ⟨rfl, rfl⟩
    · skip
      exact absurd (show gin x 0 2 from by rw [lt_I, zI] at h1; rw [le_I, nI_toInt (by omega)] at h10; unfold gin; omega) hx

/-- a place told as x that is there -/
def isPl (B : gB) (x : Int32) : Prop := ∃ j, j < 12 ∧ j % 6 < B 9 0 ∧ x = nI (10 * (j / 6) + j % 6)
set_option maxRecDepth 100000 in
set_option maxHeartbeats 4000000 in
theorem c_X0_placeTold (q : gQ3) {M : gM} {B : gB} (hI : cI M B) {j : Nat} (hj : j < 12) (ht : j % 6 < B 9 0) : gCt (wC q) yX0_placeTold cX0_placeTold 6 (some (.object "BowBend$Place")) 1 [.ref (q.2.2 9), .int (nI (10 * (j / 6) + j % 6))] M (gR (some (.ref (q.2.2 (15 + j)))) M) := by
  refine gMet RX0 (by decide +kernel) rfl (Nat.le_of_ble_eq_true rfl) (fun X hC => ?_)
  have hC : gC X (wC q) cX0_placeTold 6 RX0 (some (.object "BowBend$Place")) 1 := hC
  show gG X (wC q) _ 6 M 0 [(0, .ref (q.2.2 9)), (1, .int (nI (10 * (j / 6) + j % 6)))] []
  refine g_aload_n hC (gDec_at DX0_placeTold_0 0 rfl) rfl ?_
  refine g_get (w := wC q) hC 9 (v := .ref (q.2.2 11)) fl_X0_22 (show 9 < 63 from by decide) rfl rfl (gDec_at DX0_placeTold_0 1 rfl) ?_
  refine g_astore_n hC (gDec_at DX0_placeTold_0 2 rfl) (by decide) (L' := [(2, .ref (q.2.2 11)), (0, .ref (q.2.2 9)), (1, .int (nI (10 * (j / 6) + j % 6)))]) rfl ?_
  refine g_aload_n hC (gDec_at DX0_placeTold_0 3 rfl) rfl ?_
  refine g_alen (w := wC q) hC 11 3 (show 11 < 63 from by decide) rfl rfl (gDec_at DX0_placeTold_0 4 rfl) ?_
  refine g_istore_n hC (gDec_at DX0_placeTold_0 5 rfl) (by decide) (L' := [(3, .int (nI 12)), (2, .ref (q.2.2 11)), (0, .ref (q.2.2 9)), (1, .int (nI (10 * (j / 6) + j % 6)))]) rfl ?_
  refine g_iconst hC (gDec_at DX0_placeTold_0 6 rfl) (v := nI 0) (by decide) ?_
  refine g_istore hC (gDec_at DX0_placeTold_0 7 rfl) (by decide) (L' := [(4, .int (nI 0)), (3, .int (nI 12)), (2, .ref (q.2.2 11)), (0, .ref (q.2.2 9)), (1, .int (nI (10 * (j / 6) + j % 6)))]) rfl ?_
  have loop11 : ∀ (fu i : Nat), i ≤ j → j - i < fu → gG X (wC q) (gR (some (.ref (q.2.2 (15 + j)))) M) 6 M 11 [(0, .ref (q.2.2 9)), (1, .int (nI (10 * (j / 6) + j % 6))), (2, .ref (q.2.2 11)), (3, .int (nI 12)), (4, .int (nI i))] [] := by
    intro fu; induction fu with
    | zero => intro i h1 h2; omega
    | succ fu ih =>
      intro i hi hfu 
      refine g_iload hC (gDec_at DX0_placeTold_0 8 rfl) rfl ?_
      refine g_iload_n hC (gDec_at DX0_placeTold_0 9 rfl) rfl ?_
      refine g_icmp_geN hC (by omega) (by omega) (gDec_at DX0_placeTold_0 10 rfl) 50 (by decide) (fun h14 => ?_) (fun h14 => ?_)
      · skip
        exact absurd h14 (by omega)
      · skip
        refine g_aload_n hC (gDec_at DX0_placeTold_0 11 rfl) rfl ?_
        refine g_iload hC (gDec_at DX0_placeTold_0 12 rfl) rfl ?_
        refine g_aald (w := wC q) hC 11 3 i (a := q.2.2 (15 + i)) (show 11 < 63 from by decide) rfl rfl (by omega) (by decide) rfl (gDec_at DX0_placeTold_0 13 rfl) ?_
        refine g_astore hC (gDec_at DX0_placeTold_0 14 rfl) (by decide) (L' := [(5, .ref (q.2.2 (15 + i))), (0, .ref (q.2.2 9)), (1, .int (nI (10 * (j / 6) + j % 6))), (2, .ref (q.2.2 11)), (3, .int (nI 12)), (4, .int (nI i))]) rfl ?_
        refine g_aload hC (gDec_at DX0_placeTold_0 15 rfl) rfl ?_
        refine g_get (w := wC q) hC (15 + i) (v := .int (nI (10 * (i / 6) + i % 6))) fl_X0_75 (show 15 + i < 63 from by have := (by omega); omega) (cC_p0 q _ _ (by omega)) (g_sv (ci_told hI (by omega))) (gDec_at DX0_placeTold_0 16 rfl) ?_
        refine g_iload_n hC (gDec_at DX0_placeTold_0 17 rfl) rfl ?_
        refine g_icmp_neN hC (by omega) (by omega) (gDec_at DX0_placeTold_0 18 rfl) 44 (by decide) (fun h29 => ?_) (fun h29 => ?_)
        · skip
          refine g_iincN hC (gDec_at DX0_placeTold_0 25 rfl) rfl (by decide) (L' := [(4, .int (nI (i + 1))), (5, .ref (q.2.2 (15 + i))), (0, .ref (q.2.2 9)), (1, .int (nI (10 * (j / 6) + j % 6))), (2, .ref (q.2.2 11)), (3, .int (nI 12))]) rfl ?_
          refine g_goto hC (gDec_at DX0_placeTold_0 26 rfl) 11 (by decide) ?_
          refine g_sub [2, 3, 4, 5, 0] (L' := [(0, .ref (q.2.2 9)), (1, .int (nI (10 * (j / 6) + j % 6))), (2, .ref (q.2.2 11)), (3, .int (nI 12)), (4, .int (nI (i + 1)))]) rfl ?_
          have h9 := ih (i + 1) (by omega) (by omega)
          exact h9
        · skip
          obtain rfl : i = j := by omega
          refine g_aload_n hC (gDec_at DX0_placeTold_0 19 rfl) rfl ?_
          refine g_aload hC (gDec_at DX0_placeTold_0 20 rfl) rfl ?_
          refine g_callVd (w := wC q) hC 9 (c_X0_has q hI (by omega)) vf_X0_has ml_X0_42 (by decide) (show 9 < 63 from by decide) rfl rfl rfl rfl rfl (Nat.le_of_ble_eq_true rfl) (gDec_at DX0_placeTold_0 21 rfl) ?_
          refine g_if_eqB hC (gDec_at DX0_placeTold_0 22 rfl) 44 (by decide) (fun h38 => ?_) (fun h38 => ?_)
          · skip
            exact absurd ht h38
          · skip
            refine g_aload hC (gDec_at DX0_placeTold_0 23 rfl) rfl ?_
            refine g_aret hC (Or.inr ⟨_, rfl⟩) (gDec_at DX0_placeTold_0 24 rfl) ?_
            exact ⟨rfl, rfl⟩
  exact g_sub [3, 4, 2, 1, 0] rfl (loop11 (j + 1 - 0) 0 (by omega) (by omega))

set_option maxRecDepth 100000 in
set_option maxHeartbeats 4000000 in
theorem c_X0_placeTold_out (q : gQ3) {M : gM} {B : gB} (hI : cI M B) {x : Int32} (hx : ¬ isPl B x) : gCt (wC q) yX0_placeTold cX0_placeTold 6 (some (.object "BowBend$Place")) 1 [.ref (q.2.2 9), .int x] M (gR (some .null) M) := by
  refine gMet RX0 (by decide +kernel) rfl (Nat.le_of_ble_eq_true rfl) (fun X hC => ?_)
  have hC : gC X (wC q) cX0_placeTold 6 RX0 (some (.object "BowBend$Place")) 1 := hC
  show gG X (wC q) _ 6 M 0 [(0, .ref (q.2.2 9)), (1, .int x)] []
  refine g_aload_n hC (gDec_at DX0_placeTold_0 0 rfl) rfl ?_
  refine g_get (w := wC q) hC 9 (v := .ref (q.2.2 11)) fl_X0_22 (show 9 < 63 from by decide) rfl rfl (gDec_at DX0_placeTold_0 1 rfl) ?_
  refine g_astore_n hC (gDec_at DX0_placeTold_0 2 rfl) (by decide) (L' := [(2, .ref (q.2.2 11)), (0, .ref (q.2.2 9)), (1, .int x)]) rfl ?_
  refine g_aload_n hC (gDec_at DX0_placeTold_0 3 rfl) rfl ?_
  refine g_alen (w := wC q) hC 11 3 (show 11 < 63 from by decide) rfl rfl (gDec_at DX0_placeTold_0 4 rfl) ?_
  refine g_istore_n hC (gDec_at DX0_placeTold_0 5 rfl) (by decide) (L' := [(3, .int (nI 12)), (2, .ref (q.2.2 11)), (0, .ref (q.2.2 9)), (1, .int x)]) rfl ?_
  refine g_iconst hC (gDec_at DX0_placeTold_0 6 rfl) (v := nI 0) (by decide) ?_
  refine g_istore hC (gDec_at DX0_placeTold_0 7 rfl) (by decide) (L' := [(4, .int (nI 0)), (3, .int (nI 12)), (2, .ref (q.2.2 11)), (0, .ref (q.2.2 9)), (1, .int x)]) rfl ?_
  have loop11 : ∀ (fu i : Nat), i ≤ 12 → 12 - i < fu → gG X (wC q) (gR (some .null) M) 6 M 11 [(0, .ref (q.2.2 9)), (1, .int x), (2, .ref (q.2.2 11)), (3, .int (nI 12)), (4, .int (nI i))] [] := by
    intro fu; induction fu with
    | zero => intro i h1 h2; omega
    | succ fu ih =>
      intro i hi hfu 
      refine g_iload hC (gDec_at DX0_placeTold_0 8 rfl) rfl ?_
      refine g_iload_n hC (gDec_at DX0_placeTold_0 9 rfl) rfl ?_
      refine g_icmp_geN hC (by omega) (by omega) (gDec_at DX0_placeTold_0 10 rfl) 50 (by decide) (fun h14 => ?_) (fun h14 => ?_)
      · skip
        refine g_null hC (gDec_at DX0_placeTold_0 27 rfl) ?_
        refine g_aret hC (Or.inl rfl) (gDec_at DX0_placeTold_0 28 rfl) ?_
        exact ⟨rfl, rfl⟩
      · skip
        refine g_aload_n hC (gDec_at DX0_placeTold_0 11 rfl) rfl ?_
        refine g_iload hC (gDec_at DX0_placeTold_0 12 rfl) rfl ?_
        refine g_aald (w := wC q) hC 11 3 i (a := q.2.2 (15 + i)) (show 11 < 63 from by decide) rfl rfl (by omega) (by decide) rfl (gDec_at DX0_placeTold_0 13 rfl) ?_
        refine g_astore hC (gDec_at DX0_placeTold_0 14 rfl) (by decide) (L' := [(5, .ref (q.2.2 (15 + i))), (0, .ref (q.2.2 9)), (1, .int x), (2, .ref (q.2.2 11)), (3, .int (nI 12)), (4, .int (nI i))]) rfl ?_
        refine g_aload hC (gDec_at DX0_placeTold_0 15 rfl) rfl ?_
        refine g_get (w := wC q) hC (15 + i) (v := .int (nI (10 * (i / 6) + i % 6))) fl_X0_75 (show 15 + i < 63 from by have := (by omega); omega) (cC_p0 q _ _ (by omega)) (g_sv (ci_told hI (by omega))) (gDec_at DX0_placeTold_0 16 rfl) ?_
        refine g_iload_n hC (gDec_at DX0_placeTold_0 17 rfl) rfl ?_
        refine g_icmp_ne hC (gDec_at DX0_placeTold_0 18 rfl) 44 (by decide) (fun h29 => ?_) (fun h29 => ?_)
        · skip
          refine g_iincN hC (gDec_at DX0_placeTold_0 25 rfl) rfl (by decide) (L' := [(4, .int (nI (i + 1))), (5, .ref (q.2.2 (15 + i))), (0, .ref (q.2.2 9)), (1, .int x), (2, .ref (q.2.2 11)), (3, .int (nI 12))]) rfl ?_
          refine g_goto hC (gDec_at DX0_placeTold_0 26 rfl) 11 (by decide) ?_
          refine g_sub [2, 3, 4, 5, 0] (L' := [(0, .ref (q.2.2 9)), (1, .int x), (2, .ref (q.2.2 11)), (3, .int (nI 12)), (4, .int (nI (i + 1)))]) rfl ?_
          have h9 := ih (i + 1) (by omega) (by omega)
          exact h9
        · skip
          refine g_aload_n hC (gDec_at DX0_placeTold_0 19 rfl) rfl ?_
          refine g_aload hC (gDec_at DX0_placeTold_0 20 rfl) rfl ?_
          refine g_callVd (w := wC q) hC 9 (c_X0_has q hI (by omega)) vf_X0_has ml_X0_42 (by decide) (show 9 < 63 from by decide) rfl rfl rfl rfl rfl (Nat.le_of_ble_eq_true rfl) (gDec_at DX0_placeTold_0 21 rfl) ?_
          refine g_if_eqB hC (gDec_at DX0_placeTold_0 22 rfl) 44 (by decide) (fun h38 => ?_) (fun h38 => ?_)
          · skip
            refine g_iincN hC (gDec_at DX0_placeTold_0 25 rfl) rfl (by decide) (L' := [(4, .int (nI (i + 1))), (5, .ref (q.2.2 (15 + i))), (0, .ref (q.2.2 9)), (1, .int x), (2, .ref (q.2.2 11)), (3, .int (nI 12))]) rfl ?_
            refine g_goto hC (gDec_at DX0_placeTold_0 26 rfl) 11 (by decide) ?_
            refine g_sub [2, 3, 4, 5, 0] (L' := [(0, .ref (q.2.2 9)), (1, .int x), (2, .ref (q.2.2 11)), (3, .int (nI 12)), (4, .int (nI (i + 1)))]) rfl ?_
            have h9 := ih (i + 1) (by omega) (by omega)
            exact h9
          · skip
            exact absurd ⟨i, by omega, h38, h29.symm⟩ hx
  exact g_sub [3, 4, 2, 1, 0] rfl (loop11 (12 + 1 - 0) 0 (by omega) (by omega))

def sPl (B : gB) (j : Nat) : Nat := if B 4 j = 0 then B 7 (B 2 j) else B 7 (B 2 j) / 2
def sPr (B : gB) (j : Nat) : Nat := B 8 (B 2 j)
set_option maxRecDepth 100000 in
set_option maxHeartbeats 4000000 in
theorem c_X0_pullLineOf (q : gQ3) {M : gM} {B : gB} (hI : cI M B) {j : Nat} (hj : j < 12) (ht : j % 6 < B 9 0) : gCt (wC q) yX0_pullLineOf cX0_pullLineOf 3 (some .long) 1 [.ref (q.2.2 9), .ref (q.2.2 (15 + j))] M (gR (some (.long (lN (sPl B j)))) M) := by
  refine gMet RX0 (by decide +kernel) rfl (Nat.le_of_ble_eq_true rfl) (fun X hC => ?_)
  have hC : gC X (wC q) cX0_pullLineOf 3 RX0 (some .long) 1 := hC
  show gG X (wC q) _ 3 M 0 [(0, .ref (q.2.2 9)), (1, .ref (q.2.2 (15 + j)))] []
  have h2 := bv_f2 hI.2.2 hj ht
  have h4 := bv_f4 hI.2.2 hj ht
  have hp := bv_pull hI.2.2 h2
  have hq := bv_press hI.2.2 h2
  refine g_aload_n hC (gDec_at DX0_pullLineOf_0 0 rfl) rfl ?_
  refine g_aload_n hC (gDec_at DX0_pullLineOf_0 1 rfl) rfl ?_
  refine g_get (w := wC q) hC (15 + j) (v := .int (nI (B 2 j))) fl_X0_78 (show 15 + j < 63 from by have := hj; omega) (cC_p0 q _ _ hj) (g_sv (ci_f2 hI hj ht)) (gDec_at DX0_pullLineOf_0 2 rfl) ?_
  refine g_callVd (w := wC q) hC 9 (c_X0_woodNumbered q h2) vf_X0_woodNumbered ml_X0_81 (by decide) (show 9 < 63 from by decide) rfl rfl rfl rfl rfl (Nat.le_of_ble_eq_true rfl) (gDec_at DX0_pullLineOf_0 3 rfl) ?_
  refine g_astore_n hC (gDec_at DX0_pullLineOf_0 4 rfl) (by decide) (L' := [(2, .ref (q.2.2 (12 + (B 2 j)))), (0, .ref (q.2.2 9)), (1, .ref (q.2.2 (15 + j)))]) rfl ?_
  refine g_aload_n hC (gDec_at DX0_pullLineOf_0 5 rfl) rfl ?_
  refine g_ifnonnull hC (gDec_at DX0_pullLineOf_0 6 rfl) 15 (by decide) ?_
  refine g_aload_n hC (gDec_at DX0_pullLineOf_0 9 rfl) rfl ?_
  refine g_get (w := wC q) hC (15 + j) (v := .int (nI (B 4 j))) fl_X0_85 (show 15 + j < 63 from by have := hj; omega) (cC_p0 q _ _ hj) (g_sv (ci_f4 hI hj ht)) (gDec_at DX0_pullLineOf_0 10 rfl) ?_
  refine g_if_eqN hC (by omega) (gDec_at DX0_pullLineOf_0 11 rfl) 32 (by decide) (fun h19 => ?_) (fun h19 => ?_)
  · skip
    refine g_aload_n hC (gDec_at DX0_pullLineOf_0 18 rfl) rfl ?_
    refine g_get (w := wC q) hC (12 + (B 2 j)) (v := .int (nI (B 7 (B 2 j)))) fl_X0_62 (show 12 + (B 2 j) < 63 from by have := h2; omega) (cC_w0 q _ _ h2) (g_sv (ci_pull hI h2)) (gDec_at DX0_pullLineOf_0 19 rfl) ?_
    refine g_i2lN hC (by omega) (gDec_at DX0_pullLineOf_0 20 rfl) ?_
    refine g_lret hC (gDec_at DX0_pullLineOf_0 21 rfl) ?_
    exact ⟨by unfold sPl; rw [if_pos (by assumption)], rfl⟩
  · skip
    refine g_aload_n hC (gDec_at DX0_pullLineOf_0 12 rfl) rfl ?_
    refine g_get (w := wC q) hC (12 + (B 2 j)) (v := .int (nI (B 7 (B 2 j)))) fl_X0_62 (show 12 + (B 2 j) < 63 from by have := h2; omega) (cC_w0 q _ _ h2) (g_sv (ci_pull hI h2)) (gDec_at DX0_pullLineOf_0 13 rfl) ?_
    refine g_iconst hC (gDec_at DX0_pullLineOf_0 14 rfl) (v := nI 2) (by decide) ?_
    refine g_idivN hC (by omega) (by omega) (by omega) (gDec_at DX0_pullLineOf_0 15 rfl) ?_
    refine g_i2lN hC (by omega) (gDec_at DX0_pullLineOf_0 16 rfl) ?_
    refine g_goto hC (gDec_at DX0_pullLineOf_0 17 rfl) 37 (by decide) ?_
    refine g_lret hC (gDec_at DX0_pullLineOf_0 21 rfl) ?_
    exact ⟨by unfold sPl; rw [if_neg (by omega)], rfl⟩

set_option maxRecDepth 100000 in
set_option maxHeartbeats 4000000 in
theorem c_X0_pressLineOf (q : gQ3) {M : gM} {B : gB} (hI : cI M B) {j : Nat} (hj : j < 12) (ht : j % 6 < B 9 0) : gCt (wC q) yX0_pressLineOf cX0_pressLineOf 3 (some .long) 1 [.ref (q.2.2 9), .ref (q.2.2 (15 + j))] M (gR (some (.long (lN (sPr B j)))) M) := by
  refine gMet RX0 (by decide +kernel) rfl (Nat.le_of_ble_eq_true rfl) (fun X hC => ?_)
  have hC : gC X (wC q) cX0_pressLineOf 3 RX0 (some .long) 1 := hC
  show gG X (wC q) _ 3 M 0 [(0, .ref (q.2.2 9)), (1, .ref (q.2.2 (15 + j)))] []
  have h2 := bv_f2 hI.2.2 hj ht
  have h4 := bv_f4 hI.2.2 hj ht
  have hp := bv_pull hI.2.2 h2
  have hq := bv_press hI.2.2 h2
  refine g_aload_n hC (gDec_at DX0_pressLineOf_0 0 rfl) rfl ?_
  refine g_aload_n hC (gDec_at DX0_pressLineOf_0 1 rfl) rfl ?_
  refine g_get (w := wC q) hC (15 + j) (v := .int (nI (B 2 j))) fl_X0_78 (show 15 + j < 63 from by have := hj; omega) (cC_p0 q _ _ hj) (g_sv (ci_f2 hI hj ht)) (gDec_at DX0_pressLineOf_0 2 rfl) ?_
  refine g_callVd (w := wC q) hC 9 (c_X0_woodNumbered q h2) vf_X0_woodNumbered ml_X0_81 (by decide) (show 9 < 63 from by decide) rfl rfl rfl rfl rfl (Nat.le_of_ble_eq_true rfl) (gDec_at DX0_pressLineOf_0 3 rfl) ?_
  refine g_astore_n hC (gDec_at DX0_pressLineOf_0 4 rfl) (by decide) (L' := [(2, .ref (q.2.2 (12 + (B 2 j)))), (0, .ref (q.2.2 9)), (1, .ref (q.2.2 (15 + j)))]) rfl ?_
  refine g_aload_n hC (gDec_at DX0_pressLineOf_0 5 rfl) rfl ?_
  refine g_ifnonnull hC (gDec_at DX0_pressLineOf_0 6 rfl) 17 (by decide) ?_
  refine g_aload_n hC (gDec_at DX0_pressLineOf_0 9 rfl) rfl ?_
  refine g_get (w := wC q) hC (12 + (B 2 j)) (v := .int (nI (B 8 (B 2 j)))) fl_X0_65 (show 12 + (B 2 j) < 63 from by have := h2; omega) (cC_w0 q _ _ h2) (g_sv (ci_press hI h2)) (gDec_at DX0_pressLineOf_0 10 rfl) ?_
  refine g_i2lN hC (by omega) (gDec_at DX0_pressLineOf_0 11 rfl) ?_
  refine g_lret hC (gDec_at DX0_pressLineOf_0 12 rfl) ?_
  exact ⟨rfl, rfl⟩

def sLost (B : gB) (j d : Nat) : Nat := gsm (fun i => if i % 6 < B 9 0 then sGive B i (if i / 6 = j / 6 ∧ i % 6 ≤ j % 6 then d else B 1 i) else 0) 12
theorem sLost_le (B : gB) (j d : Nat) : sLost B j d ≤ 432000000000 := gsm_le (n := 12) (c := 36000000000) (fun k _ => by
  split
  · exact sGive_le _ _ _
  · omega)
set_option maxRecDepth 100000 in
set_option maxHeartbeats 4000000 in
theorem c_X0_givesIfLost (q : gQ3) {M : gM} {B : gB} (hI : cI M B) {j : Nat} (hj : j < 12) (ht : j % 6 < B 9 0) {d : Nat} (hd : d ≤ 40) : gCt (wC q) yX0_givesIfLost cX0_givesIfLost 10 (some .long) 2 [.ref (q.2.2 9), .ref (q.2.2 (15 + j)), .int (nI d)] M (gR (some (.long (lN (sLost B j d)))) M) := by
  refine gMet RX0 (by decide +kernel) rfl (Nat.le_of_ble_eq_true rfl) (fun X hC => ?_)
  have hC : gC X (wC q) cX0_givesIfLost 10 RX0 (some .long) 2 := hC
  show gG X (wC q) _ 10 M 0 [(0, .ref (q.2.2 9)), (1, .ref (q.2.2 (15 + j))), (2, .int (nI d))] []
  refine g_lconst hC (gDec_at DX0_givesIfLost_0 0 rfl) (v := lN 0) (by decide) ?_
  refine g_lstore_n hC (gDec_at DX0_givesIfLost_0 1 rfl) (by decide) (L' := [(3, .long (lN 0)), (0, .ref (q.2.2 9)), (1, .ref (q.2.2 (15 + j))), (2, .int (nI d))]) rfl ?_
  refine g_aload_n hC (gDec_at DX0_givesIfLost_0 2 rfl) rfl ?_
  refine g_get (w := wC q) hC 9 (v := .ref (q.2.2 11)) fl_X0_22 (show 9 < 63 from by decide) rfl rfl (gDec_at DX0_givesIfLost_0 3 rfl) ?_
  refine g_astore hC (gDec_at DX0_givesIfLost_0 4 rfl) (by decide) (L' := [(5, .ref (q.2.2 11)), (3, .long (lN 0)), (0, .ref (q.2.2 9)), (1, .ref (q.2.2 (15 + j))), (2, .int (nI d))]) rfl ?_
  refine g_aload hC (gDec_at DX0_givesIfLost_0 5 rfl) rfl ?_
  refine g_alen (w := wC q) hC 11 3 (show 11 < 63 from by decide) rfl rfl (gDec_at DX0_givesIfLost_0 6 rfl) ?_
  refine g_istore hC (gDec_at DX0_givesIfLost_0 7 rfl) (by decide) (L' := [(6, .int (nI 12)), (5, .ref (q.2.2 11)), (3, .long (lN 0)), (0, .ref (q.2.2 9)), (1, .ref (q.2.2 (15 + j))), (2, .int (nI d))]) rfl ?_
  refine g_iconst hC (gDec_at DX0_givesIfLost_0 8 rfl) (v := nI 0) (by decide) ?_
  refine g_istore hC (gDec_at DX0_givesIfLost_0 9 rfl) (by decide) (L' := [(7, .int (nI 0)), (6, .int (nI 12)), (5, .ref (q.2.2 11)), (3, .long (lN 0)), (0, .ref (q.2.2 9)), (1, .ref (q.2.2 (15 + j))), (2, .int (nI d))]) rfl ?_
  have loop16 : ∀ (fu i : Nat), i ≤ 12 → 12 - i < fu → gG X (wC q) (gR (some (.long (lN (sLost B j d)))) M) 10 M 16 [(0, .ref (q.2.2 9)), (1, .ref (q.2.2 (15 + j))), (2, .int (nI d)), (3, .long (lN (gsm (fun i => if i % 6 < B 9 0 then sGive B i (if i / 6 = j / 6 ∧ i % 6 ≤ j % 6 then d else B 1 i) else 0) i))), (5, .ref (q.2.2 11)), (6, .int (nI 12)), (7, .int (nI i))] [] := by
    intro fu; induction fu with
    | zero => intro i h1 h2; omega
    | succ fu ih =>
      intro i hi hfu 
      refine g_iload hC (gDec_at DX0_givesIfLost_0 10 rfl) rfl ?_
      refine g_iload hC (gDec_at DX0_givesIfLost_0 11 rfl) rfl ?_
      refine g_icmp_geN hC (by omega) (by omega) (gDec_at DX0_givesIfLost_0 12 rfl) 101 (by decide) (fun h20 => ?_) (fun h20 => ?_)
      · skip
        obtain rfl : i = 12 := by omega
        refine g_lload_n hC (gDec_at DX0_givesIfLost_0 51 rfl) rfl ?_
        refine g_lret hC (gDec_at DX0_givesIfLost_0 52 rfl) ?_
        exact ⟨rfl, rfl⟩
      · skip
        refine g_aload hC (gDec_at DX0_givesIfLost_0 13 rfl) rfl ?_
        refine g_iload hC (gDec_at DX0_givesIfLost_0 14 rfl) rfl ?_
        refine g_aald (w := wC q) hC 11 3 i (a := q.2.2 (15 + i)) (show 11 < 63 from by decide) rfl rfl (by omega) (by decide) rfl (gDec_at DX0_givesIfLost_0 15 rfl) ?_
        refine g_astore hC (gDec_at DX0_givesIfLost_0 16 rfl) (by decide) (L' := [(8, .ref (q.2.2 (15 + i))), (0, .ref (q.2.2 9)), (1, .ref (q.2.2 (15 + j))), (2, .int (nI d)), (3, .long (lN (gsm (fun i => if i % 6 < B 9 0 then sGive B i (if i / 6 = j / 6 ∧ i % 6 ≤ j % 6 then d else B 1 i) else 0) i))), (5, .ref (q.2.2 11)), (6, .int (nI 12)), (7, .int (nI i))]) rfl ?_
        refine g_aload_n hC (gDec_at DX0_givesIfLost_0 17 rfl) rfl ?_
        refine g_aload hC (gDec_at DX0_givesIfLost_0 18 rfl) rfl ?_
        refine g_callVd (w := wC q) hC 9 (c_X0_has q hI (by omega)) vf_X0_has ml_X0_42 (by decide) (show 9 < 63 from by decide) rfl rfl rfl rfl rfl (Nat.le_of_ble_eq_true rfl) (gDec_at DX0_givesIfLost_0 19 rfl) ?_
        refine g_if_eqB hC (gDec_at DX0_givesIfLost_0 20 rfl) 95 (by decide) (fun h36 => ?_) (fun h36 => ?_)
        · skip
          refine g_iincN hC (gDec_at DX0_givesIfLost_0 49 rfl) rfl (by decide) (L' := [(7, .int (nI (i + 1))), (8, .ref (q.2.2 (15 + i))), (0, .ref (q.2.2 9)), (1, .ref (q.2.2 (15 + j))), (2, .int (nI d)), (3, .long (lN (gsm (fun i => if i % 6 < B 9 0 then sGive B i (if i / 6 = j / 6 ∧ i % 6 ≤ j % 6 then d else B 1 i) else 0) i))), (5, .ref (q.2.2 11)), (6, .int (nI 12))]) rfl ?_
          refine g_goto hC (gDec_at DX0_givesIfLost_0 50 rfl) 16 (by decide) ?_
          refine g_sub [2, 3, 4, 5, 6, 7, 0] (L' := [(0, .ref (q.2.2 9)), (1, .ref (q.2.2 (15 + j))), (2, .int (nI d)), (3, .long (lN (gsm (fun i => if i % 6 < B 9 0 then sGive B i (if i / 6 = j / 6 ∧ i % 6 ≤ j % 6 then d else B 1 i) else 0) i))), (5, .ref (q.2.2 11)), (6, .int (nI 12)), (7, .int (nI (i + 1)))]) rfl ?_
          have h9 := ih (i + 1) (by omega) (by omega)
          rw [show gsm (fun i => if i % 6 < B 9 0 then sGive B i (if i / 6 = j / 6 ∧ i % 6 ≤ j % 6 then d else B 1 i) else 0) (i + 1) = gsm (fun i => if i % 6 < B 9 0 then sGive B i (if i / 6 = j / 6 ∧ i % 6 ≤ j % 6 then d else B 1 i) else 0) i from gsm_s0 (if_neg h36)] at h9
          exact h9
        · skip
          have h1i := bv_f1 hI.2.2 (by omega : i < 12) h36
          refine g_aload hC (gDec_at DX0_givesIfLost_0 21 rfl) rfl ?_
          refine g_get (w := wC q) hC (15 + i) (v := .int (nI (i / 6))) fl_X0_46 (show 15 + i < 63 from by have := (by omega); omega) (cC_p0 q _ _ (by omega)) (g_sv (ci_side hI (by omega))) (gDec_at DX0_givesIfLost_0 22 rfl) ?_
          refine g_aload_n hC (gDec_at DX0_givesIfLost_0 23 rfl) rfl ?_
          refine g_get (w := wC q) hC (15 + j) (v := .int (nI (j / 6))) fl_X0_46 (show 15 + j < 63 from by have := hj; omega) (cC_p0 q _ _ hj) (g_sv (ci_side hI hj)) (gDec_at DX0_givesIfLost_0 24 rfl) ?_
          refine g_icmp_neN hC (by omega) (by omega) (gDec_at DX0_givesIfLost_0 25 rfl) 67 (by decide) (fun h48 => ?_) (fun h48 => ?_)
          · skip
            refine g_iconst hC (gDec_at DX0_givesIfLost_0 33 rfl) (v := nI 0) (by decide) ?_
            refine g_istore hC (gDec_at DX0_givesIfLost_0 34 rfl) (by decide) (L' := [(9, .int (nI 0)), (8, .ref (q.2.2 (15 + i))), (0, .ref (q.2.2 9)), (1, .ref (q.2.2 (15 + j))), (2, .int (nI d)), (3, .long (lN (gsm (fun i => if i % 6 < B 9 0 then sGive B i (if i / 6 = j / 6 ∧ i % 6 ≤ j % 6 then d else B 1 i) else 0) i))), (5, .ref (q.2.2 11)), (6, .int (nI 12)), (7, .int (nI i))]) rfl ?_
            refine g_lload_n hC (gDec_at DX0_givesIfLost_0 35 rfl) rfl ?_
            refine g_aload_n hC (gDec_at DX0_givesIfLost_0 36 rfl) rfl ?_
            refine g_aload hC (gDec_at DX0_givesIfLost_0 37 rfl) rfl ?_
            refine g_iload hC (gDec_at DX0_givesIfLost_0 38 rfl) rfl ?_
            refine g_if_eqN hC (by decide) (gDec_at DX0_givesIfLost_0 39 rfl) 84 (by decide) (fun h => ?_) (fun h => absurd h (by decide))
            refine g_aload hC (gDec_at DX0_givesIfLost_0 43 rfl) rfl ?_
            refine g_get (w := wC q) hC (15 + i) (v := .int (nI (B 1 i))) fl_X0_89 (show 15 + i < 63 from by have := (by omega); omega) (cC_p0 q _ _ (by omega)) (g_sv (ci_f1 hI (by omega) (by omega))) (gDec_at DX0_givesIfLost_0 44 rfl) ?_
            refine g_i2lN hC (by omega) (gDec_at DX0_givesIfLost_0 45 rfl) ?_
            refine g_callVd (w := wC q) hC 9 (c_X0_giveAtDepth q hI (by omega) (by omega) (by omega)) vf_X0_giveAtDepth ml_X0_92 (by decide) (show 9 < 63 from by decide) rfl rfl rfl rfl rfl (Nat.le_of_ble_eq_true rfl) (gDec_at DX0_givesIfLost_0 46 rfl) ?_
            refine g_laddN hC (gDec_at DX0_givesIfLost_0 47 rfl) ?_
            refine g_lstore_n hC (gDec_at DX0_givesIfLost_0 48 rfl) (by decide) (L' := [(3, .long (lN ((gsm (fun i => if i % 6 < B 9 0 then sGive B i (if i / 6 = j / 6 ∧ i % 6 ≤ j % 6 then d else B 1 i) else 0) i) + (sGive B i (B 1 i))))), (9, .int (nI 0)), (8, .ref (q.2.2 (15 + i))), (0, .ref (q.2.2 9)), (1, .ref (q.2.2 (15 + j))), (2, .int (nI d)), (5, .ref (q.2.2 11)), (6, .int (nI 12)), (7, .int (nI i))]) rfl ?_
            refine g_iincN hC (gDec_at DX0_givesIfLost_0 49 rfl) rfl (by decide) (L' := [(7, .int (nI (i + 1))), (3, .long (lN ((gsm (fun i => if i % 6 < B 9 0 then sGive B i (if i / 6 = j / 6 ∧ i % 6 ≤ j % 6 then d else B 1 i) else 0) i) + (sGive B i (B 1 i))))), (9, .int (nI 0)), (8, .ref (q.2.2 (15 + i))), (0, .ref (q.2.2 9)), (1, .ref (q.2.2 (15 + j))), (2, .int (nI d)), (5, .ref (q.2.2 11)), (6, .int (nI 12))]) rfl ?_
            refine g_goto hC (gDec_at DX0_givesIfLost_0 50 rfl) 16 (by decide) ?_
            refine g_sub [4, 5, 6, 1, 7, 8, 0] (L' := [(0, .ref (q.2.2 9)), (1, .ref (q.2.2 (15 + j))), (2, .int (nI d)), (3, .long (lN ((gsm (fun i => if i % 6 < B 9 0 then sGive B i (if i / 6 = j / 6 ∧ i % 6 ≤ j % 6 then d else B 1 i) else 0) i) + (sGive B i (B 1 i))))), (5, .ref (q.2.2 11)), (6, .int (nI 12)), (7, .int (nI (i + 1)))]) rfl ?_
            have h9 := ih (i + 1) (by omega) (by omega)
            rw [show gsm (fun i => if i % 6 < B 9 0 then sGive B i (if i / 6 = j / 6 ∧ i % 6 ≤ j % 6 then d else B 1 i) else 0) (i + 1) = gsm (fun i => if i % 6 < B 9 0 then sGive B i (if i / 6 = j / 6 ∧ i % 6 ≤ j % 6 then d else B 1 i) else 0) i + sGive B i (B 1 i) from gsm_s ((if_pos h36).trans (congrArg (sGive B i) (if_neg (by omega))))] at h9
            exact h9
          · skip
            refine g_aload hC (gDec_at DX0_givesIfLost_0 26 rfl) rfl ?_
            refine g_get (w := wC q) hC (15 + i) (v := .int (nI (i % 6 + 1))) fl_X0_49 (show 15 + i < 63 from by have := (by omega); omega) (cC_p0 q _ _ (by omega)) (g_sv (ci_arm hI (by omega))) (gDec_at DX0_givesIfLost_0 27 rfl) ?_
            refine g_aload_n hC (gDec_at DX0_givesIfLost_0 28 rfl) rfl ?_
            refine g_get (w := wC q) hC (15 + j) (v := .int (nI (j % 6 + 1))) fl_X0_49 (show 15 + j < 63 from by have := hj; omega) (cC_p0 q _ _ hj) (g_sv (ci_arm hI hj)) (gDec_at DX0_givesIfLost_0 29 rfl) ?_
            refine g_icmp_gtN hC (by omega) (by omega) (gDec_at DX0_givesIfLost_0 30 rfl) 67 (by decide) (fun h60 => ?_) (fun h60 => ?_)
            · skip
              refine g_iconst hC (gDec_at DX0_givesIfLost_0 33 rfl) (v := nI 0) (by decide) ?_
              refine g_istore hC (gDec_at DX0_givesIfLost_0 34 rfl) (by decide) (L' := [(9, .int (nI 0)), (8, .ref (q.2.2 (15 + i))), (0, .ref (q.2.2 9)), (1, .ref (q.2.2 (15 + j))), (2, .int (nI d)), (3, .long (lN (gsm (fun i => if i % 6 < B 9 0 then sGive B i (if i / 6 = j / 6 ∧ i % 6 ≤ j % 6 then d else B 1 i) else 0) i))), (5, .ref (q.2.2 11)), (6, .int (nI 12)), (7, .int (nI i))]) rfl ?_
              refine g_lload_n hC (gDec_at DX0_givesIfLost_0 35 rfl) rfl ?_
              refine g_aload_n hC (gDec_at DX0_givesIfLost_0 36 rfl) rfl ?_
              refine g_aload hC (gDec_at DX0_givesIfLost_0 37 rfl) rfl ?_
              refine g_iload hC (gDec_at DX0_givesIfLost_0 38 rfl) rfl ?_
              refine g_if_eqN hC (by decide) (gDec_at DX0_givesIfLost_0 39 rfl) 84 (by decide) (fun h => ?_) (fun h => absurd h (by decide))
              refine g_aload hC (gDec_at DX0_givesIfLost_0 43 rfl) rfl ?_
              refine g_get (w := wC q) hC (15 + i) (v := .int (nI (B 1 i))) fl_X0_89 (show 15 + i < 63 from by have := (by omega); omega) (cC_p0 q _ _ (by omega)) (g_sv (ci_f1 hI (by omega) (by omega))) (gDec_at DX0_givesIfLost_0 44 rfl) ?_
              refine g_i2lN hC (by omega) (gDec_at DX0_givesIfLost_0 45 rfl) ?_
              refine g_callVd (w := wC q) hC 9 (c_X0_giveAtDepth q hI (by omega) (by omega) (by omega)) vf_X0_giveAtDepth ml_X0_92 (by decide) (show 9 < 63 from by decide) rfl rfl rfl rfl rfl (Nat.le_of_ble_eq_true rfl) (gDec_at DX0_givesIfLost_0 46 rfl) ?_
              refine g_laddN hC (gDec_at DX0_givesIfLost_0 47 rfl) ?_
              refine g_lstore_n hC (gDec_at DX0_givesIfLost_0 48 rfl) (by decide) (L' := [(3, .long (lN ((gsm (fun i => if i % 6 < B 9 0 then sGive B i (if i / 6 = j / 6 ∧ i % 6 ≤ j % 6 then d else B 1 i) else 0) i) + (sGive B i (B 1 i))))), (9, .int (nI 0)), (8, .ref (q.2.2 (15 + i))), (0, .ref (q.2.2 9)), (1, .ref (q.2.2 (15 + j))), (2, .int (nI d)), (5, .ref (q.2.2 11)), (6, .int (nI 12)), (7, .int (nI i))]) rfl ?_
              refine g_iincN hC (gDec_at DX0_givesIfLost_0 49 rfl) rfl (by decide) (L' := [(7, .int (nI (i + 1))), (3, .long (lN ((gsm (fun i => if i % 6 < B 9 0 then sGive B i (if i / 6 = j / 6 ∧ i % 6 ≤ j % 6 then d else B 1 i) else 0) i) + (sGive B i (B 1 i))))), (9, .int (nI 0)), (8, .ref (q.2.2 (15 + i))), (0, .ref (q.2.2 9)), (1, .ref (q.2.2 (15 + j))), (2, .int (nI d)), (5, .ref (q.2.2 11)), (6, .int (nI 12))]) rfl ?_
              refine g_goto hC (gDec_at DX0_givesIfLost_0 50 rfl) 16 (by decide) ?_
              refine g_sub [4, 5, 6, 1, 7, 8, 0] (L' := [(0, .ref (q.2.2 9)), (1, .ref (q.2.2 (15 + j))), (2, .int (nI d)), (3, .long (lN ((gsm (fun i => if i % 6 < B 9 0 then sGive B i (if i / 6 = j / 6 ∧ i % 6 ≤ j % 6 then d else B 1 i) else 0) i) + (sGive B i (B 1 i))))), (5, .ref (q.2.2 11)), (6, .int (nI 12)), (7, .int (nI (i + 1)))]) rfl ?_
              have h9 := ih (i + 1) (by omega) (by omega)
              rw [show gsm (fun i => if i % 6 < B 9 0 then sGive B i (if i / 6 = j / 6 ∧ i % 6 ≤ j % 6 then d else B 1 i) else 0) (i + 1) = gsm (fun i => if i % 6 < B 9 0 then sGive B i (if i / 6 = j / 6 ∧ i % 6 ≤ j % 6 then d else B 1 i) else 0) i + sGive B i (B 1 i) from gsm_s ((if_pos h36).trans (congrArg (sGive B i) (if_neg (by omega))))] at h9
              exact h9
            · skip
              refine g_iconst hC (gDec_at DX0_givesIfLost_0 31 rfl) (v := nI 1) (by decide) ?_
              refine g_goto hC (gDec_at DX0_givesIfLost_0 32 rfl) 68 (by decide) ?_
              refine g_istore hC (gDec_at DX0_givesIfLost_0 34 rfl) (by decide) (L' := [(9, .int (nI 1)), (8, .ref (q.2.2 (15 + i))), (0, .ref (q.2.2 9)), (1, .ref (q.2.2 (15 + j))), (2, .int (nI d)), (3, .long (lN (gsm (fun i => if i % 6 < B 9 0 then sGive B i (if i / 6 = j / 6 ∧ i % 6 ≤ j % 6 then d else B 1 i) else 0) i))), (5, .ref (q.2.2 11)), (6, .int (nI 12)), (7, .int (nI i))]) rfl ?_
              refine g_lload_n hC (gDec_at DX0_givesIfLost_0 35 rfl) rfl ?_
              refine g_aload_n hC (gDec_at DX0_givesIfLost_0 36 rfl) rfl ?_
              refine g_aload hC (gDec_at DX0_givesIfLost_0 37 rfl) rfl ?_
              refine g_iload hC (gDec_at DX0_givesIfLost_0 38 rfl) rfl ?_
              refine g_if_eqN hC (by decide) (gDec_at DX0_givesIfLost_0 39 rfl) 84 (by decide) (fun h => absurd h (by decide)) (fun h => ?_)
              refine g_iload_n hC (gDec_at DX0_givesIfLost_0 40 rfl) rfl ?_
              refine g_i2lN hC (by omega) (gDec_at DX0_givesIfLost_0 41 rfl) ?_
              refine g_goto hC (gDec_at DX0_givesIfLost_0 42 rfl) 90 (by decide) ?_
              refine g_callVd (w := wC q) hC 9 (c_X0_giveAtDepth q hI (by omega) (by omega) (by omega)) vf_X0_giveAtDepth ml_X0_92 (by decide) (show 9 < 63 from by decide) rfl rfl rfl rfl rfl (Nat.le_of_ble_eq_true rfl) (gDec_at DX0_givesIfLost_0 46 rfl) ?_
              refine g_laddN hC (gDec_at DX0_givesIfLost_0 47 rfl) ?_
              refine g_lstore_n hC (gDec_at DX0_givesIfLost_0 48 rfl) (by decide) (L' := [(3, .long (lN ((gsm (fun i => if i % 6 < B 9 0 then sGive B i (if i / 6 = j / 6 ∧ i % 6 ≤ j % 6 then d else B 1 i) else 0) i) + (sGive B i d)))), (9, .int (nI 1)), (8, .ref (q.2.2 (15 + i))), (0, .ref (q.2.2 9)), (1, .ref (q.2.2 (15 + j))), (2, .int (nI d)), (5, .ref (q.2.2 11)), (6, .int (nI 12)), (7, .int (nI i))]) rfl ?_
              refine g_iincN hC (gDec_at DX0_givesIfLost_0 49 rfl) rfl (by decide) (L' := [(7, .int (nI (i + 1))), (3, .long (lN ((gsm (fun i => if i % 6 < B 9 0 then sGive B i (if i / 6 = j / 6 ∧ i % 6 ≤ j % 6 then d else B 1 i) else 0) i) + (sGive B i d)))), (9, .int (nI 1)), (8, .ref (q.2.2 (15 + i))), (0, .ref (q.2.2 9)), (1, .ref (q.2.2 (15 + j))), (2, .int (nI d)), (5, .ref (q.2.2 11)), (6, .int (nI 12))]) rfl ?_
              refine g_goto hC (gDec_at DX0_givesIfLost_0 50 rfl) 16 (by decide) ?_
              refine g_sub [4, 5, 6, 1, 7, 8, 0] (L' := [(0, .ref (q.2.2 9)), (1, .ref (q.2.2 (15 + j))), (2, .int (nI d)), (3, .long (lN ((gsm (fun i => if i % 6 < B 9 0 then sGive B i (if i / 6 = j / 6 ∧ i % 6 ≤ j % 6 then d else B 1 i) else 0) i) + (sGive B i d)))), (5, .ref (q.2.2 11)), (6, .int (nI 12)), (7, .int (nI (i + 1)))]) rfl ?_
              have h9 := ih (i + 1) (by omega) (by omega)
              rw [show gsm (fun i => if i % 6 < B 9 0 then sGive B i (if i / 6 = j / 6 ∧ i % 6 ≤ j % 6 then d else B 1 i) else 0) (i + 1) = gsm (fun i => if i % 6 < B 9 0 then sGive B i (if i / 6 = j / 6 ∧ i % 6 ≤ j % 6 then d else B 1 i) else 0) i + sGive B i d from gsm_s ((if_pos h36).trans (congrArg (sGive B i) (if_pos ⟨by omega, by omega⟩)))] at h9
              exact h9
  exact g_sub [4, 5, 6, 3, 2, 1, 0] rfl (loop16 (12 + 1 - 0) 0 (by omega) (by omega))

def sLd (B : gB) : Nat := gsm (fun i => if i % 6 < B 9 0 then B 0 i * B 1 i * (B 9 0 - i % 6) else 0) 12
theorem sLd_t {B : gB} (h : bV B) {i : Nat} (hi : i < 12) (ht : i % 6 < B 9 0) : B 0 i * B 1 i * (B 9 0 - i % 6) ≤ 2160 := by
  have h0 := bv_f0 h hi ht
  have h1 := bv_f1 h hi ht
  have hm := bv_many h
  exact mul_bd (mul_bd h0.2 h1.2) (by omega : B 9 0 - i % 6 ≤ 6)
theorem sLd_le {B : gB} (h : bV B) : sLd B ≤ 25920 := gsm_le (n := 12) (c := 2160) (fun k hk => by
  split
  · exact sLd_t h hk (by assumption)
  · omega)
set_option maxRecDepth 100000 in
set_option maxHeartbeats 4000000 in
theorem c_X0_load (q : gQ3) {M : gM} {B : gB} (hI : cI M B) : gCt (wC q) yX0_load cX0_load 7 (some .long) 1 [.ref (q.2.2 9)] M (gR (some (.long (lN (sLd B / 100)))) M) := by
  refine gMet RX0 (by decide +kernel) rfl (Nat.le_of_ble_eq_true rfl) (fun X hC => ?_)
  have hC : gC X (wC q) cX0_load 7 RX0 (some .long) 1 := hC
  show gG X (wC q) _ 7 M 0 [(0, .ref (q.2.2 9))] []
  have hl := sLd_le hI.2.2
  refine g_lconst hC (gDec_at DX0_load_0 0 rfl) (v := lN 0) (by decide) ?_
  refine g_lstore_n hC (gDec_at DX0_load_0 1 rfl) (by decide) (L' := [(1, .long (lN 0)), (0, .ref (q.2.2 9))]) rfl ?_
  refine g_aload_n hC (gDec_at DX0_load_0 2 rfl) rfl ?_
  refine g_get (w := wC q) hC 9 (v := .ref (q.2.2 11)) fl_X0_22 (show 9 < 63 from by decide) rfl rfl (gDec_at DX0_load_0 3 rfl) ?_
  refine g_astore_n hC (gDec_at DX0_load_0 4 rfl) (by decide) (L' := [(3, .ref (q.2.2 11)), (1, .long (lN 0)), (0, .ref (q.2.2 9))]) rfl ?_
  refine g_aload_n hC (gDec_at DX0_load_0 5 rfl) rfl ?_
  refine g_alen (w := wC q) hC 11 3 (show 11 < 63 from by decide) rfl rfl (gDec_at DX0_load_0 6 rfl) ?_
  refine g_istore hC (gDec_at DX0_load_0 7 rfl) (by decide) (L' := [(4, .int (nI 12)), (3, .ref (q.2.2 11)), (1, .long (lN 0)), (0, .ref (q.2.2 9))]) rfl ?_
  refine g_iconst hC (gDec_at DX0_load_0 8 rfl) (v := nI 0) (by decide) ?_
  refine g_istore hC (gDec_at DX0_load_0 9 rfl) (by decide) (L' := [(5, .int (nI 0)), (4, .int (nI 12)), (3, .ref (q.2.2 11)), (1, .long (lN 0)), (0, .ref (q.2.2 9))]) rfl ?_
  have loop14 : ∀ (fu i : Nat), i ≤ 12 → 12 - i < fu → gG X (wC q) (gR (some (.long (lN (sLd B / 100)))) M) 7 M 14 [(0, .ref (q.2.2 9)), (1, .long (lN (gsm (fun i => if i % 6 < B 9 0 then B 0 i * B 1 i * (B 9 0 - i % 6) else 0) i))), (3, .ref (q.2.2 11)), (4, .int (nI 12)), (5, .int (nI i))] [] := by
    intro fu; induction fu with
    | zero => intro i h1 h2; omega
    | succ fu ih =>
      intro i hi hfu 
      refine g_iload hC (gDec_at DX0_load_0 10 rfl) rfl ?_
      refine g_iload hC (gDec_at DX0_load_0 11 rfl) rfl ?_
      refine g_icmp_geN hC (by omega) (by omega) (gDec_at DX0_load_0 12 rfl) 70 (by decide) (fun h18 => ?_) (fun h18 => ?_)
      · skip
        obtain rfl : i = 12 := by omega
        have hl2 : gsm (fun i => if i % 6 < B 9 0 then B 0 i * B 1 i * (B 9 0 - i % 6) else 0) 12 ≤ 25920 := hl
        refine g_lload_n hC (gDec_at DX0_load_0 40 rfl) rfl ?_
        refine g_ldc2 hC cl_X0_169 (v' := lN 100) (by decide) (gDec_at DX0_load_0 41 rfl) ?_
        refine g_ldivN hC (by omega) (by omega) (by omega) (gDec_at DX0_load_0 42 rfl) ?_
        refine g_lret hC (gDec_at DX0_load_0 43 rfl) ?_
        exact ⟨rfl, rfl⟩
      · skip
        refine g_aload_n hC (gDec_at DX0_load_0 13 rfl) rfl ?_
        refine g_iload hC (gDec_at DX0_load_0 14 rfl) rfl ?_
        refine g_aald (w := wC q) hC 11 3 i (a := q.2.2 (15 + i)) (show 11 < 63 from by decide) rfl rfl (by omega) (by decide) rfl (gDec_at DX0_load_0 15 rfl) ?_
        refine g_astore hC (gDec_at DX0_load_0 16 rfl) (by decide) (L' := [(6, .ref (q.2.2 (15 + i))), (0, .ref (q.2.2 9)), (1, .long (lN (gsm (fun i => if i % 6 < B 9 0 then B 0 i * B 1 i * (B 9 0 - i % 6) else 0) i))), (3, .ref (q.2.2 11)), (4, .int (nI 12)), (5, .int (nI i))]) rfl ?_
        refine g_aload_n hC (gDec_at DX0_load_0 17 rfl) rfl ?_
        refine g_aload hC (gDec_at DX0_load_0 18 rfl) rfl ?_
        refine g_callVd (w := wC q) hC 9 (c_X0_has q hI (by omega)) vf_X0_has ml_X0_42 (by decide) (show 9 < 63 from by decide) rfl rfl rfl rfl rfl (Nat.le_of_ble_eq_true rfl) (gDec_at DX0_load_0 19 rfl) ?_
        refine g_if_eqB hC (gDec_at DX0_load_0 20 rfl) 64 (by decide) (fun h33 => ?_) (fun h33 => ?_)
        · skip
          refine g_iincN hC (gDec_at DX0_load_0 38 rfl) rfl (by decide) (L' := [(5, .int (nI (i + 1))), (6, .ref (q.2.2 (15 + i))), (0, .ref (q.2.2 9)), (1, .long (lN (gsm (fun i => if i % 6 < B 9 0 then B 0 i * B 1 i * (B 9 0 - i % 6) else 0) i))), (3, .ref (q.2.2 11)), (4, .int (nI 12))]) rfl ?_
          refine g_goto hC (gDec_at DX0_load_0 39 rfl) 14 (by decide) ?_
          refine g_sub [2, 3, 4, 5, 0] (L' := [(0, .ref (q.2.2 9)), (1, .long (lN (gsm (fun i => if i % 6 < B 9 0 then B 0 i * B 1 i * (B 9 0 - i % 6) else 0) i))), (3, .ref (q.2.2 11)), (4, .int (nI 12)), (5, .int (nI (i + 1)))]) rfl ?_
          have h9 := ih (i + 1) (by omega) (by omega)
          rw [show gsm (fun i => if i % 6 < B 9 0 then B 0 i * B 1 i * (B 9 0 - i % 6) else 0) (i + 1) = gsm (fun i => if i % 6 < B 9 0 then B 0 i * B 1 i * (B 9 0 - i % 6) else 0) i from gsm_s0 (if_neg h33)] at h9
          exact h9
        · skip
          have hs := sLd_t hI.2.2 (by omega : i < 12) h33
          rw [← Nat.add_sub_add_right (B 9 0) 1 (i % 6)] at hs
          refine g_lload_n hC (gDec_at DX0_load_0 21 rfl) rfl ?_
          refine g_aload hC (gDec_at DX0_load_0 22 rfl) rfl ?_
          refine g_get (w := wC q) hC (15 + i) (v := .int (nI (B 0 i))) fl_X0_102 (show 15 + i < 63 from by have := (by omega); omega) (cC_p0 q _ _ (by omega)) (g_sv (ci_f0 hI (by omega) (by omega))) (gDec_at DX0_load_0 23 rfl) ?_
          refine g_aload hC (gDec_at DX0_load_0 24 rfl) rfl ?_
          refine g_get (w := wC q) hC (15 + i) (v := .int (nI (B 1 i))) fl_X0_89 (show 15 + i < 63 from by have := (by omega); omega) (cC_p0 q _ _ (by omega)) (g_sv (ci_f1 hI (by omega) (by omega))) (gDec_at DX0_load_0 25 rfl) ?_
          refine g_imulN hC (gDec_at DX0_load_0 26 rfl) ?_
          refine g_aload_n hC (gDec_at DX0_load_0 27 rfl) rfl ?_
          refine g_get (w := wC q) hC 9 (v := .int (nI (B 9 0))) fl_X0_29 (show 9 < 63 from by decide) rfl (g_sv (ci_many hI)) (gDec_at DX0_load_0 28 rfl) ?_
          refine g_iconst hC (gDec_at DX0_load_0 29 rfl) (v := nI 1) (by decide) ?_
          refine g_iaddN hC (gDec_at DX0_load_0 30 rfl) ?_
          refine g_aload hC (gDec_at DX0_load_0 31 rfl) rfl ?_
          refine g_get (w := wC q) hC (15 + i) (v := .int (nI (i % 6 + 1))) fl_X0_49 (show 15 + i < 63 from by have := (by omega); omega) (cC_p0 q _ _ (by omega)) (g_sv (ci_arm hI (by omega))) (gDec_at DX0_load_0 32 rfl) ?_
          refine g_isubN hC (by omega) (gDec_at DX0_load_0 33 rfl) ?_
          refine g_imulN hC (gDec_at DX0_load_0 34 rfl) ?_
          refine g_i2lN hC (by omega) (gDec_at DX0_load_0 35 rfl) ?_
          refine g_laddN hC (gDec_at DX0_load_0 36 rfl) ?_
          refine g_lstore_n hC (gDec_at DX0_load_0 37 rfl) (by decide) (L' := [(1, .long (lN ((gsm (fun i => if i % 6 < B 9 0 then B 0 i * B 1 i * (B 9 0 - i % 6) else 0) i) + (((B 0 i) * (B 1 i)) * (((B 9 0) + 1) - (i % 6 + 1)))))), (6, .ref (q.2.2 (15 + i))), (0, .ref (q.2.2 9)), (3, .ref (q.2.2 11)), (4, .int (nI 12)), (5, .int (nI i))]) rfl ?_
          refine g_iincN hC (gDec_at DX0_load_0 38 rfl) rfl (by decide) (L' := [(5, .int (nI (i + 1))), (1, .long (lN ((gsm (fun i => if i % 6 < B 9 0 then B 0 i * B 1 i * (B 9 0 - i % 6) else 0) i) + (((B 0 i) * (B 1 i)) * (((B 9 0) + 1) - (i % 6 + 1)))))), (6, .ref (q.2.2 (15 + i))), (0, .ref (q.2.2 9)), (3, .ref (q.2.2 11)), (4, .int (nI 12))]) rfl ?_
          refine g_goto hC (gDec_at DX0_load_0 39 rfl) 14 (by decide) ?_
          refine g_sub [3, 1, 4, 5, 0] (L' := [(0, .ref (q.2.2 9)), (1, .long (lN ((gsm (fun i => if i % 6 < B 9 0 then B 0 i * B 1 i * (B 9 0 - i % 6) else 0) i) + (((B 0 i) * (B 1 i)) * (((B 9 0) + 1) - (i % 6 + 1)))))), (3, .ref (q.2.2 11)), (4, .int (nI 12)), (5, .int (nI (i + 1)))]) rfl ?_
          have h9 := ih (i + 1) (by omega) (by omega)
          rw [show gsm (fun i => if i % 6 < B 9 0 then B 0 i * B 1 i * (B 9 0 - i % 6) else 0) (i + 1) = gsm (fun i => if i % 6 < B 9 0 then B 0 i * B 1 i * (B 9 0 - i % 6) else 0) i + B 0 i * B 1 i * (B 9 0 + 1 - (i % 6 + 1)) from gsm_s ((if_pos h33).trans (by rw [Nat.add_sub_add_right]))] at h9
          exact h9
  exact g_sub [4, 3, 2, 1, 0] rfl (loop14 (12 + 1 - 0) 0 (by omega) (by omega))

/-- the first of d, d + 1 .. (n of them) for which P holds; 0: none -/
def ffirst (P : Nat → Prop) [DecidablePred P] : Nat → Nat → Nat
  | 0, _ => 0
  | n + 1, d => if P d then d else ffirst P n (d + 1)
theorem ffirst_spec {P : Nat → Prop} [DecidablePred P] : ∀ (n d : Nat), ffirst P n d = 0 ∨ (d ≤ ffirst P n d ∧ ffirst P n d < d + n ∧ P (ffirst P n d))
  | 0, _ => Or.inl rfl
  | n + 1, d => by
    unfold ffirst
    by_cases h : P d
    · rw [if_pos h]; exact Or.inr ⟨Nat.le_refl _, by omega, h⟩
    · rw [if_neg h]
      rcases ffirst_spec (P := P) n (d + 1) with h1 | ⟨h1, h2, h3⟩
      · exact Or.inl h1
      · exact Or.inr ⟨by omega, by omega, h3⟩
def sForm (B : gB) (j f s : Nat) : Nat := ffirst (fun d => 1000 * f * (j % 6 + 1) ≤ s * B 6 (B 2 j) * B 0 j * d * d) 37 4
theorem sForm_in (B : gB) (j f s : Nat) : sForm B j f s = 0 ∨ (4 ≤ sForm B j f s ∧ sForm B j f s ≤ 40) := by
  rcases ffirst_spec (P := fun d => 1000 * f * (j % 6 + 1) ≤ s * B 6 (B 2 j) * B 0 j * d * d) 37 4 with h | ⟨h1, h2, -⟩
  · exact Or.inl h
  · exact Or.inr ⟨h1, by unfold sForm; omega⟩
def fk (n : Nat) : Int32 := if n = 0 then -9 else nI n
theorem fk_n {n : Nat} (h : n < 2147483648) : fk n = -9 ↔ n = 0 := by
  unfold fk
  by_cases e : n = 0
  · simp [e]
  · rw [if_neg e]
    constructor
    · intro q
      have h1 := nI_toInt h
      rw [q] at h1
      have h2 : (-9 : Int32).toInt = -9 := by decide
      omega
    · intro q; exact absurd q e
set_option maxRecDepth 100000 in
set_option maxHeartbeats 4000000 in
theorem c_X0_formDepth (q : gQ3) {M : gM} {B : gB} (hI : cI M B) {j : Nat} (hj : j < 12) (ht : j % 6 < B 9 0) {f s : Nat} (hf : f ≤ 999) (hs : s ≤ 99) : gCt (wC q) yX0_formDepth cX0_formDepth 7 (some .int) 1 [.ref (q.2.2 9), .ref (q.2.2 (15 + j)), .int (nI f), .int (nI s)] M (gR (some (.int (fk (sForm B j f s)))) M) := by
  refine gMet RX0 (by decide +kernel) rfl (Nat.le_of_ble_eq_true rfl) (fun X hC => ?_)
  have hC : gC X (wC q) cX0_formDepth 7 RX0 (some .int) 1 := hC
  show gG X (wC q) _ 7 M 0 [(0, .ref (q.2.2 9)), (1, .ref (q.2.2 (15 + j))), (2, .int (nI f)), (3, .int (nI s))] []
  have h0 := bv_f0 hI.2.2 hj ht
  have he := bv_e hI.2.2 (bv_f2 hI.2.2 hj ht)
  have h6 : j % 6 + 1 ≤ 6 := by omega
  have hn := mul_bd (mul_bd (Nat.le_refl 1000) hf) h6
  show gG X _ _ _ _ _ _ _
  refine g_ldc2 hC cl_X0_136 (v' := lN 1000) (by decide) (gDec_at DX0_formDepth_0 0 rfl) ?_
  refine g_iload_n hC (gDec_at DX0_formDepth_0 1 rfl) rfl ?_
  refine g_i2lN hC (by omega) (gDec_at DX0_formDepth_0 2 rfl) ?_
  refine g_lmulN hC (gDec_at DX0_formDepth_0 3 rfl) ?_
  refine g_aload_n hC (gDec_at DX0_formDepth_0 4 rfl) rfl ?_
  refine g_get (w := wC q) hC (15 + j) (v := .int (nI (j % 6 + 1))) fl_X0_49 (show 15 + j < 63 from by have := hj; omega) (cC_p0 q _ _ hj) (g_sv (ci_arm hI hj)) (gDec_at DX0_formDepth_0 5 rfl) ?_
  refine g_i2lN hC (by omega) (gDec_at DX0_formDepth_0 6 rfl) ?_
  refine g_lmulN hC (gDec_at DX0_formDepth_0 7 rfl) ?_
  refine g_lstore hC (gDec_at DX0_formDepth_0 8 rfl) (by decide) (L' := [(4, .long (lN ((1000 * f) * (j % 6 + 1)))), (0, .ref (q.2.2 9)), (1, .ref (q.2.2 (15 + j))), (2, .int (nI f)), (3, .int (nI s))]) rfl ?_
  refine g_iconst hC (gDec_at DX0_formDepth_0 9 rfl) (v := nI 4) (by decide) ?_
  refine g_istore hC (gDec_at DX0_formDepth_0 10 rfl) (by decide) (L' := [(6, .int (nI 4)), (4, .long (lN ((1000 * f) * (j % 6 + 1)))), (0, .ref (q.2.2 9)), (1, .ref (q.2.2 (15 + j))), (2, .int (nI f)), (3, .int (nI s))]) rfl ?_
  have loop17 : ∀ (fu i : Nat), i ≤ 41 → 41 - i < fu → 4 ≤ i → sForm B j f s = ffirst (fun d => 1000 * f * (j % 6 + 1) ≤ s * B 6 (B 2 j) * B 0 j * d * d) (41 - i) i → gG X (wC q) (gR (some (.int (fk (sForm B j f s)))) M) 7 M 17 [(0, .ref (q.2.2 9)), (1, .ref (q.2.2 (15 + j))), (2, .int (nI f)), (3, .int (nI s)), (4, .long (lN (1000 * f * (j % 6 + 1)))), (6, .int (nI i))] [] := by
    intro fu; induction fu with
    | zero => intro i h1 h2; omega
    | succ fu ih =>
      intro i hi hfu h4i hff
      have hdd := mul_bd (mul_bd (mul_bd (mul_bd hs he.2) h0.2) (by omega : i ≤ 41)) (by omega : i ≤ 41)
      refine g_iload hC (gDec_at DX0_formDepth_0 11 rfl) rfl ?_
      refine g_bipush hC (gDec_at DX0_formDepth_0 12 rfl) (v := nI 40) (by decide) ?_
      refine g_icmp_gtN hC (by omega) (by omega) (gDec_at DX0_formDepth_0 13 rfl) 61 (by decide) (fun h21 => ?_) (fun h21 => ?_)
      · skip
        obtain rfl : i = 41 := by omega
        refine g_bipush hC (gDec_at DX0_formDepth_0 37 rfl) (v := -9) (by decide) ?_
        refine g_iret hC (gDec_at DX0_formDepth_0 38 rfl) ?_
        exact ⟨by rw [show sForm B j f s = 0 from hff]; rfl, rfl⟩
      · skip
        refine g_lload hC (gDec_at DX0_formDepth_0 14 rfl) rfl ?_
        refine g_iload_n hC (gDec_at DX0_formDepth_0 15 rfl) rfl ?_
        refine g_i2lN hC (by omega) (gDec_at DX0_formDepth_0 16 rfl) ?_
        refine g_aload_n hC (gDec_at DX0_formDepth_0 17 rfl) rfl ?_
        refine g_aload_n hC (gDec_at DX0_formDepth_0 18 rfl) rfl ?_
        refine g_callVd (w := wC q) hC 9 (c_X0_eOf q hI hj ht) vf_X0_eOf ml_X0_98 (by decide) (show 9 < 63 from by decide) rfl rfl rfl rfl rfl (Nat.le_of_ble_eq_true rfl) (gDec_at DX0_formDepth_0 19 rfl) ?_
        refine g_lmulN hC (gDec_at DX0_formDepth_0 20 rfl) ?_
        refine g_aload_n hC (gDec_at DX0_formDepth_0 21 rfl) rfl ?_
        refine g_get (w := wC q) hC (15 + j) (v := .int (nI (B 0 j))) fl_X0_102 (show 15 + j < 63 from by have := hj; omega) (cC_p0 q _ _ hj) (g_sv (ci_f0 hI hj ht)) (gDec_at DX0_formDepth_0 22 rfl) ?_
        refine g_i2lN hC (by omega) (gDec_at DX0_formDepth_0 23 rfl) ?_
        refine g_lmulN hC (gDec_at DX0_formDepth_0 24 rfl) ?_
        refine g_iload hC (gDec_at DX0_formDepth_0 25 rfl) rfl ?_
        refine g_i2lN hC (by omega) (gDec_at DX0_formDepth_0 26 rfl) ?_
        refine g_lmulN hC (gDec_at DX0_formDepth_0 27 rfl) ?_
        refine g_iload hC (gDec_at DX0_formDepth_0 28 rfl) rfl ?_
        refine g_i2lN hC (by omega) (gDec_at DX0_formDepth_0 29 rfl) ?_
        refine g_lmulN hC (gDec_at DX0_formDepth_0 30 rfl) ?_
        refine g_lc_gtN hC (by omega) (by omega) (gDec_at DX0_formDepth_0 31 rfl) (gDec_at DX0_formDepth_0 32 rfl) 55 (by decide) (fun h48 => ?_) (fun h48 => ?_)
        · skip
          refine g_iincN hC (gDec_at DX0_formDepth_0 35 rfl) rfl (by decide) (L' := [(6, .int (nI (i + 1))), (0, .ref (q.2.2 9)), (1, .ref (q.2.2 (15 + j))), (2, .int (nI f)), (3, .int (nI s)), (4, .long (lN (1000 * f * (j % 6 + 1))))]) rfl ?_
          refine g_goto hC (gDec_at DX0_formDepth_0 36 rfl) 17 (by decide) ?_
          refine g_sub [1, 2, 3, 4, 5, 0] (L' := [(0, .ref (q.2.2 9)), (1, .ref (q.2.2 (15 + j))), (2, .int (nI f)), (3, .int (nI s)), (4, .long (lN (1000 * f * (j % 6 + 1)))), (6, .int (nI (i + 1)))]) rfl ?_
          have h9 := ih (i + 1) (by omega) (by omega) (by omega) (by rw [hff, show 41 - i = (41 - (i + 1)) + 1 by omega]; exact if_neg (by omega))
          exact h9
        · skip
          refine g_iload hC (gDec_at DX0_formDepth_0 33 rfl) rfl ?_
          refine g_iret hC (gDec_at DX0_formDepth_0 34 rfl) ?_
          exact ⟨by rw [show sForm B j f s = i from by rw [hff, show 41 - i = (40 - i) + 1 by omega]; exact if_pos (by omega)]; unfold fk; rw [if_neg (by omega)], rfl⟩
  exact g_sub [2, 3, 4, 5, 1, 0] rfl (loop17 (41 + 1 - 4) 4 (by omega) (by omega) (by omega) rfl)

def sHas (B : gB) (f s : Nat) : Prop := ∀ j, j < 12 → j % 6 < B 9 0 → ¬ sForm B j f s = 0
theorem fk_ne {B : gB} {i f s : Nat} : (¬ fk (sForm B i f s) = -9) ↔ ¬ sForm B i f s = 0 := by
  rw [fk_n (by rcases sForm_in B i f s with h | h <;> omega)]
set_option maxRecDepth 100000 in
set_option maxHeartbeats 4000000 in
theorem c_X0_hasForm (q : gQ3) {M : gM} {B : gB} (hI : cI M B) {f s : Nat} (hf : f ≤ 999) (hs : s ≤ 99) (hh : sHas B f s) : gCt (wC q) yX0_hasForm cX0_hasForm 7 (some .boolean) 2 [.ref (q.2.2 9), .int (nI f), .int (nI s)] M (gR (some (.int 1)) M) := by
  refine gMet RX0 (by decide +kernel) rfl (Nat.le_of_ble_eq_true rfl) (fun X hC => ?_)
  have hC : gC X (wC q) cX0_hasForm 7 RX0 (some .boolean) 2 := hC
  show gG X (wC q) _ 7 M 0 [(0, .ref (q.2.2 9)), (1, .int (nI f)), (2, .int (nI s))] []
  refine g_aload_n hC (gDec_at DX0_hasForm_0 0 rfl) rfl ?_
  refine g_get (w := wC q) hC 9 (v := .ref (q.2.2 11)) fl_X0_22 (show 9 < 63 from by decide) rfl rfl (gDec_at DX0_hasForm_0 1 rfl) ?_
  refine g_astore_n hC (gDec_at DX0_hasForm_0 2 rfl) (by decide) (L' := [(3, .ref (q.2.2 11)), (0, .ref (q.2.2 9)), (1, .int (nI f)), (2, .int (nI s))]) rfl ?_
  refine g_aload_n hC (gDec_at DX0_hasForm_0 3 rfl) rfl ?_
  refine g_alen (w := wC q) hC 11 3 (show 11 < 63 from by decide) rfl rfl (gDec_at DX0_hasForm_0 4 rfl) ?_
  refine g_istore hC (gDec_at DX0_hasForm_0 5 rfl) (by decide) (L' := [(4, .int (nI 12)), (3, .ref (q.2.2 11)), (0, .ref (q.2.2 9)), (1, .int (nI f)), (2, .int (nI s))]) rfl ?_
  refine g_iconst hC (gDec_at DX0_hasForm_0 6 rfl) (v := nI 0) (by decide) ?_
  refine g_istore hC (gDec_at DX0_hasForm_0 7 rfl) (by decide) (L' := [(5, .int (nI 0)), (4, .int (nI 12)), (3, .ref (q.2.2 11)), (0, .ref (q.2.2 9)), (1, .int (nI f)), (2, .int (nI s))]) rfl ?_
  have loop12 : ∀ (fu i : Nat), i ≤ 12 → 12 - i < fu → gG X (wC q) (gR (some (.int 1)) M) 7 M 12 [(0, .ref (q.2.2 9)), (1, .int (nI f)), (2, .int (nI s)), (3, .ref (q.2.2 11)), (4, .int (nI 12)), (5, .int (nI i))] [] := by
    intro fu; induction fu with
    | zero => intro i h1 h2; omega
    | succ fu ih =>
      intro i hi hfu 
      refine g_iload hC (gDec_at DX0_hasForm_0 8 rfl) rfl ?_
      refine g_iload hC (gDec_at DX0_hasForm_0 9 rfl) rfl ?_
      refine g_icmp_geN hC (by omega) (by omega) (gDec_at DX0_hasForm_0 10 rfl) 55 (by decide) (fun h16 => ?_) (fun h16 => ?_)
      · skip
        obtain rfl : i = 12 := by omega
        refine g_iconst hC (gDec_at DX0_hasForm_0 30 rfl) (v := nI 1) (by decide) ?_
        refine g_zret hC (Or.inr rfl) (gDec_at DX0_hasForm_0 31 rfl) ?_
        exact ⟨rfl, rfl⟩
      · skip
        refine g_aload_n hC (gDec_at DX0_hasForm_0 11 rfl) rfl ?_
        refine g_iload hC (gDec_at DX0_hasForm_0 12 rfl) rfl ?_
        refine g_aald (w := wC q) hC 11 3 i (a := q.2.2 (15 + i)) (show 11 < 63 from by decide) rfl rfl (by omega) (by decide) rfl (gDec_at DX0_hasForm_0 13 rfl) ?_
        refine g_astore hC (gDec_at DX0_hasForm_0 14 rfl) (by decide) (L' := [(6, .ref (q.2.2 (15 + i))), (0, .ref (q.2.2 9)), (1, .int (nI f)), (2, .int (nI s)), (3, .ref (q.2.2 11)), (4, .int (nI 12)), (5, .int (nI i))]) rfl ?_
        refine g_aload_n hC (gDec_at DX0_hasForm_0 15 rfl) rfl ?_
        refine g_aload hC (gDec_at DX0_hasForm_0 16 rfl) rfl ?_
        refine g_callVd (w := wC q) hC 9 (c_X0_has q hI (by omega)) vf_X0_has ml_X0_42 (by decide) (show 9 < 63 from by decide) rfl rfl rfl rfl rfl (Nat.le_of_ble_eq_true rfl) (gDec_at DX0_hasForm_0 17 rfl) ?_
        refine g_if_eqB hC (gDec_at DX0_hasForm_0 18 rfl) 49 (by decide) (fun h31 => ?_) (fun h31 => ?_)
        · skip
          refine g_iincN hC (gDec_at DX0_hasForm_0 28 rfl) rfl (by decide) (L' := [(5, .int (nI (i + 1))), (6, .ref (q.2.2 (15 + i))), (0, .ref (q.2.2 9)), (1, .int (nI f)), (2, .int (nI s)), (3, .ref (q.2.2 11)), (4, .int (nI 12))]) rfl ?_
          refine g_goto hC (gDec_at DX0_hasForm_0 29 rfl) 12 (by decide) ?_
          refine g_sub [2, 3, 4, 5, 6, 0] (L' := [(0, .ref (q.2.2 9)), (1, .int (nI f)), (2, .int (nI s)), (3, .ref (q.2.2 11)), (4, .int (nI 12)), (5, .int (nI (i + 1)))]) rfl ?_
          have h9 := ih (i + 1) (by omega) (by omega)
          exact h9
        · skip
          refine g_aload_n hC (gDec_at DX0_hasForm_0 19 rfl) rfl ?_
          refine g_aload hC (gDec_at DX0_hasForm_0 20 rfl) rfl ?_
          refine g_iload_n hC (gDec_at DX0_hasForm_0 21 rfl) rfl ?_
          refine g_iload_n hC (gDec_at DX0_hasForm_0 22 rfl) rfl ?_
          refine g_callVd (w := wC q) hC 9 (c_X0_formDepth q hI (by omega) (by omega) (f := f) (s := s) (by omega) (by omega)) vf_X0_formDepth ml_X0_165 (by decide) (show 9 < 63 from by decide) rfl rfl rfl rfl rfl (Nat.le_of_ble_eq_true rfl) (gDec_at DX0_hasForm_0 23 rfl) ?_
          refine g_bipush hC (gDec_at DX0_hasForm_0 24 rfl) (v := -9) (by decide) ?_
          refine g_icmp_ne hC (gDec_at DX0_hasForm_0 25 rfl) 49 (by decide) (fun h44 => ?_) (fun h44 => ?_)
          · skip
            refine g_iincN hC (gDec_at DX0_hasForm_0 28 rfl) rfl (by decide) (L' := [(5, .int (nI (i + 1))), (6, .ref (q.2.2 (15 + i))), (0, .ref (q.2.2 9)), (1, .int (nI f)), (2, .int (nI s)), (3, .ref (q.2.2 11)), (4, .int (nI 12))]) rfl ?_
            refine g_goto hC (gDec_at DX0_hasForm_0 29 rfl) 12 (by decide) ?_
            refine g_sub [2, 3, 4, 5, 6, 0] (L' := [(0, .ref (q.2.2 9)), (1, .int (nI f)), (2, .int (nI s)), (3, .ref (q.2.2 11)), (4, .int (nI 12)), (5, .int (nI (i + 1)))]) rfl ?_
            have h9 := ih (i + 1) (by omega) (by omega)
            exact h9
          · skip
            exact absurd h44 (fk_ne.mpr (hh i (by omega) h31))
  exact g_sub [3, 4, 5, 2, 1, 0] rfl (loop12 (12 + 1 - 0) 0 (by omega) (by omega))

set_option maxRecDepth 100000 in
set_option maxHeartbeats 4000000 in
theorem c_X0_hasForm_no (q : gQ3) {M : gM} {B : gB} (hI : cI M B) {f s : Nat} (hf : f ≤ 999) (hs : s ≤ 99) (hh : ¬ sHas B f s) : gCt (wC q) yX0_hasForm cX0_hasForm 7 (some .boolean) 2 [.ref (q.2.2 9), .int (nI f), .int (nI s)] M (gR (some (.int 0)) M) := by
  refine gMet RX0 (by decide +kernel) rfl (Nat.le_of_ble_eq_true rfl) (fun X hC => ?_)
  have hC : gC X (wC q) cX0_hasForm 7 RX0 (some .boolean) 2 := hC
  show gG X (wC q) _ 7 M 0 [(0, .ref (q.2.2 9)), (1, .int (nI f)), (2, .int (nI s))] []
  refine g_aload_n hC (gDec_at DX0_hasForm_0 0 rfl) rfl ?_
  refine g_get (w := wC q) hC 9 (v := .ref (q.2.2 11)) fl_X0_22 (show 9 < 63 from by decide) rfl rfl (gDec_at DX0_hasForm_0 1 rfl) ?_
  refine g_astore_n hC (gDec_at DX0_hasForm_0 2 rfl) (by decide) (L' := [(3, .ref (q.2.2 11)), (0, .ref (q.2.2 9)), (1, .int (nI f)), (2, .int (nI s))]) rfl ?_
  refine g_aload_n hC (gDec_at DX0_hasForm_0 3 rfl) rfl ?_
  refine g_alen (w := wC q) hC 11 3 (show 11 < 63 from by decide) rfl rfl (gDec_at DX0_hasForm_0 4 rfl) ?_
  refine g_istore hC (gDec_at DX0_hasForm_0 5 rfl) (by decide) (L' := [(4, .int (nI 12)), (3, .ref (q.2.2 11)), (0, .ref (q.2.2 9)), (1, .int (nI f)), (2, .int (nI s))]) rfl ?_
  refine g_iconst hC (gDec_at DX0_hasForm_0 6 rfl) (v := nI 0) (by decide) ?_
  refine g_istore hC (gDec_at DX0_hasForm_0 7 rfl) (by decide) (L' := [(5, .int (nI 0)), (4, .int (nI 12)), (3, .ref (q.2.2 11)), (0, .ref (q.2.2 9)), (1, .int (nI f)), (2, .int (nI s))]) rfl ?_
  have loop12 : ∀ (fu i : Nat), i ≤ 12 → 12 - i < fu → (∀ j, j < i → j % 6 < B 9 0 → ¬ sForm B j f s = 0) → gG X (wC q) (gR (some (.int 0)) M) 7 M 12 [(0, .ref (q.2.2 9)), (1, .int (nI f)), (2, .int (nI s)), (3, .ref (q.2.2 11)), (4, .int (nI 12)), (5, .int (nI i))] [] := by
    intro fu; induction fu with
    | zero => intro i h1 h2; omega
    | succ fu ih =>
      intro i hi hfu hno
      refine g_iload hC (gDec_at DX0_hasForm_0 8 rfl) rfl ?_
      refine g_iload hC (gDec_at DX0_hasForm_0 9 rfl) rfl ?_
      refine g_icmp_geN hC (by omega) (by omega) (gDec_at DX0_hasForm_0 10 rfl) 55 (by decide) (fun h16 => ?_) (fun h16 => ?_)
      · skip
        obtain rfl : i = 12 := by omega
        exact absurd hno hh --end
      · skip
        refine g_aload_n hC (gDec_at DX0_hasForm_0 11 rfl) rfl ?_
        refine g_iload hC (gDec_at DX0_hasForm_0 12 rfl) rfl ?_
        refine g_aald (w := wC q) hC 11 3 i (a := q.2.2 (15 + i)) (show 11 < 63 from by decide) rfl rfl (by omega) (by decide) rfl (gDec_at DX0_hasForm_0 13 rfl) ?_
        refine g_astore hC (gDec_at DX0_hasForm_0 14 rfl) (by decide) (L' := [(6, .ref (q.2.2 (15 + i))), (0, .ref (q.2.2 9)), (1, .int (nI f)), (2, .int (nI s)), (3, .ref (q.2.2 11)), (4, .int (nI 12)), (5, .int (nI i))]) rfl ?_
        refine g_aload_n hC (gDec_at DX0_hasForm_0 15 rfl) rfl ?_
        refine g_aload hC (gDec_at DX0_hasForm_0 16 rfl) rfl ?_
        refine g_callVd (w := wC q) hC 9 (c_X0_has q hI (by omega)) vf_X0_has ml_X0_42 (by decide) (show 9 < 63 from by decide) rfl rfl rfl rfl rfl (Nat.le_of_ble_eq_true rfl) (gDec_at DX0_hasForm_0 17 rfl) ?_
        refine g_if_eqB hC (gDec_at DX0_hasForm_0 18 rfl) 49 (by decide) (fun h31 => ?_) (fun h31 => ?_)
        · skip
          refine g_iincN hC (gDec_at DX0_hasForm_0 28 rfl) rfl (by decide) (L' := [(5, .int (nI (i + 1))), (6, .ref (q.2.2 (15 + i))), (0, .ref (q.2.2 9)), (1, .int (nI f)), (2, .int (nI s)), (3, .ref (q.2.2 11)), (4, .int (nI 12))]) rfl ?_
          refine g_goto hC (gDec_at DX0_hasForm_0 29 rfl) 12 (by decide) ?_
          refine g_sub [2, 3, 4, 5, 6, 0] (L' := [(0, .ref (q.2.2 9)), (1, .int (nI f)), (2, .int (nI s)), (3, .ref (q.2.2 11)), (4, .int (nI 12)), (5, .int (nI (i + 1)))]) rfl ?_
          have h9 := ih (i + 1) (by omega) (by omega) (fun j hj2 ht2 => by rcases Nat.lt_succ_iff_lt_or_eq.mp hj2 with q | q; exact hno j q ht2; subst q; exact absurd ht2 h31)
          exact h9
        · skip
          refine g_aload_n hC (gDec_at DX0_hasForm_0 19 rfl) rfl ?_
          refine g_aload hC (gDec_at DX0_hasForm_0 20 rfl) rfl ?_
          refine g_iload_n hC (gDec_at DX0_hasForm_0 21 rfl) rfl ?_
          refine g_iload_n hC (gDec_at DX0_hasForm_0 22 rfl) rfl ?_
          refine g_callVd (w := wC q) hC 9 (c_X0_formDepth q hI (by omega) (by omega) (f := f) (s := s) (by omega) (by omega)) vf_X0_formDepth ml_X0_165 (by decide) (show 9 < 63 from by decide) rfl rfl rfl rfl rfl (Nat.le_of_ble_eq_true rfl) (gDec_at DX0_hasForm_0 23 rfl) ?_
          refine g_bipush hC (gDec_at DX0_hasForm_0 24 rfl) (v := -9) (by decide) ?_
          refine g_icmp_ne hC (gDec_at DX0_hasForm_0 25 rfl) 49 (by decide) (fun h44 => ?_) (fun h44 => ?_)
          · skip
            refine g_iincN hC (gDec_at DX0_hasForm_0 28 rfl) rfl (by decide) (L' := [(5, .int (nI (i + 1))), (6, .ref (q.2.2 (15 + i))), (0, .ref (q.2.2 9)), (1, .int (nI f)), (2, .int (nI s)), (3, .ref (q.2.2 11)), (4, .int (nI 12))]) rfl ?_
            refine g_goto hC (gDec_at DX0_hasForm_0 29 rfl) 12 (by decide) ?_
            refine g_sub [2, 3, 4, 5, 6, 0] (L' := [(0, .ref (q.2.2 9)), (1, .int (nI f)), (2, .int (nI s)), (3, .ref (q.2.2 11)), (4, .int (nI 12)), (5, .int (nI (i + 1)))]) rfl ?_
            have h9 := ih (i + 1) (by omega) (by omega) (fun j hj2 ht2 => by rcases Nat.lt_succ_iff_lt_or_eq.mp hj2 with q | q; exact hno j q ht2; subst q; exact fk_ne.mp h44)
            exact h9
          · skip
            skip
            refine g_iconst hC (gDec_at DX0_hasForm_0 26 rfl) (v := nI 0) (by decide) ?_
            refine g_zret hC (Or.inl rfl) (gDec_at DX0_hasForm_0 27 rfl) ?_
            exact ⟨rfl, rfl⟩
  exact g_sub [3, 4, 5, 2, 1, 0] rfl (loop12 (12 + 1 - 0) 0 (by omega) (by omega) (fun j h => absurd h (Nat.not_lt_zero j)))
