/-! THE REFERENCE: draw, shape, next -/
/-- B with the bow broken at a place (and 1) -/
def brB (B : gB) (r : Nat) : gB := upB B 9 1 (if r = 0 then 0 else sTold (r - 1) + 1)
theorem nxV_0 : nxV 0 = -9 := rfl
theorem nxV_s (j : Nat) : nxV (j + 1) = nI (sTold j) := by unfold nxV; rw [if_neg (by omega)]; rfl
theorem mI_br {M : gM} {B : gB} (h : mI M B) {r : Nat} (hr : r ≤ 12) : mI (gupd M 0 11 (nxV r)) (brB B r) := by
  obtain ⟨h0, ⟨h1, h2, h3, h4⟩, hV⟩ := h
  have hu : ∀ a b, a ≠ 9 → brB B r a b = B a b := fun a b ha => by unfold brB upB; rw [if_neg (fun z => ha z.1)]
  have h90 : brB B r 9 0 = B 9 0 := by unfold brB upB; rw [if_neg (by omega)]
  have h91 : brB B r 9 1 = if r = 0 then 0 else sTold (r - 1) + 1 := by unfold brB upB; rw [if_pos ⟨rfl, rfl⟩]
  refine ⟨by rw [gupd_get, if_neg (by omega)]; exact h0, ⟨by rw [gupd_get, if_neg (by omega), h90]; exact h1, ?_, fun k hk => ?_, fun j hj ht => ?_⟩, ?_⟩
  · rw [gupd_get, if_pos ⟨rfl, rfl⟩, h91]
    unfold nxV bk
    by_cases e : r = 0
    · rw [if_pos e, if_pos e, if_pos rfl]
    · rw [if_neg e, if_neg e, if_neg (by omega), Nat.add_sub_cancel]
  · rw [gupd_get, gupd_get, gupd_get, if_neg (by omega), if_neg (by omega), if_neg (by omega), hu 6 k (by omega), hu 7 k (by omega), hu 8 k (by omega)]; exact h3 k hk
  · rw [h90] at ht
    rw [gupd_get, gupd_get, gupd_get, gupd_get, gupd_get, gupd_get, if_neg (by omega), if_neg (by omega), if_neg (by omega), if_neg (by omega), if_neg (by omega), if_neg (by omega), hu 0 j (by omega), hu 1 j (by omega), hu 2 j (by omega), hu 3 j (by omega), hu 4 j (by omega), hu 5 j (by omega)]
    exact h4 j hj ht
  · obtain ⟨v1, v2, v3, v4, v5⟩ := hV
    refine ⟨by rw [h90]; exact v1, by rw [h90]; exact v2, ?_, fun k hk => ?_, fun j hj ht => ?_⟩
    · rw [h91]; unfold sTold; split <;> omega
    · rw [hu 6 k (by omega), hu 7 k (by omega), hu 8 k (by omega)]; exact v4 k hk
    · rw [h90] at ht
      rw [hu 0 j (by omega), hu 1 j (by omega), hu 2 j (by omega), hu 3 j (by omega), hu 4 j (by omega), hu 5 j (by omega)]
      exact v5 j hj ht
theorem gupd_2 {M : gM} {i k : Nat} {x y : Int32} : gupd (gupd M i k x) i k y = gupd M i k y := by
  refine Prod.ext ?_ rfl
  funext a b
  rw [gupd_get, gupd_get, gupd_get]
  by_cases e : a = i ∧ b = k
  · rw [if_pos e, if_pos e]
  · rw [if_neg e, if_neg e, if_neg e]
theorem mI_1 {M M' : gM} {B : gB} (h : mI M B) (e : M'.1 = M.1) : mI M' B := by
  unfold mI mC
  rw [e]
  exact h
theorem mI_out {M : gM} {B : gB} (h : mI M B) {f j : Nat} {x : Int32} (hf : f < 6) (ht : ¬ j % 6 < B 9 0) : mI (gupd M (2 + f) j x) B := by
  obtain ⟨h0, ⟨h1, h2, h3, h4⟩, hV⟩ := h
  refine ⟨by rw [gupd_get, if_neg (by omega)]; exact h0, ⟨by rw [gupd_get, if_neg (by omega)]; exact h1, by rw [gupd_get, if_neg (by omega)]; exact h2, fun k hk => ?_, fun j' hj' ht' => ?_⟩, hV⟩
  · rw [gupd_get, gupd_get, gupd_get, if_neg (by omega), if_neg (by omega), if_neg (by omega)]; exact h3 k hk
  · have e : ∀ r, (gupd M (2 + f) j x).1 (2 + r) j' = M.1 (2 + r) j' := fun r => by
      rw [gupd_get, if_neg (fun (z : 2 + r = 2 + f ∧ j' = j) => ht (z.2 ▸ ht'))]
    have := h4 j' hj' ht'
    exact ⟨(e 0).trans this.1, (e 1).trans this.2.1, (e 2).trans this.2.2.1, (e 3).trans this.2.2.2.1, (e 4).trans this.2.2.2.2.1, (e 5).trans this.2.2.2.2.2⟩
theorem c_X7_strainOf_b (q : gQ3) {M : gM} {B : gB} {r : Nat} (hI : mI M (brB B r)) {j : Nat} (hj : j < 12) (ht : j % 6 < B 9 0) {x : Nat} (hx : x ≤ 40) : gCt (wM q) yX7_strainOf cX7_strainOf 5 (some .long) 4 [.ref (q.2.2 0), .int (nI j), .int (nI x)] M (gR (some (.long (lN (sStr B (sPull B x) (sAll B) j)))) M) := c_X7_strainOf q hI hj ht hx
theorem c_X7_pullLine_b (q : gQ3) {M : gM} {B : gB} {r : Nat} (hI : mI M (brB B r)) {j : Nat} (hj : j < 12) (ht : j % 6 < B 9 0) : gCt (wM q) yX7_pullLine cX7_pullLine 3 (some .long) 0 [.ref (q.2.2 0), .int (nI j)] M (gR (some (.long (lN (1000 * sPl B j)))) M) := c_X7_pullLine q hI hj ht
theorem c_X7_isThere_b (q : gQ3) {M : gM} {B : gB} {r : Nat} (hI : mI M (brB B r)) {i : Nat} (hi : i < 12) : gCt (wM q) yX7_isThere cX7_isThere 2 (some .boolean) 0 [.ref (q.2.2 0), .int (nI i)] M (gR (some (.int (gb (i % 6 < B 9 0)))) M) := c_X7_isThere q hI hi
theorem c_X7_isThere_t (q : gQ3) {M : gM} {B : gB} {a : Nat → Nat} {n : Nat} (hI : mI M (tkB B a n)) {i : Nat} (hi : i < 12) : gCt (wM q) yX7_isThere cX7_isThere 2 (some .boolean) 0 [.ref (q.2.2 0), .int (nI i)] M (gR (some (.int (gb (i % 6 < B 9 0)))) M) := c_X7_isThere q hI hi
theorem c_X7_isThere_f (q : gQ3) {M : gM} {B : gB} {f s n : Nat} (hI : mI M (fmB B f s n)) {i : Nat} (hi : i < 12) : gCt (wM q) yX7_isThere cX7_isThere 2 (some .boolean) 0 [.ref (q.2.2 0), .int (nI i)] M (gR (some (.int (gb (i % 6 < B 9 0)))) M) := c_X7_isThere q hI hi
theorem c_X7_formOf_f0 (q : gQ3) {M : gM} {B : gB} {n f s : Nat} (hI : mI M (fmB B f s n)) {j : Nat} (hj : j < 12) (ht : j % 6 < B 9 0) (hf : f ≤ 999) (hs : s ≤ 99) : gCt (wM q) yX7_formOf cX7_formOf 5 (some .int) 0 [.ref (q.2.2 0), .int (nI j), .int (nI f), .int (nI s)] M (gR (some (.int (fk (sForm B j f s)))) M) := c_X7_formOf q hI hj ht hf hs
theorem fk_i {n : Nat} (h : ¬ n = 0) : fk n = nI n := if_neg h
theorem c_X7_formOf_f (q : gQ3) {M : gM} {B : gB} {n f s : Nat} (hI : mI M (fmB B f s n)) {j : Nat} (hj : j < 12) (ht : j % 6 < B 9 0) (hf : f ≤ 999) (hs : s ≤ 99) (hz : ¬ sForm B j f s = 0) : gCt (wM q) yX7_formOf cX7_formOf 5 (some .int) 0 [.ref (q.2.2 0), .int (nI j), .int (nI f), .int (nI s)] M (gR (some (.int (nI (sForm B j f s)))) M) := fk_i hz ▸ c_X7_formOf_f0 q hI hj ht hf hs