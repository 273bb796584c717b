/-! THE TWO STATES, side by side -/
/-- what of the class's memory the slots use -/
def cK (M M' : gM) : Prop := ∀ c, (c = 7 ∨ c = 8 ∨ 27 ≤ c) → M'.1 c = M.1 c
def mK (M M' : gM) : Prop := M'.1 12 = M.1 12 ∧ M'.1 13 = M.1 13
/-- the reference's slot s holds K -/
def mP (M : gM) (s : Nat) (K : gB) : Prop := M.1 12 (90 * s + 81) = nI (K 9 0) ∧ M.1 12 (90 * s + 82) = bk (K 9 1) ∧ (∀ k, k < 3 → M.1 12 (90 * s + 72 + 3 * k) = nI (K 6 k) ∧ M.1 12 (90 * s + 72 + (3 * k + 1)) = nI (K 7 k) ∧ M.1 12 (90 * s + 72 + (3 * k + 2)) = nI (K 8 k)) ∧ ∀ j, j < 12 → j % 6 < K 9 0 → ∀ r, r < 6 → M.1 12 (90 * s + 12 * r + j) = nI (K r j)
def gSl (MC MM : gM) (s : Nat) : Prop := (MC.1 (7 + s) 1 = nI 0 ∧ MM.1 13 s = nI 0) ∨ (MC.1 (7 + s) 1 = nI 1 ∧ MM.1 13 s = nI 1 ∧ ∃ K, bC (s + 1) MC K ∧ bV K ∧ mP MM s K)
def gSt (MC MM : gM) : Prop := ∃ (B : gB) (tl : Nat) (tb : Nat → Nat), cI MC B ∧ cT MC tl tb ∧ mI MM B ∧ mT MM tl tb ∧ ∀ s, s < 2 → gSl MC MM s
theorem bC_keep {M M' : gM} {b : Nat} {K : gB} (h : bC b M K) (e : ∀ c, 9 + 18 * b ≤ c → c < 27 + 18 * b → M'.1 c = M.1 c) : bC b M' K := by
  obtain ⟨h1, h2, h3, h4⟩ := h
  refine ⟨by rw [e _ (by omega) (by omega)]; exact h1, by rw [e _ (by omega) (by omega)]; exact h2, fun k hk => ?_, fun j hj ht => ?_⟩
  · rw [e _ (by omega) (by omega)]; exact h3 k hk
  · rw [e _ (by omega) (by omega)]; exact h4 j hj ht
theorem cI_keep {M M' : gM} {B : gB} (h : cI M B) (e : ∀ c, 9 ≤ c → c < 63 → M'.1 c = M.1 c) : cI M' B := by
  refine ⟨fun b hb j hj => ?_, bC_keep h.2.1 (fun c h1 h2 => e c (by omega) (by omega)), h.2.2⟩
  rw [e _ (by omega) (by omega)]; exact h.1 b hb j hj
theorem mP_keep {M M' : gM} {s : Nat} {K : gB} (h : mP M s K) (e : M'.1 12 = M.1 12) : mP M' s K := by
  unfold mP; rw [e]; exact h
theorem gSl_keep {MC MM MC' MM' : gM} {s : Nat} (h : gSl MC MM s) (hs : s < 2) (h1 : cK MC MC') (h2 : mK MM MM') : gSl MC' MM' s := by
  have e1 : MC'.1 (7 + s) = MC.1 (7 + s) := h1 _ (by omega)
  unfold gSl
  rw [e1, h2.2]
  rcases h with h | ⟨a, b, K, c, d, e⟩
  · exact Or.inl h
  · exact Or.inr ⟨a, b, K, bC_keep c (fun c h3 h4 => h1 c (by omega)), d, mP_keep e h2.1⟩
theorem gSt_to {MC MM MC' MM' : gM} {B : gB} {tl : Nat} {tb : Nat → Nat} (hs : ∀ s, s < 2 → gSl MC MM s) (h1 : cI MC' B) (h2 : cT MC' tl tb) (h3 : mI MM' B) (h4 : mT MM' tl tb) (h5 : cK MC MC') (h6 : mK MM MM') : gSt MC' MM' := ⟨B, tl, tb, h1, h2, h3, h4, fun s h => gSl_keep (hs s h) h h5 h6⟩
theorem cK_up {M : gM} {i k : Nat} {x : Int32} (hi : i < 7 ∨ (9 ≤ i ∧ i < 27)) : cK M (gupd M i k x) := fun c hc => by
  funext z; rw [gupd_get, if_neg (by omega)]
theorem cK_tr {M M1 M2 : gM} (h : cK M M1) (h2 : cK M1 M2) : cK M M2 := fun c hc => (h2 c hc).trans (h c hc)
theorem cK_o {P : Nat → Prop} {M M' : gM} (h : sameO P M M') (hP : ∀ c, (c = 7 ∨ c = 8 ∨ 27 ≤ c) → ¬ P c) : cK M M' := fun c hc => h c (hP c hc)
theorem mK_up {M : gM} {i k : Nat} {x : Int32} (hi : i ≠ 12 ∧ i ≠ 13) : mK M (gupd M i k x) := ⟨by funext z; rw [gupd_get, if_neg (by omega)], by funext z; rw [gupd_get, if_neg (by omega)]⟩
theorem mK_tr {M M1 M2 : gM} (h : mK M M1) (h2 : mK M1 M2) : mK M M2 := ⟨h2.1.trans h.1, h2.2.trans h.2⟩
theorem cT_up {M : gM} {tl : Nat} {tb : Nat → Nat} (h : cT M tl tb) {i k : Nat} {x : Int32} (hi : i ≠ 1 ∧ i ≠ 2) : cT (gupd M i k x) tl tb := by
  refine ⟨by rw [gupd_get, if_neg (by omega)]; exact h.1, h.2.1, fun z hz => ?_⟩
  rw [gupd_get, if_neg (by omega)]; exact h.2.2 z hz
theorem mT_up {M : gM} {tl : Nat} {tb : Nat → Nat} (h : mT M tl tb) {i k : Nat} {x : Int32} (hi : i ≠ 1 ∧ (i = 0 → k ≠ 2)) : mT (gupd M i k x) tl tb := by
  refine ⟨by rw [gupd_get, if_neg (by omega)]; exact h.1, h.2.1, fun z hz => ?_⟩
  rw [gupd_get, if_neg (by omega)]; exact h.2.2 z hz
theorem mT_o {P : Nat → Prop} {M M' : gM} {tl : Nat} {tb : Nat → Nat} (h : mT M tl tb) (hs : sameO P M M') (h0 : ¬ P 0) (h1 : ¬ P 1) : mT M' tl tb := by
  unfold mT; rw [hs 0 h0, hs 1 h1]; exact h
theorem mK_o {P : Nat → Prop} {M M' : gM} (hs : sameO P M M') (h0 : ¬ P 12) (h1 : ¬ P 13) : mK M M' := ⟨hs 12 h0, hs 13 h1⟩
theorem bV_up {B : gB} (h : bV B) {f j v : Nat} (hf : f < 6) (h0 : f = 0 → 1 ≤ v ∧ v ≤ 9) (h1 : f = 1 → 4 ≤ v ∧ v ≤ 40) (h2 : f = 2 → v ≤ 2) (h3 : f = 3 → v ≤ 99) (h4 : f = 4 → v ≤ 1) (h5 : f = 5 → v ≤ 99) : bV (upB B f j v) := by
  have hr : ∀ r i, r ≠ f → upB B f j v r i = B r i := fun r i hr => by unfold upB; rw [if_neg (fun z => hr z.1)]
  obtain ⟨a1, a2, a3, a4, a5⟩ := h
  refine ⟨by rw [hr 9 0 (by omega)]; exact a1, by rw [hr 9 0 (by omega)]; exact a2, by rw [hr 9 1 (by omega)]; exact a3, fun k hk => ?_, fun i hi ht => ?_⟩
  · rw [hr 6 k (by omega), hr 7 k (by omega), hr 8 k (by omega)]; exact a4 k hk
  · rw [hr 9 0 (by omega)] at ht
    obtain ⟨b0, b1, b2, b3, b4, b5⟩ := a5 i hi ht
    have key : ∀ (r : Nat) (P : Nat → Prop), P (B r i) → (r = f → P v) → P (upB B f j v r i) := fun r P p1 p2 => by
      unfold upB
      by_cases e : r = f ∧ i = j
      · rw [if_pos e]; exact p2 e.1
      · rw [if_neg e]; exact p1
    exact ⟨key 0 (fun x => 1 ≤ x ∧ x ≤ 9) b0 (fun e => h0 e.symm), key 1 (fun x => 4 ≤ x ∧ x ≤ 40) b1 (fun e => h1 e.symm), key 2 (fun x => x ≤ 2) b2 (fun e => h2 e.symm), key 3 (fun x => x ≤ 99) b3 (fun e => h3 e.symm), key 4 (fun x => x ≤ 1) b4 (fun e => h4 e.symm), key 5 (fun x => x ≤ 99) b5 (fun e => h5 e.symm)⟩
/-- one thing of one place set on both sides -/
theorem gSt_set {MC MM : gM} {B : gB} {tl : Nat} {tb : Nat → Nat} (hI : cI MC B) (hT : cT MC tl tb) (hI' : mI MM B) (hT' : mT MM tl tb) (hs : ∀ s, s < 2 → gSl MC MM s) {f k j v : Nat} (hf : fldOf f k) (hj : j < 12) (hV : bV (upB B f j v)) (h8 : k = 8 → v ≤ 1) : gSt (gupd MC (15 + j) k (nI v)) (gupd MM (2 + f) j (nI v)) := by
  have hf6 : f < 6 := by rcases hf with q | q | q | q | q | q <;> omega
  exact gSt_to hs (cI_set hI hf hV h8) (cT_up hT (by omega)) (mI_set hI' hf6 hV) (mT_up hT' (by omega)) (cK_up (by omega)) (mK_up (by omega))
def wdB (B : gB) (k e p r : Nat) : gB := fun f j => if j = k ∧ f = 6 then e else if j = k ∧ f = 7 then p else if j = k ∧ f = 8 then r else B f j
theorem wdB_o {B : gB} {k e p r : Nat} {f j : Nat} (h : j ≠ k ∨ (f ≠ 6 ∧ f ≠ 7 ∧ f ≠ 8)) : wdB B k e p r f j = B f j := by
  unfold wdB; rw [if_neg (by omega), if_neg (by omega), if_neg (by omega)]
theorem wdB_6 {B : gB} {k e p r : Nat} : wdB B k e p r 6 k = e := by unfold wdB; rw [if_pos ⟨rfl, rfl⟩]
theorem wdB_7 {B : gB} {k e p r : Nat} : wdB B k e p r 7 k = p := by unfold wdB; rw [if_neg (by omega), if_pos ⟨rfl, rfl⟩]
theorem wdB_8 {B : gB} {k e p r : Nat} : wdB B k e p r 8 k = r := by unfold wdB; rw [if_neg (by omega), if_neg (by omega), if_pos ⟨rfl, rfl⟩]
theorem wdB_V {B : gB} (h : bV B) {k e p r : Nat} (he : 1 ≤ e ∧ e ≤ 9) (hp : 1 ≤ p ∧ p ≤ 99) (hr : 1 ≤ r ∧ r ≤ 99) : bV (wdB B k e p r) := by
  obtain ⟨a1, a2, a3, a4, a5⟩ := h
  refine ⟨by rw [wdB_o (by omega)]; exact a1, by rw [wdB_o (by omega)]; exact a2, by rw [wdB_o (by omega)]; exact a3, fun z hz => ?_, fun i hi ht => ?_⟩
  · by_cases c : z = k
    · subst c; rw [wdB_6, wdB_7, wdB_8]; exact ⟨he, hp, hr⟩
    · rw [wdB_o (by omega), wdB_o (by omega), wdB_o (by omega)]; exact a4 z hz
  · rw [wdB_o (by omega)] at ht
    rw [wdB_o (by omega), wdB_o (by omega), wdB_o (by omega), wdB_o (by omega), wdB_o (by omega), wdB_o (by omega)]; exact a5 i hi ht
theorem cI_wd {M : gM} {B : gB} (h : cI M B) {k e p r : Nat} (hk : k < 3) (hV : bV (wdB B k e p r)) : cI (gupd (gupd (gupd M (12 + k) 0 (nI e)) (12 + k) 1 (nI p)) (12 + k) 2 (nI r)) (wdB B k e p r) := by
  obtain ⟨hK, ⟨h1, h2, h3, h4⟩, -⟩ := h
  refine ⟨bK_up (bK_up (bK_up hK (by omega) (by omega)) (by omega) (by omega)) (by omega) (by omega), ⟨?_, ?_, fun z hz => ?_, fun j hj ht => ?_⟩, hV⟩
  · rw [gupd_get, if_neg (by omega), gupd_get, if_neg (by omega), gupd_get, if_neg (by omega), wdB_o (by omega)]; exact h1
  · rw [gupd_get, if_neg (by omega), gupd_get, if_neg (by omega), gupd_get, if_neg (by omega), wdB_o (by omega)]; exact h2
  · by_cases c : z = k
    · subst c
      rw [wdB_6, wdB_7, wdB_8]
      refine ⟨?_, ?_, ?_⟩
      · rw [gupd_get, if_neg (by omega), gupd_get, if_neg (by omega), gupd_get, if_pos (by omega)]
      · rw [gupd_get, if_neg (by omega), gupd_get, if_pos (by omega)]
      · rw [gupd_get, if_pos (by omega)]
    · obtain ⟨b1, b2, b3⟩ := h3 z hz
      rw [wdB_o (by omega), wdB_o (by omega), wdB_o (by omega)]
      refine ⟨?_, ?_, ?_⟩ <;> rw [gupd_get, if_neg (by omega), gupd_get, if_neg (by omega), gupd_get, if_neg (by omega)] <;> assumption
  · rw [wdB_o (by omega)] at ht
    rw [wdB_o (by omega), wdB_o (by omega), wdB_o (by omega), wdB_o (by omega), wdB_o (by omega), wdB_o (by omega)]
    obtain ⟨a0, a1, a2, a3, a4, a5⟩ := h4 j hj ht
    refine ⟨?_, ?_, ?_, ?_, ?_, ?_⟩ <;> rw [gupd_get, if_neg (by omega), gupd_get, if_neg (by omega), gupd_get, if_neg (by omega)] <;> assumption
theorem mI_wd {M : gM} {B : gB} (h : mI M B) {k e p r : Nat} (hk : k < 3) (hV : bV (wdB B k e p r)) : mI (gupd (gupd (gupd M 11 (3 * k) (nI e)) 11 (3 * k + 1) (nI p)) 11 (3 * k + 2) (nI r)) (wdB B k e p r) := by
  obtain ⟨h0, ⟨h1, h2, h3, h4⟩, -⟩ := h
  refine ⟨?_, ⟨?_, ?_, fun z hz => ?_, fun j hj ht => ?_⟩, hV⟩
  · rw [gupd_get, if_neg (by omega), gupd_get, if_neg (by omega), gupd_get, if_neg (by omega)]; exact h0
  · rw [gupd_get, if_neg (by omega), gupd_get, if_neg (by omega), gupd_get, if_neg (by omega), wdB_o (by omega)]; exact h1
  · rw [gupd_get, if_neg (by omega), gupd_get, if_neg (by omega), gupd_get, if_neg (by omega), wdB_o (by omega)]; exact h2
  · by_cases c : z = k
    · subst c
      rw [wdB_6, wdB_7, wdB_8]
      refine ⟨?_, ?_, ?_⟩
      · rw [gupd_get, if_neg (by omega), gupd_get, if_neg (by omega), gupd_get, if_pos (by omega)]
      · rw [gupd_get, if_neg (by omega), gupd_get, if_pos (by omega)]
      · rw [gupd_get, if_pos (by omega)]
    · obtain ⟨b1, b2, b3⟩ := h3 z hz
      rw [wdB_o (by omega), wdB_o (by omega), wdB_o (by omega)]
      refine ⟨?_, ?_, ?_⟩ <;> rw [gupd_get, if_neg (by omega), gupd_get, if_neg (by omega), gupd_get, if_neg (by omega)] <;> assumption
  · rw [wdB_o (by omega)] at ht
    rw [wdB_o (by omega), wdB_o (by omega), wdB_o (by omega), wdB_o (by omega), wdB_o (by omega), wdB_o (by omega)]
    obtain ⟨a0, a1, a2, a3, a4, a5⟩ := h4 j hj ht
    refine ⟨?_, ?_, ?_, ?_, ?_, ?_⟩ <;> rw [gupd_get, if_neg (by omega), gupd_get, if_neg (by omega), gupd_get, if_neg (by omega)] <;> assumption
-- the break
theorem sBk_le {B : gB} {a : Nat → Nat} : ∀ n, (sBk B a n).1 ≤ n
  | 0 => Nat.le_refl 0
  | n + 1 => by
    have h := sBk_le (B := B) (a := a) n
    unfold sBk
    split
    · show n + 1 ≤ n + 1; omega
    · omega
theorem cI_br {M : gM} {B : gB} (h : cI M B) {j : Nat} (hV : bV (brB B (j + 1))) : cI (gupd M 9 3 (nI (sTold j))) (brB B (j + 1)) := by
  obtain ⟨hK, ⟨h1, h2, h3, h4⟩, -⟩ := h
  have hu : ∀ a b, a ≠ 9 → brB B (j + 1) a b = B a b := fun a b ha => by unfold brB upB; rw [if_neg (fun z => ha z.1)]
  have h90 : brB B (j + 1) 9 0 = B 9 0 := by unfold brB upB; rw [if_neg (by omega)]
  have h91 : brB B (j + 1) 9 1 = sTold j + 1 := by unfold brB upB; rw [if_pos ⟨rfl, rfl⟩, if_neg (by omega)]; rfl
  refine ⟨bK_up hK (by omega) (by omega), ⟨?_, ?_, fun k hk => ?_, fun i hi ht => ?_⟩, hV⟩
  · rw [gupd_get, if_neg (by omega), h90]; exact h1
  · rw [gupd_get, if_pos (by omega), h91]; unfold bk; rw [if_neg (by omega), Nat.add_sub_cancel]
  · rw [gupd_get, if_neg (by omega), gupd_get, if_neg (by omega), gupd_get, if_neg (by omega), hu 6 k (by omega), hu 7 k (by omega), hu 8 k (by omega)]; exact h3 k hk
  · rw [h90] at ht
    rw [hu 0 i (by omega), hu 1 i (by omega), hu 2 i (by omega), hu 3 i (by omega), hu 4 i (by omega), hu 5 i (by omega)]
    obtain ⟨a0, a1, a2, a3, a4, a5⟩ := h4 i hi ht
    refine ⟨?_, ?_, ?_, ?_, ?_, ?_⟩ <;> rw [gupd_get, if_neg (by omega)] <;> assumption
-- kept, and gone on from
theorem bC_cp {M M1 : gM} {b b2 : Nat} {K : gB} (h : cpI b b2 M M1 3 12) (hK : bC b2 M K) : bC b M1 K := by
  obtain ⟨-, h1, h2, h3, h4, -⟩ := h
  obtain ⟨k1, k2, k3, k4⟩ := hK
  refine ⟨by rw [h1]; exact k1, by rw [h2]; exact k2, fun k hk => ?_, fun j hj ht => ?_⟩
  · rw [h3 k hk 0 (by omega), h3 k hk 1 (by omega), h3 k hk 2 (by omega)]; exact k3 k hk
  · rw [h4 j hj 3 (by omega) (by omega), h4 j hj 4 (by omega) (by omega), h4 j hj 5 (by omega) (by omega), h4 j hj 6 (by omega) (by omega), h4 j hj 8 (by omega) (by omega), h4 j hj 7 (by omega) (by omega)]; exact k4 j hj ht
theorem cT_o {P : Nat → Prop} {M M' : gM} {tl : Nat} {tb : Nat → Nat} (h : cT M tl tb) (hs : sameO P M M') (h1 : ¬ P 1) (h2 : ¬ P 2) : cT M' tl tb := cT_same h hs h1 h2
theorem mP_kp {M M1 : gM} {k : Nat} {B : gB} (hI : mI M B) (h : kpI M M1 k 12 9) : mP (gupd (gupd M1 12 (90 * k + 81) (nI (B 9 0))) 12 (90 * k + 82) (M.1 0 11)) k B := by
  obtain ⟨-, ⟨m1, m2, m3, m4⟩, hV⟩ := hI
  obtain ⟨-, q2, q3, -, -⟩ := h
  refine ⟨by rw [gupd_get, if_neg (by omega), gupd_get, if_pos (by omega)], by rw [gupd_get, if_pos (by omega)]; exact m2, fun z hz => ?_, fun j hj ht r hr => ?_⟩
  · rw [gupd_get, if_neg (by omega), gupd_get, if_neg (by omega), gupd_get, if_neg (by omega), gupd_get, if_neg (by omega), gupd_get, if_neg (by omega), gupd_get, if_neg (by omega), q3 (3 * z) (by omega), q3 (3 * z + 1) (by omega), q3 (3 * z + 2) (by omega)]
    exact m3 z hz
  · rw [gupd_get, if_neg (by omega), gupd_get, if_neg (by omega), q2 r hr j hj]
    obtain ⟨a0, a1, a2, a3, a4, a5⟩ := m4 j hj ht
    rcases (show r = 0 ∨ r = 1 ∨ r = 2 ∨ r = 3 ∨ r = 4 ∨ r = 5 by omega) with rfl | rfl | rfl | rfl | rfl | rfl
    · exact a0
    · exact a1
    · exact a2
    · exact a3
    · exact a4
    · exact a5
theorem gSt_keep {MC MM M1 M2 : gM} {B : gB} {tl : Nat} {tb : Nat → Nat} (hI : cI MC B) (hT : cT MC tl tb) (hI' : mI MM B) (hT' : mT MM tl tb) (hs : ∀ s, s < 2 → gSl MC MM s) {k : Nat} (hk : k < 2) (h1 : cpI (k + 1) 0 MC M1 3 12) (h2 : kpI MM M2 k 12 9) : gSt (gupd M1 (7 + k) 1 1) (gupd (gupd M2 12 (90 * k + 81) (nI (B 9 0))) 12 (90 * k + 82) (MM.1 0 11)) := by
  have hsm := h1.2.2.2.2.2
  have hc : ∀ c, c < 9 ∨ (9 ≤ c ∧ c < 27) ∨ (c < 9 + 18 * (k + 1) ∨ 27 + 18 * (k + 1) ≤ c) → M1.1 c = MC.1 c := fun c _ => hsm c (by omega)
  have hcM : ∀ c, c ≠ 12 → c ≠ 13 → (gupd (gupd M2 12 (90 * k + 81) (nI (B 9 0))) 12 (90 * k + 82) (MM.1 0 11)).1 c = MM.1 c := fun c h12 h13 => by
    funext z; rw [gupd_get, if_neg (by omega), gupd_get, if_neg (by omega), h2.1 c h12 h13]
  refine ⟨B, tl, tb, ⟨bK_up h1.1 (by omega) (by omega), ?_, hI.2.2⟩, ?_, ?_, ?_, fun s hs2 => ?_⟩
  · exact bC_keep (M := MC) hI.2.1 (fun c a b => by funext z; rw [gupd_get, if_neg (by omega), hc c (by omega)])
  · refine cT_up ?_ (by omega)
    exact cT_o hT hsm (by omega) (by omega)
  · obtain ⟨m0, m1, hV⟩ := hI'
    refine ⟨?_, ?_, hV⟩
    · rw [hcM 0 (by omega) (by omega)]; exact m0
    · unfold mC; rw [hcM 0 (by omega) (by omega), hcM 2 (by omega) (by omega), hcM 3 (by omega) (by omega), hcM 4 (by omega) (by omega), hcM 5 (by omega) (by omega), hcM 6 (by omega) (by omega), hcM 7 (by omega) (by omega), hcM 11 (by omega) (by omega)]; exact m1
  · unfold mT; rw [hcM 0 (by omega) (by omega), hcM 1 (by omega) (by omega)]; exact hT'
  · by_cases e : s = k
    · subst e
      refine Or.inr ⟨by rw [gupd_get, if_pos ⟨rfl, rfl⟩]; rfl, ?_, B, ?_, hI.2.2, mP_kp hI' h2⟩
      · rw [gupd_get, if_neg (by omega), gupd_get, if_neg (by omega), h2.2.2.2.2 s, if_pos rfl]; rfl
      · exact bC_keep (bC_cp h1 hI.2.1) (fun c a b => by funext z; rw [gupd_get, if_neg (by omega)])
    · have hsl := hs s hs2
      unfold gSl
      have e1 : (gupd M1 (7 + k) 1 1).1 (7 + s) 1 = MC.1 (7 + s) 1 := by rw [gupd_get, if_neg (by omega), hc (7 + s) (by omega)]
      have e2 : (gupd (gupd M2 12 (90 * k + 81) (nI (B 9 0))) 12 (90 * k + 82) (MM.1 0 11)).1 13 s = MM.1 13 s := by rw [gupd_get, if_neg (by omega), gupd_get, if_neg (by omega), h2.2.2.2.2 s, if_neg e]
      rw [e1, e2]
      rcases hsl with hsl | ⟨a, b, K, c, d, f⟩
      · exact Or.inl hsl
      · refine Or.inr ⟨a, b, K, bC_keep c (fun z h3 h4 => by funext y; rw [gupd_get, if_neg (by omega), hc z (by omega)]), d, ?_⟩
        have e3 : ∀ z, 90 * s ≤ z → z < 90 * s + 83 → (gupd (gupd M2 12 (90 * k + 81) (nI (B 9 0))) 12 (90 * k + 82) (MM.1 0 11)).1 12 z = MM.1 12 z := fun z h3 h4 => by
          rw [gupd_get, if_neg (by omega), gupd_get, if_neg (by omega), h2.2.2.2.1 z (by omega)]
        obtain ⟨f1, f2, f3, f4⟩ := f
        refine ⟨by rw [e3 _ (by omega) (by omega)]; exact f1, by rw [e3 _ (by omega) (by omega)]; exact f2, fun z hz => ?_, fun j hj ht r hr => ?_⟩
        · rw [e3 _ (by omega) (by omega), e3 _ (by omega) (by omega), e3 _ (by omega) (by omega)]; exact f3 z hz
        · rw [e3 _ (by omega) (by omega)]; exact f4 j hj ht r hr
theorem mI_ag {M M1 : gM} {k : Nat} {B K : gB} (hI : mI M B) (hV : bV K) (hp : mP M k K) (h : agI M M1 k 12 9) : mI (gupd (gupd M1 0 4 (M.1 12 (90 * k + 81))) 0 11 (M.1 12 (90 * k + 82))) K := by
  obtain ⟨h1, h2, h3⟩ := h
  obtain ⟨p1, p2, p3, p4⟩ := hp
  refine ⟨?_, ⟨?_, ?_, fun z hz => ?_, fun j hj ht => ?_⟩, hV⟩
  · rw [gupd_get, if_neg (by omega), gupd_get, if_neg (by omega), h1 0 (by omega) (by omega)]; exact hI.1
  · rw [gupd_get, if_neg (by omega), gupd_get, if_pos (by omega)]; exact p1
  · rw [gupd_get, if_pos (by omega)]; exact p2
  · rw [gupd_get, if_neg (by omega), gupd_get, if_neg (by omega), gupd_get, if_neg (by omega), gupd_get, if_neg (by omega), gupd_get, if_neg (by omega), gupd_get, if_neg (by omega), h3 (3 * z) (by omega), h3 (3 * z + 1) (by omega), h3 (3 * z + 2) (by omega)]
    exact p3 z hz
  · have hq : ∀ r, r < 6 → (gupd (gupd M1 0 4 (M.1 12 (90 * k + 81))) 0 11 (M.1 12 (90 * k + 82))).1 (2 + r) j = nI (K r j) := fun r hr => by
      rw [gupd_get, if_neg (by omega), gupd_get, if_neg (by omega), h2 r hr j hj]; exact p4 j hj ht r hr
    exact ⟨hq 0 (by omega), hq 1 (by omega), hq 2 (by omega), hq 3 (by omega), hq 4 (by omega), hq 5 (by omega)⟩
theorem gSt_again {MC MM M1 M2 : gM} {B K : gB} {tl : Nat} {tb : Nat → Nat} (hI : cI MC B) (hT : cT MC tl tb) (hI' : mI MM B) (hT' : mT MM tl tb) (hs : ∀ s, s < 2 → gSl MC MM s) {k : Nat} (hk : k < 2) (hB : bC (k + 1) MC K) (hV : bV K) (hp : mP MM k K) (h1 : cpI 0 (k + 1) MC M1 3 12) (h2 : agI MM M2 k 12 9) : gSt M1 (gupd (gupd M2 0 4 (MM.1 12 (90 * k + 81))) 0 11 (MM.1 12 (90 * k + 82))) := by
  have hsm := h1.2.2.2.2.2
  refine gSt_to hs ⟨h1.1, bC_cp h1 hB, hV⟩ (cT_o hT hsm (by omega) (by omega)) (mI_ag hI' hV hp h2) ?_ (cK_o hsm (by omega)) ?_
  · refine mT_up (mT_up ?_ (by omega)) (by omega)
    unfold mT; rw [h2.1 0 (by omega) (by omega), h2.1 1 (by omega) (by omega)]; exact hT'
  · exact mK_tr ⟨h2.1 12 (by omega) (by omega), h2.1 13 (by omega) (by omega)⟩ (mK_tr (mK_up (by omega)) (mK_up (by omega)))
theorem firstNot (P : Nat → Prop) : ∀ n, ∃ K, K ≤ n ∧ (∀ i, i < K → P i) ∧ (K < n → ¬ P K)
  | 0 => ⟨0, Nat.le_refl 0, fun i h => absurd h (Nat.not_lt_zero i), fun h => absurd h (Nat.lt_irrefl 0)⟩
  | n + 1 => by
    obtain ⟨K, h1, h2, h3⟩ := firstNot P n
    by_cases e : K < n
    · exact ⟨K, by omega, h2, fun _ => h3 e⟩
    · have e2 : K = n := by omega
      subst e2
      by_cases c : P K
      · exact ⟨K + 1, by omega, fun i hi => by
          by_cases e3 : i = K
          · rw [e3]; exact c
          · exact h2 i (by omega), fun h => absurd h (Nat.lt_irrefl _)⟩
      · exact ⟨K, by omega, h2, fun _ => c⟩
theorem slashes (tl : Nat) (tb : Nat → Nat) : (∀ n, 1 ≤ n → n ≤ 6 → ¬ (4 * n < tl ∧ tb (4 * n) = 47)) ∨ ∃ sl, 1 ≤ sl ∧ sl ≤ 6 ∧ (4 * sl < tl ∧ tb (4 * sl) = 47) ∧ ∀ n, 1 ≤ n → n < sl → ¬ (4 * n < tl ∧ tb (4 * n) = 47) := by
  obtain ⟨K, h1, h2, h3⟩ := firstNot (fun i => ¬ (4 * (i + 1) < tl ∧ tb (4 * (i + 1)) = 47)) 6
  by_cases e : K < 6
  · refine Or.inr ⟨K + 1, by omega, by omega, Classical.not_not.mp (h3 e), fun n h0 hn => ?_⟩
    have h := h2 (n - 1) (by omega)
    have e2 : n - 1 + 1 = n := by omega
    rw [e2] at h; exact h
  · refine Or.inl (fun n h0 hn => ?_)
    have h := h2 (n - 1) (by omega)
    have e2 : n - 1 + 1 = n := by omega
    rw [e2] at h; exact h
theorem sfit_0 {tb : Nat → Nat} {i : Nat} : sfit tb 0 i ↔ i < 24 ∧ ffit (i % 4) (tb (i - 1)) (tb i) := by
  unfold sfit
  constructor
  · intro h
    rcases h with h | h
    · exact h.2
    · exact absurd h.1 (Nat.lt_irrefl 0)
  · intro h; exact Or.inl ⟨Or.inl rfl, h⟩
theorem ginl_ex {x : Int32} {n : Nat} (h : ginl x n) : ∃ i : Nat, i < n ∧ x = nI i := by
  obtain ⟨h1, h2⟩ := h
  obtain ⟨k, -, hk, e⟩ := gin_ex (x := x) (a := 0) (b := n - 1) ⟨h1, by omega⟩
  exact ⟨k, by omega, e⟩