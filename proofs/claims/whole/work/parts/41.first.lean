/-! THE TWO WORLDS at first -/
def piC (i : Nat) : Nat := if i < 3 then i else if i = 3 then 21 else if i = 4 then 22 else if i = 5 then 23 else if i = 6 then 24 else if i = 7 then 25 else if i = 8 then 44 else (if (i - 9) / 18 = 0 then 3 else if (i - 9) / 18 = 1 then 26 else 45) + (if (i - 9) % 18 < 2 then (i - 9) % 18 else if (i - 9) % 18 = 2 then 5 else if (i - 9) % 18 < 6 then (i - 9) % 18 - 1 else (i - 9) % 18)
abbrev qC0 (D : va_G) (cy : Nat → ClassId) (base : Nat) : gQ3 := (D, cy, fun i => base + piC i)
abbrev qM0 (D : va_G) (cy : Nat → ClassId) (base : Nat) : gQ3 := (D, cy, fun i => base + 63 + i)
def rC0 (i : Nat) : Nat → Int32 := if i = 3 then (fun k => if k = 3 then -9 else 0) else if i < 9 then fun _ => 0 else if (i - 9) % 18 = 0 then (fun k => if k = 2 then 1 else if k = 3 then -9 else 0) else if (i - 9) % 18 < 3 then fun _ => 0 else if (i - 9) % 18 = 3 then (fun k => if k = 0 then 5 else if k = 1 then 60 else 40) else if (i - 9) % 18 = 4 then (fun k => if k = 0 then 7 else if k = 1 then 80 else 50) else if (i - 9) % 18 = 5 then (fun k => if k = 0 then 3 else if k = 1 then 40 else 20) else fun k => if k = 0 then nI (((i - 9) % 18 - 6) / 6) else if k = 1 then nI (((i - 9) % 18 - 6) % 6 + 1) else if k = 2 then nI (10 * (((i - 9) % 18 - 6) / 6) + ((i - 9) % 18 - 6) % 6) else if k = 3 then 5 else if k = 4 then 20 else 0
def rM0 (i : Nat) : Nat → Int32 := if i = 0 then (fun k => if k = 4 then 1 else if k = 11 then -9 else 0) else if i = 2 then upd (upd (fun _ => 0) 0 5) 6 5 else if i = 3 then upd (upd (fun _ => 0) 0 20) 6 20 else if i = 11 then upd (upd (upd (upd (upd (upd (upd (upd (upd (fun _ => 0) 0 5) 1 60) 2 40) 3 7) 4 80) 5 50) 6 3) 7 40) 8 20 else fun _ => 0
abbrev MC0 : gM := (rC0, fun _ _ => 0)
abbrev MM0 : gM := (rM0, fun _ _ => 0)
def B0 : gB := fun r j => if r = 0 then 5 else if r = 1 then 20 else if r = 6 then (if j = 0 then 5 else if j = 1 then 7 else 3) else if r = 7 then (if j = 0 then 60 else if j = 1 then 80 else 40) else if r = 8 then (if j = 0 then 40 else if j = 1 then 50 else 20) else if r = 9 then (if j = 0 then 1 else 0) else 0
theorem B0_V : bV B0 := by unfold bV; decide +kernel
theorem C0_K : bK MC0 := by unfold bK; decide +kernel
theorem C0_C : bC 0 MC0 B0 := by unfold bC; decide +kernel
theorem M0_C : mC MM0 B0 := by unfold mC; decide +kernel
theorem gSt_0 : gSt MC0 MM0 := ⟨B0, 0, fun _ => 0, ⟨C0_K, C0_C, B0_V⟩, ⟨by decide +kernel, by omega, fun i h => absurd h (Nat.not_lt_zero i)⟩, ⟨by decide +kernel, M0_C, B0_V⟩, ⟨by decide +kernel, by omega, fun i h => absurd h (Nat.not_lt_zero i)⟩, fun s hs => Or.inl (by rcases (show s = 0 ∨ s = 1 by omega) with rfl | rfl <;> exact ⟨by decide +kernel, by decide +kernel⟩)⟩
theorem arrV_cg {cA : ClassId} {n : Nat} {f g : Nat → Value} (h : ∀ k, k < n → f k = g k) : arrV cA n f = arrV cA n g := by
  unfold arrV
  congr 2
  funext k
  exact h k.val k.isLt
theorem kq_at {D : va_G} {a n : Nat} {cA : ClassId} {f g : Nat → Option Nat} {H : Heap} (h : va_at D vwCl (a, .inl (cA, n, .inr (.inr (.inr (.inr f))))) H) (e : ∀ k, k < n → f k = g k) : va_at D vwCl (a, .inl (cA, n, .inr (.inr (.inr (.inr g))))) H := by
  have h1 : H[a]? = some (vp_cell cA (n, .inr (.inr (.inr (.inr f))))) := h
  show H[a]? = some (vp_cell cA (n, .inr (.inr (.inr (.inr g)))))
  rw [h1, vp_cell_q, vp_cell_q]
  congr 1
  exact arrV_cg (fun k hk => by rw [e k hk])
theorem piC_inj : ∀ i, i < 63 → ∀ j, j < 63 → piC i = piC j → i = j := by decide +kernel
theorem piC_lt : ∀ i, i < 63 → piC i < 63 := by decide +kernel
theorem gI_C (D : va_G) (cy : Nat → ClassId) (base : Nat) : gI (wC (qC0 D cy base)) := fun i j hi hj h => piC_inj i hi j hj (Nat.add_left_cancel h)
theorem gI_M (D : va_G) (cy : Nat → ClassId) (base : Nat) : gI (wM (qM0 D cy base)) := fun i j _ _ h => Nat.add_left_cancel h
set_option maxRecDepth 100000 in
set_option maxHeartbeats 4000000 in
theorem pC_0 {D : va_G} {cy : Nat → ClassId} {base : Nat} {l2 : List va_E} {H : Heap} (hP : va_P D vwCl (kw base (bbL cy base ++ l2)) H) : va_at D vwCl (base + piC 0, cC (qC0 D cy base) (MC0.1 0) (MC0.2 0) 0) H := by
  exact hP 0 (base + piC 0, cC (qC0 D cy base) (MC0.1 0) (MC0.2 0) 0) (kw_get rfl)
set_option maxRecDepth 100000 in
set_option maxHeartbeats 4000000 in
theorem pC_1 {D : va_G} {cy : Nat → ClassId} {base : Nat} {l2 : List va_E} {H : Heap} (hP : va_P D vwCl (kw base (bbL cy base ++ l2)) H) : va_at D vwCl (base + piC 1, cC (qC0 D cy base) (MC0.1 1) (MC0.2 1) 1) H := by
  exact hP 1 (base + piC 1, cC (qC0 D cy base) (MC0.1 1) (MC0.2 1) 1) (kw_get rfl)
set_option maxRecDepth 100000 in
set_option maxHeartbeats 4000000 in
theorem pC_2 {D : va_G} {cy : Nat → ClassId} {base : Nat} {l2 : List va_E} {H : Heap} (hP : va_P D vwCl (kw base (bbL cy base ++ l2)) H) : va_at D vwCl (base + piC 2, cC (qC0 D cy base) (MC0.1 2) (MC0.2 2) 2) H := by
  exact hP 2 (base + piC 2, cC (qC0 D cy base) (MC0.1 2) (MC0.2 2) 2) (kw_get rfl)
set_option maxRecDepth 100000 in
set_option maxHeartbeats 4000000 in
theorem pC_3 {D : va_G} {cy : Nat → ClassId} {base : Nat} {l2 : List va_E} {H : Heap} (hP : va_P D vwCl (kw base (bbL cy base ++ l2)) H) : va_at D vwCl (base + piC 3, cC (qC0 D cy base) (MC0.1 3) (MC0.2 3) 3) H := by
  exact hP 21 (base + piC 3, cC (qC0 D cy base) (MC0.1 3) (MC0.2 3) 3) (kw_get rfl)
set_option maxRecDepth 100000 in
set_option maxHeartbeats 4000000 in
theorem pC_4 {D : va_G} {cy : Nat → ClassId} {base : Nat} {l2 : List va_E} {H : Heap} (hP : va_P D vwCl (kw base (bbL cy base ++ l2)) H) : va_at D vwCl (base + piC 4, cC (qC0 D cy base) (MC0.1 4) (MC0.2 4) 4) H := by
  exact hP 22 (base + piC 4, cC (qC0 D cy base) (MC0.1 4) (MC0.2 4) 4) (kw_get rfl)
set_option maxRecDepth 100000 in
set_option maxHeartbeats 4000000 in
theorem pC_5 {D : va_G} {cy : Nat → ClassId} {base : Nat} {l2 : List va_E} {H : Heap} (hP : va_P D vwCl (kw base (bbL cy base ++ l2)) H) : va_at D vwCl (base + piC 5, cC (qC0 D cy base) (MC0.1 5) (MC0.2 5) 5) H := by
  exact hP 23 (base + piC 5, cC (qC0 D cy base) (MC0.1 5) (MC0.2 5) 5) (kw_get rfl)
set_option maxRecDepth 100000 in
set_option maxHeartbeats 4000000 in
theorem pC_6 {D : va_G} {cy : Nat → ClassId} {base : Nat} {l2 : List va_E} {H : Heap} (hP : va_P D vwCl (kw base (bbL cy base ++ l2)) H) : va_at D vwCl (base + piC 6, cC (qC0 D cy base) (MC0.1 6) (MC0.2 6) 6) H := by
  refine kq_at (hP 24 _ (kw_get rfl)) (fun k hk => ?_)
  rcases (show k = 0 ∨ k = 1 by omega) with rfl | rfl <;> rfl
set_option maxRecDepth 100000 in
set_option maxHeartbeats 4000000 in
theorem pC_7 {D : va_G} {cy : Nat → ClassId} {base : Nat} {l2 : List va_E} {H : Heap} (hP : va_P D vwCl (kw base (bbL cy base ++ l2)) H) : va_at D vwCl (base + piC 7, cC (qC0 D cy base) (MC0.1 7) (MC0.2 7) 7) H := by
  exact hP 25 (base + piC 7, cC (qC0 D cy base) (MC0.1 7) (MC0.2 7) 7) (kw_get rfl)
set_option maxRecDepth 100000 in
set_option maxHeartbeats 4000000 in
theorem pC_8 {D : va_G} {cy : Nat → ClassId} {base : Nat} {l2 : List va_E} {H : Heap} (hP : va_P D vwCl (kw base (bbL cy base ++ l2)) H) : va_at D vwCl (base + piC 8, cC (qC0 D cy base) (MC0.1 8) (MC0.2 8) 8) H := by
  exact hP 44 (base + piC 8, cC (qC0 D cy base) (MC0.1 8) (MC0.2 8) 8) (kw_get rfl)
set_option maxRecDepth 100000 in
set_option maxHeartbeats 4000000 in
theorem pC_9 {D : va_G} {cy : Nat → ClassId} {base : Nat} {l2 : List va_E} {H : Heap} (hP : va_P D vwCl (kw base (bbL cy base ++ l2)) H) : va_at D vwCl (base + piC 9, cC (qC0 D cy base) (MC0.1 9) (MC0.2 9) 9) H := by
  exact hP 3 (base + piC 9, cC (qC0 D cy base) (MC0.1 9) (MC0.2 9) 9) (kw_get rfl)
set_option maxRecDepth 100000 in
set_option maxHeartbeats 4000000 in
theorem pC_10 {D : va_G} {cy : Nat → ClassId} {base : Nat} {l2 : List va_E} {H : Heap} (hP : va_P D vwCl (kw base (bbL cy base ++ l2)) H) : va_at D vwCl (base + piC 10, cC (qC0 D cy base) (MC0.1 10) (MC0.2 10) 10) H := by
  refine kq_at (hP 4 _ (kw_get rfl)) (fun k hk => ?_)
  rcases (show k = 0 ∨ k = 1 ∨ k = 2 by omega) with rfl | rfl | rfl <;> rfl
set_option maxRecDepth 100000 in
set_option maxHeartbeats 4000000 in
theorem pC_11 {D : va_G} {cy : Nat → ClassId} {base : Nat} {l2 : List va_E} {H : Heap} (hP : va_P D vwCl (kw base (bbL cy base ++ l2)) H) : va_at D vwCl (base + piC 11, cC (qC0 D cy base) (MC0.1 11) (MC0.2 11) 11) H := by
  refine kq_at (hP 8 _ (kw_get rfl)) (fun k hk => ?_)
  rcases (show k = 0 ∨ k = 1 ∨ k = 2 ∨ k = 3 ∨ k = 4 ∨ k = 5 ∨ k = 6 ∨ k = 7 ∨ k = 8 ∨ k = 9 ∨ k = 10 ∨ k = 11 by omega) with rfl | rfl | rfl | rfl | rfl | rfl | rfl | rfl | rfl | rfl | rfl | rfl <;> rfl
set_option maxRecDepth 100000 in
set_option maxHeartbeats 4000000 in
theorem pC_12 {D : va_G} {cy : Nat → ClassId} {base : Nat} {l2 : List va_E} {H : Heap} (hP : va_P D vwCl (kw base (bbL cy base ++ l2)) H) : va_at D vwCl (base + piC 12, cC (qC0 D cy base) (MC0.1 12) (MC0.2 12) 12) H := by
  exact hP 5 (base + piC 12, cC (qC0 D cy base) (MC0.1 12) (MC0.2 12) 12) (kw_get rfl)
set_option maxRecDepth 100000 in
set_option maxHeartbeats 4000000 in
theorem pC_13 {D : va_G} {cy : Nat → ClassId} {base : Nat} {l2 : List va_E} {H : Heap} (hP : va_P D vwCl (kw base (bbL cy base ++ l2)) H) : va_at D vwCl (base + piC 13, cC (qC0 D cy base) (MC0.1 13) (MC0.2 13) 13) H := by
  exact hP 6 (base + piC 13, cC (qC0 D cy base) (MC0.1 13) (MC0.2 13) 13) (kw_get rfl)
set_option maxRecDepth 100000 in
set_option maxHeartbeats 4000000 in
theorem pC_14 {D : va_G} {cy : Nat → ClassId} {base : Nat} {l2 : List va_E} {H : Heap} (hP : va_P D vwCl (kw base (bbL cy base ++ l2)) H) : va_at D vwCl (base + piC 14, cC (qC0 D cy base) (MC0.1 14) (MC0.2 14) 14) H := by
  exact hP 7 (base + piC 14, cC (qC0 D cy base) (MC0.1 14) (MC0.2 14) 14) (kw_get rfl)
set_option maxRecDepth 100000 in
set_option maxHeartbeats 4000000 in
theorem pC_15 {D : va_G} {cy : Nat → ClassId} {base : Nat} {l2 : List va_E} {H : Heap} (hP : va_P D vwCl (kw base (bbL cy base ++ l2)) H) : va_at D vwCl (base + piC 15, cC (qC0 D cy base) (MC0.1 15) (MC0.2 15) 15) H := by
  exact hP 9 (base + piC 15, cC (qC0 D cy base) (MC0.1 15) (MC0.2 15) 15) (kw_get rfl)
set_option maxRecDepth 100000 in
set_option maxHeartbeats 4000000 in
theorem pC_16 {D : va_G} {cy : Nat → ClassId} {base : Nat} {l2 : List va_E} {H : Heap} (hP : va_P D vwCl (kw base (bbL cy base ++ l2)) H) : va_at D vwCl (base + piC 16, cC (qC0 D cy base) (MC0.1 16) (MC0.2 16) 16) H := by
  exact hP 10 (base + piC 16, cC (qC0 D cy base) (MC0.1 16) (MC0.2 16) 16) (kw_get rfl)
set_option maxRecDepth 100000 in
set_option maxHeartbeats 4000000 in
theorem pC_17 {D : va_G} {cy : Nat → ClassId} {base : Nat} {l2 : List va_E} {H : Heap} (hP : va_P D vwCl (kw base (bbL cy base ++ l2)) H) : va_at D vwCl (base + piC 17, cC (qC0 D cy base) (MC0.1 17) (MC0.2 17) 17) H := by
  exact hP 11 (base + piC 17, cC (qC0 D cy base) (MC0.1 17) (MC0.2 17) 17) (kw_get rfl)
set_option maxRecDepth 100000 in
set_option maxHeartbeats 4000000 in
theorem pC_18 {D : va_G} {cy : Nat → ClassId} {base : Nat} {l2 : List va_E} {H : Heap} (hP : va_P D vwCl (kw base (bbL cy base ++ l2)) H) : va_at D vwCl (base + piC 18, cC (qC0 D cy base) (MC0.1 18) (MC0.2 18) 18) H := by
  exact hP 12 (base + piC 18, cC (qC0 D cy base) (MC0.1 18) (MC0.2 18) 18) (kw_get rfl)
set_option maxRecDepth 100000 in
set_option maxHeartbeats 4000000 in
theorem pC_19 {D : va_G} {cy : Nat → ClassId} {base : Nat} {l2 : List va_E} {H : Heap} (hP : va_P D vwCl (kw base (bbL cy base ++ l2)) H) : va_at D vwCl (base + piC 19, cC (qC0 D cy base) (MC0.1 19) (MC0.2 19) 19) H := by
  exact hP 13 (base + piC 19, cC (qC0 D cy base) (MC0.1 19) (MC0.2 19) 19) (kw_get rfl)
set_option maxRecDepth 100000 in
set_option maxHeartbeats 4000000 in
theorem pC_20 {D : va_G} {cy : Nat → ClassId} {base : Nat} {l2 : List va_E} {H : Heap} (hP : va_P D vwCl (kw base (bbL cy base ++ l2)) H) : va_at D vwCl (base + piC 20, cC (qC0 D cy base) (MC0.1 20) (MC0.2 20) 20) H := by
  exact hP 14 (base + piC 20, cC (qC0 D cy base) (MC0.1 20) (MC0.2 20) 20) (kw_get rfl)
set_option maxRecDepth 100000 in
set_option maxHeartbeats 4000000 in
theorem pC_21 {D : va_G} {cy : Nat → ClassId} {base : Nat} {l2 : List va_E} {H : Heap} (hP : va_P D vwCl (kw base (bbL cy base ++ l2)) H) : va_at D vwCl (base + piC 21, cC (qC0 D cy base) (MC0.1 21) (MC0.2 21) 21) H := by
  exact hP 15 (base + piC 21, cC (qC0 D cy base) (MC0.1 21) (MC0.2 21) 21) (kw_get rfl)
set_option maxRecDepth 100000 in
set_option maxHeartbeats 4000000 in
theorem pC_22 {D : va_G} {cy : Nat → ClassId} {base : Nat} {l2 : List va_E} {H : Heap} (hP : va_P D vwCl (kw base (bbL cy base ++ l2)) H) : va_at D vwCl (base + piC 22, cC (qC0 D cy base) (MC0.1 22) (MC0.2 22) 22) H := by
  exact hP 16 (base + piC 22, cC (qC0 D cy base) (MC0.1 22) (MC0.2 22) 22) (kw_get rfl)
set_option maxRecDepth 100000 in
set_option maxHeartbeats 4000000 in
theorem pC_23 {D : va_G} {cy : Nat → ClassId} {base : Nat} {l2 : List va_E} {H : Heap} (hP : va_P D vwCl (kw base (bbL cy base ++ l2)) H) : va_at D vwCl (base + piC 23, cC (qC0 D cy base) (MC0.1 23) (MC0.2 23) 23) H := by
  exact hP 17 (base + piC 23, cC (qC0 D cy base) (MC0.1 23) (MC0.2 23) 23) (kw_get rfl)
set_option maxRecDepth 100000 in
set_option maxHeartbeats 4000000 in
theorem pC_24 {D : va_G} {cy : Nat → ClassId} {base : Nat} {l2 : List va_E} {H : Heap} (hP : va_P D vwCl (kw base (bbL cy base ++ l2)) H) : va_at D vwCl (base + piC 24, cC (qC0 D cy base) (MC0.1 24) (MC0.2 24) 24) H := by
  exact hP 18 (base + piC 24, cC (qC0 D cy base) (MC0.1 24) (MC0.2 24) 24) (kw_get rfl)
set_option maxRecDepth 100000 in
set_option maxHeartbeats 4000000 in
theorem pC_25 {D : va_G} {cy : Nat → ClassId} {base : Nat} {l2 : List va_E} {H : Heap} (hP : va_P D vwCl (kw base (bbL cy base ++ l2)) H) : va_at D vwCl (base + piC 25, cC (qC0 D cy base) (MC0.1 25) (MC0.2 25) 25) H := by
  exact hP 19 (base + piC 25, cC (qC0 D cy base) (MC0.1 25) (MC0.2 25) 25) (kw_get rfl)
set_option maxRecDepth 100000 in
set_option maxHeartbeats 4000000 in
theorem pC_26 {D : va_G} {cy : Nat → ClassId} {base : Nat} {l2 : List va_E} {H : Heap} (hP : va_P D vwCl (kw base (bbL cy base ++ l2)) H) : va_at D vwCl (base + piC 26, cC (qC0 D cy base) (MC0.1 26) (MC0.2 26) 26) H := by
  exact hP 20 (base + piC 26, cC (qC0 D cy base) (MC0.1 26) (MC0.2 26) 26) (kw_get rfl)
set_option maxRecDepth 100000 in
set_option maxHeartbeats 4000000 in
theorem pC_27 {D : va_G} {cy : Nat → ClassId} {base : Nat} {l2 : List va_E} {H : Heap} (hP : va_P D vwCl (kw base (bbL cy base ++ l2)) H) : va_at D vwCl (base + piC 27, cC (qC0 D cy base) (MC0.1 27) (MC0.2 27) 27) H := by
  exact hP 26 (base + piC 27, cC (qC0 D cy base) (MC0.1 27) (MC0.2 27) 27) (kw_get rfl)
set_option maxRecDepth 100000 in
set_option maxHeartbeats 4000000 in
theorem pC_28 {D : va_G} {cy : Nat → ClassId} {base : Nat} {l2 : List va_E} {H : Heap} (hP : va_P D vwCl (kw base (bbL cy base ++ l2)) H) : va_at D vwCl (base + piC 28, cC (qC0 D cy base) (MC0.1 28) (MC0.2 28) 28) H := by
  refine kq_at (hP 27 _ (kw_get rfl)) (fun k hk => ?_)
  rcases (show k = 0 ∨ k = 1 ∨ k = 2 by omega) with rfl | rfl | rfl <;> rfl
set_option maxRecDepth 100000 in
set_option maxHeartbeats 4000000 in
theorem pC_29 {D : va_G} {cy : Nat → ClassId} {base : Nat} {l2 : List va_E} {H : Heap} (hP : va_P D vwCl (kw base (bbL cy base ++ l2)) H) : va_at D vwCl (base + piC 29, cC (qC0 D cy base) (MC0.1 29) (MC0.2 29) 29) H := by
  refine kq_at (hP 31 _ (kw_get rfl)) (fun k hk => ?_)
  rcases (show k = 0 ∨ k = 1 ∨ k = 2 ∨ k = 3 ∨ k = 4 ∨ k = 5 ∨ k = 6 ∨ k = 7 ∨ k = 8 ∨ k = 9 ∨ k = 10 ∨ k = 11 by omega) with rfl | rfl | rfl | rfl | rfl | rfl | rfl | rfl | rfl | rfl | rfl | rfl <;> rfl
set_option maxRecDepth 100000 in
set_option maxHeartbeats 4000000 in
theorem pC_30 {D : va_G} {cy : Nat → ClassId} {base : Nat} {l2 : List va_E} {H : Heap} (hP : va_P D vwCl (kw base (bbL cy base ++ l2)) H) : va_at D vwCl (base + piC 30, cC (qC0 D cy base) (MC0.1 30) (MC0.2 30) 30) H := by
  exact hP 28 (base + piC 30, cC (qC0 D cy base) (MC0.1 30) (MC0.2 30) 30) (kw_get rfl)
set_option maxRecDepth 100000 in
set_option maxHeartbeats 4000000 in
theorem pC_31 {D : va_G} {cy : Nat → ClassId} {base : Nat} {l2 : List va_E} {H : Heap} (hP : va_P D vwCl (kw base (bbL cy base ++ l2)) H) : va_at D vwCl (base + piC 31, cC (qC0 D cy base) (MC0.1 31) (MC0.2 31) 31) H := by
  exact hP 29 (base + piC 31, cC (qC0 D cy base) (MC0.1 31) (MC0.2 31) 31) (kw_get rfl)
set_option maxRecDepth 100000 in
set_option maxHeartbeats 4000000 in
theorem pC_32 {D : va_G} {cy : Nat → ClassId} {base : Nat} {l2 : List va_E} {H : Heap} (hP : va_P D vwCl (kw base (bbL cy base ++ l2)) H) : va_at D vwCl (base + piC 32, cC (qC0 D cy base) (MC0.1 32) (MC0.2 32) 32) H := by
  exact hP 30 (base + piC 32, cC (qC0 D cy base) (MC0.1 32) (MC0.2 32) 32) (kw_get rfl)
set_option maxRecDepth 100000 in
set_option maxHeartbeats 4000000 in
theorem pC_33 {D : va_G} {cy : Nat → ClassId} {base : Nat} {l2 : List va_E} {H : Heap} (hP : va_P D vwCl (kw base (bbL cy base ++ l2)) H) : va_at D vwCl (base + piC 33, cC (qC0 D cy base) (MC0.1 33) (MC0.2 33) 33) H := by
  exact hP 32 (base + piC 33, cC (qC0 D cy base) (MC0.1 33) (MC0.2 33) 33) (kw_get rfl)
set_option maxRecDepth 100000 in
set_option maxHeartbeats 4000000 in
theorem pC_34 {D : va_G} {cy : Nat → ClassId} {base : Nat} {l2 : List va_E} {H : Heap} (hP : va_P D vwCl (kw base (bbL cy base ++ l2)) H) : va_at D vwCl (base + piC 34, cC (qC0 D cy base) (MC0.1 34) (MC0.2 34) 34) H := by
  exact hP 33 (base + piC 34, cC (qC0 D cy base) (MC0.1 34) (MC0.2 34) 34) (kw_get rfl)
set_option maxRecDepth 100000 in
set_option maxHeartbeats 4000000 in
theorem pC_35 {D : va_G} {cy : Nat → ClassId} {base : Nat} {l2 : List va_E} {H : Heap} (hP : va_P D vwCl (kw base (bbL cy base ++ l2)) H) : va_at D vwCl (base + piC 35, cC (qC0 D cy base) (MC0.1 35) (MC0.2 35) 35) H := by
  exact hP 34 (base + piC 35, cC (qC0 D cy base) (MC0.1 35) (MC0.2 35) 35) (kw_get rfl)
set_option maxRecDepth 100000 in
set_option maxHeartbeats 4000000 in
theorem pC_36 {D : va_G} {cy : Nat → ClassId} {base : Nat} {l2 : List va_E} {H : Heap} (hP : va_P D vwCl (kw base (bbL cy base ++ l2)) H) : va_at D vwCl (base + piC 36, cC (qC0 D cy base) (MC0.1 36) (MC0.2 36) 36) H := by
  exact hP 35 (base + piC 36, cC (qC0 D cy base) (MC0.1 36) (MC0.2 36) 36) (kw_get rfl)
set_option maxRecDepth 100000 in
set_option maxHeartbeats 4000000 in
theorem pC_37 {D : va_G} {cy : Nat → ClassId} {base : Nat} {l2 : List va_E} {H : Heap} (hP : va_P D vwCl (kw base (bbL cy base ++ l2)) H) : va_at D vwCl (base + piC 37, cC (qC0 D cy base) (MC0.1 37) (MC0.2 37) 37) H := by
  exact hP 36 (base + piC 37, cC (qC0 D cy base) (MC0.1 37) (MC0.2 37) 37) (kw_get rfl)
set_option maxRecDepth 100000 in
set_option maxHeartbeats 4000000 in
theorem pC_38 {D : va_G} {cy : Nat → ClassId} {base : Nat} {l2 : List va_E} {H : Heap} (hP : va_P D vwCl (kw base (bbL cy base ++ l2)) H) : va_at D vwCl (base + piC 38, cC (qC0 D cy base) (MC0.1 38) (MC0.2 38) 38) H := by
  exact hP 37 (base + piC 38, cC (qC0 D cy base) (MC0.1 38) (MC0.2 38) 38) (kw_get rfl)
set_option maxRecDepth 100000 in
set_option maxHeartbeats 4000000 in
theorem pC_39 {D : va_G} {cy : Nat → ClassId} {base : Nat} {l2 : List va_E} {H : Heap} (hP : va_P D vwCl (kw base (bbL cy base ++ l2)) H) : va_at D vwCl (base + piC 39, cC (qC0 D cy base) (MC0.1 39) (MC0.2 39) 39) H := by
  exact hP 38 (base + piC 39, cC (qC0 D cy base) (MC0.1 39) (MC0.2 39) 39) (kw_get rfl)
set_option maxRecDepth 100000 in
set_option maxHeartbeats 4000000 in
theorem pC_40 {D : va_G} {cy : Nat → ClassId} {base : Nat} {l2 : List va_E} {H : Heap} (hP : va_P D vwCl (kw base (bbL cy base ++ l2)) H) : va_at D vwCl (base + piC 40, cC (qC0 D cy base) (MC0.1 40) (MC0.2 40) 40) H := by
  exact hP 39 (base + piC 40, cC (qC0 D cy base) (MC0.1 40) (MC0.2 40) 40) (kw_get rfl)
set_option maxRecDepth 100000 in
set_option maxHeartbeats 4000000 in
theorem pC_41 {D : va_G} {cy : Nat → ClassId} {base : Nat} {l2 : List va_E} {H : Heap} (hP : va_P D vwCl (kw base (bbL cy base ++ l2)) H) : va_at D vwCl (base + piC 41, cC (qC0 D cy base) (MC0.1 41) (MC0.2 41) 41) H := by
  exact hP 40 (base + piC 41, cC (qC0 D cy base) (MC0.1 41) (MC0.2 41) 41) (kw_get rfl)
set_option maxRecDepth 100000 in
set_option maxHeartbeats 4000000 in
theorem pC_42 {D : va_G} {cy : Nat → ClassId} {base : Nat} {l2 : List va_E} {H : Heap} (hP : va_P D vwCl (kw base (bbL cy base ++ l2)) H) : va_at D vwCl (base + piC 42, cC (qC0 D cy base) (MC0.1 42) (MC0.2 42) 42) H := by
  exact hP 41 (base + piC 42, cC (qC0 D cy base) (MC0.1 42) (MC0.2 42) 42) (kw_get rfl)
set_option maxRecDepth 100000 in
set_option maxHeartbeats 4000000 in
theorem pC_43 {D : va_G} {cy : Nat → ClassId} {base : Nat} {l2 : List va_E} {H : Heap} (hP : va_P D vwCl (kw base (bbL cy base ++ l2)) H) : va_at D vwCl (base + piC 43, cC (qC0 D cy base) (MC0.1 43) (MC0.2 43) 43) H := by
  exact hP 42 (base + piC 43, cC (qC0 D cy base) (MC0.1 43) (MC0.2 43) 43) (kw_get rfl)
set_option maxRecDepth 100000 in
set_option maxHeartbeats 4000000 in
theorem pC_44 {D : va_G} {cy : Nat → ClassId} {base : Nat} {l2 : List va_E} {H : Heap} (hP : va_P D vwCl (kw base (bbL cy base ++ l2)) H) : va_at D vwCl (base + piC 44, cC (qC0 D cy base) (MC0.1 44) (MC0.2 44) 44) H := by
  exact hP 43 (base + piC 44, cC (qC0 D cy base) (MC0.1 44) (MC0.2 44) 44) (kw_get rfl)
set_option maxRecDepth 100000 in
set_option maxHeartbeats 4000000 in
theorem pC_45 {D : va_G} {cy : Nat → ClassId} {base : Nat} {l2 : List va_E} {H : Heap} (hP : va_P D vwCl (kw base (bbL cy base ++ l2)) H) : va_at D vwCl (base + piC 45, cC (qC0 D cy base) (MC0.1 45) (MC0.2 45) 45) H := by
  exact hP 45 (base + piC 45, cC (qC0 D cy base) (MC0.1 45) (MC0.2 45) 45) (kw_get rfl)
set_option maxRecDepth 100000 in
set_option maxHeartbeats 4000000 in
theorem pC_46 {D : va_G} {cy : Nat → ClassId} {base : Nat} {l2 : List va_E} {H : Heap} (hP : va_P D vwCl (kw base (bbL cy base ++ l2)) H) : va_at D vwCl (base + piC 46, cC (qC0 D cy base) (MC0.1 46) (MC0.2 46) 46) H := by
  refine kq_at (hP 46 _ (kw_get rfl)) (fun k hk => ?_)
  rcases (show k = 0 ∨ k = 1 ∨ k = 2 by omega) with rfl | rfl | rfl <;> rfl
set_option maxRecDepth 100000 in
set_option maxHeartbeats 4000000 in
theorem pC_47 {D : va_G} {cy : Nat → ClassId} {base : Nat} {l2 : List va_E} {H : Heap} (hP : va_P D vwCl (kw base (bbL cy base ++ l2)) H) : va_at D vwCl (base + piC 47, cC (qC0 D cy base) (MC0.1 47) (MC0.2 47) 47) H := by
  refine kq_at (hP 50 _ (kw_get rfl)) (fun k hk => ?_)
  rcases (show k = 0 ∨ k = 1 ∨ k = 2 ∨ k = 3 ∨ k = 4 ∨ k = 5 ∨ k = 6 ∨ k = 7 ∨ k = 8 ∨ k = 9 ∨ k = 10 ∨ k = 11 by omega) with rfl | rfl | rfl | rfl | rfl | rfl | rfl | rfl | rfl | rfl | rfl | rfl <;> rfl
set_option maxRecDepth 100000 in
set_option maxHeartbeats 4000000 in
theorem pC_48 {D : va_G} {cy : Nat → ClassId} {base : Nat} {l2 : List va_E} {H : Heap} (hP : va_P D vwCl (kw base (bbL cy base ++ l2)) H) : va_at D vwCl (base + piC 48, cC (qC0 D cy base) (MC0.1 48) (MC0.2 48) 48) H := by
  exact hP 47 (base + piC 48, cC (qC0 D cy base) (MC0.1 48) (MC0.2 48) 48) (kw_get rfl)
set_option maxRecDepth 100000 in
set_option maxHeartbeats 4000000 in
theorem pC_49 {D : va_G} {cy : Nat → ClassId} {base : Nat} {l2 : List va_E} {H : Heap} (hP : va_P D vwCl (kw base (bbL cy base ++ l2)) H) : va_at D vwCl (base + piC 49, cC (qC0 D cy base) (MC0.1 49) (MC0.2 49) 49) H := by
  exact hP 48 (base + piC 49, cC (qC0 D cy base) (MC0.1 49) (MC0.2 49) 49) (kw_get rfl)
set_option maxRecDepth 100000 in
set_option maxHeartbeats 4000000 in
theorem pC_50 {D : va_G} {cy : Nat → ClassId} {base : Nat} {l2 : List va_E} {H : Heap} (hP : va_P D vwCl (kw base (bbL cy base ++ l2)) H) : va_at D vwCl (base + piC 50, cC (qC0 D cy base) (MC0.1 50) (MC0.2 50) 50) H := by
  exact hP 49 (base + piC 50, cC (qC0 D cy base) (MC0.1 50) (MC0.2 50) 50) (kw_get rfl)
set_option maxRecDepth 100000 in
set_option maxHeartbeats 4000000 in
theorem pC_51 {D : va_G} {cy : Nat → ClassId} {base : Nat} {l2 : List va_E} {H : Heap} (hP : va_P D vwCl (kw base (bbL cy base ++ l2)) H) : va_at D vwCl (base + piC 51, cC (qC0 D cy base) (MC0.1 51) (MC0.2 51) 51) H := by
  exact hP 51 (base + piC 51, cC (qC0 D cy base) (MC0.1 51) (MC0.2 51) 51) (kw_get rfl)
set_option maxRecDepth 100000 in
set_option maxHeartbeats 4000000 in
theorem pC_52 {D : va_G} {cy : Nat → ClassId} {base : Nat} {l2 : List va_E} {H : Heap} (hP : va_P D vwCl (kw base (bbL cy base ++ l2)) H) : va_at D vwCl (base + piC 52, cC (qC0 D cy base) (MC0.1 52) (MC0.2 52) 52) H := by
  exact hP 52 (base + piC 52, cC (qC0 D cy base) (MC0.1 52) (MC0.2 52) 52) (kw_get rfl)
set_option maxRecDepth 100000 in
set_option maxHeartbeats 4000000 in
theorem pC_53 {D : va_G} {cy : Nat → ClassId} {base : Nat} {l2 : List va_E} {H : Heap} (hP : va_P D vwCl (kw base (bbL cy base ++ l2)) H) : va_at D vwCl (base + piC 53, cC (qC0 D cy base) (MC0.1 53) (MC0.2 53) 53) H := by
  exact hP 53 (base + piC 53, cC (qC0 D cy base) (MC0.1 53) (MC0.2 53) 53) (kw_get rfl)
set_option maxRecDepth 100000 in
set_option maxHeartbeats 4000000 in
theorem pC_54 {D : va_G} {cy : Nat → ClassId} {base : Nat} {l2 : List va_E} {H : Heap} (hP : va_P D vwCl (kw base (bbL cy base ++ l2)) H) : va_at D vwCl (base + piC 54, cC (qC0 D cy base) (MC0.1 54) (MC0.2 54) 54) H := by
  exact hP 54 (base + piC 54, cC (qC0 D cy base) (MC0.1 54) (MC0.2 54) 54) (kw_get rfl)
set_option maxRecDepth 100000 in
set_option maxHeartbeats 4000000 in
theorem pC_55 {D : va_G} {cy : Nat → ClassId} {base : Nat} {l2 : List va_E} {H : Heap} (hP : va_P D vwCl (kw base (bbL cy base ++ l2)) H) : va_at D vwCl (base + piC 55, cC (qC0 D cy base) (MC0.1 55) (MC0.2 55) 55) H := by
  exact hP 55 (base + piC 55, cC (qC0 D cy base) (MC0.1 55) (MC0.2 55) 55) (kw_get rfl)
set_option maxRecDepth 100000 in
set_option maxHeartbeats 4000000 in
theorem pC_56 {D : va_G} {cy : Nat → ClassId} {base : Nat} {l2 : List va_E} {H : Heap} (hP : va_P D vwCl (kw base (bbL cy base ++ l2)) H) : va_at D vwCl (base + piC 56, cC (qC0 D cy base) (MC0.1 56) (MC0.2 56) 56) H := by
  exact hP 56 (base + piC 56, cC (qC0 D cy base) (MC0.1 56) (MC0.2 56) 56) (kw_get rfl)
set_option maxRecDepth 100000 in
set_option maxHeartbeats 4000000 in
theorem pC_57 {D : va_G} {cy : Nat → ClassId} {base : Nat} {l2 : List va_E} {H : Heap} (hP : va_P D vwCl (kw base (bbL cy base ++ l2)) H) : va_at D vwCl (base + piC 57, cC (qC0 D cy base) (MC0.1 57) (MC0.2 57) 57) H := by
  exact hP 57 (base + piC 57, cC (qC0 D cy base) (MC0.1 57) (MC0.2 57) 57) (kw_get rfl)
set_option maxRecDepth 100000 in
set_option maxHeartbeats 4000000 in
theorem pC_58 {D : va_G} {cy : Nat → ClassId} {base : Nat} {l2 : List va_E} {H : Heap} (hP : va_P D vwCl (kw base (bbL cy base ++ l2)) H) : va_at D vwCl (base + piC 58, cC (qC0 D cy base) (MC0.1 58) (MC0.2 58) 58) H := by
  exact hP 58 (base + piC 58, cC (qC0 D cy base) (MC0.1 58) (MC0.2 58) 58) (kw_get rfl)
set_option maxRecDepth 100000 in
set_option maxHeartbeats 4000000 in
theorem pC_59 {D : va_G} {cy : Nat → ClassId} {base : Nat} {l2 : List va_E} {H : Heap} (hP : va_P D vwCl (kw base (bbL cy base ++ l2)) H) : va_at D vwCl (base + piC 59, cC (qC0 D cy base) (MC0.1 59) (MC0.2 59) 59) H := by
  exact hP 59 (base + piC 59, cC (qC0 D cy base) (MC0.1 59) (MC0.2 59) 59) (kw_get rfl)
set_option maxRecDepth 100000 in
set_option maxHeartbeats 4000000 in
theorem pC_60 {D : va_G} {cy : Nat → ClassId} {base : Nat} {l2 : List va_E} {H : Heap} (hP : va_P D vwCl (kw base (bbL cy base ++ l2)) H) : va_at D vwCl (base + piC 60, cC (qC0 D cy base) (MC0.1 60) (MC0.2 60) 60) H := by
  exact hP 60 (base + piC 60, cC (qC0 D cy base) (MC0.1 60) (MC0.2 60) 60) (kw_get rfl)
set_option maxRecDepth 100000 in
set_option maxHeartbeats 4000000 in
theorem pC_61 {D : va_G} {cy : Nat → ClassId} {base : Nat} {l2 : List va_E} {H : Heap} (hP : va_P D vwCl (kw base (bbL cy base ++ l2)) H) : va_at D vwCl (base + piC 61, cC (qC0 D cy base) (MC0.1 61) (MC0.2 61) 61) H := by
  exact hP 61 (base + piC 61, cC (qC0 D cy base) (MC0.1 61) (MC0.2 61) 61) (kw_get rfl)
set_option maxRecDepth 100000 in
set_option maxHeartbeats 4000000 in
theorem pC_62 {D : va_G} {cy : Nat → ClassId} {base : Nat} {l2 : List va_E} {H : Heap} (hP : va_P D vwCl (kw base (bbL cy base ++ l2)) H) : va_at D vwCl (base + piC 62, cC (qC0 D cy base) (MC0.1 62) (MC0.2 62) 62) H := by
  exact hP 62 (base + piC 62, cC (qC0 D cy base) (MC0.1 62) (MC0.2 62) 62) (kw_get rfl)
set_option maxRecDepth 100000 in
set_option maxHeartbeats 4000000 in
theorem pM_0 {D : va_G} {cy : Nat → ClassId} {base : Nat} {H : Heap} (hP : va_P D vwCl (kw (base + 63) (mdL cy (base + 63))) H) : va_at D vwCl (base + 63 + 0, cM (qM0 D cy base) (MM0.1 0) (MM0.2 0) 0) H := hP 0 (base + 63 + 0, cM (qM0 D cy base) (MM0.1 0) (MM0.2 0) 0) (kw_get rfl)
set_option maxRecDepth 100000 in
set_option maxHeartbeats 4000000 in
theorem pM_1 {D : va_G} {cy : Nat → ClassId} {base : Nat} {H : Heap} (hP : va_P D vwCl (kw (base + 63) (mdL cy (base + 63))) H) : va_at D vwCl (base + 63 + 1, cM (qM0 D cy base) (MM0.1 1) (MM0.2 1) 1) H := hP 1 (base + 63 + 1, cM (qM0 D cy base) (MM0.1 1) (MM0.2 1) 1) (kw_get rfl)
set_option maxRecDepth 100000 in
set_option maxHeartbeats 4000000 in
theorem pM_2 {D : va_G} {cy : Nat → ClassId} {base : Nat} {H : Heap} (hP : va_P D vwCl (kw (base + 63) (mdL cy (base + 63))) H) : va_at D vwCl (base + 63 + 2, cM (qM0 D cy base) (MM0.1 2) (MM0.2 2) 2) H := hP 2 (base + 63 + 2, cM (qM0 D cy base) (MM0.1 2) (MM0.2 2) 2) (kw_get rfl)
set_option maxRecDepth 100000 in
set_option maxHeartbeats 4000000 in
theorem pM_3 {D : va_G} {cy : Nat → ClassId} {base : Nat} {H : Heap} (hP : va_P D vwCl (kw (base + 63) (mdL cy (base + 63))) H) : va_at D vwCl (base + 63 + 3, cM (qM0 D cy base) (MM0.1 3) (MM0.2 3) 3) H := hP 3 (base + 63 + 3, cM (qM0 D cy base) (MM0.1 3) (MM0.2 3) 3) (kw_get rfl)
set_option maxRecDepth 100000 in
set_option maxHeartbeats 4000000 in
theorem pM_4 {D : va_G} {cy : Nat → ClassId} {base : Nat} {H : Heap} (hP : va_P D vwCl (kw (base + 63) (mdL cy (base + 63))) H) : va_at D vwCl (base + 63 + 4, cM (qM0 D cy base) (MM0.1 4) (MM0.2 4) 4) H := hP 4 (base + 63 + 4, cM (qM0 D cy base) (MM0.1 4) (MM0.2 4) 4) (kw_get rfl)
set_option maxRecDepth 100000 in
set_option maxHeartbeats 4000000 in
theorem pM_5 {D : va_G} {cy : Nat → ClassId} {base : Nat} {H : Heap} (hP : va_P D vwCl (kw (base + 63) (mdL cy (base + 63))) H) : va_at D vwCl (base + 63 + 5, cM (qM0 D cy base) (MM0.1 5) (MM0.2 5) 5) H := hP 5 (base + 63 + 5, cM (qM0 D cy base) (MM0.1 5) (MM0.2 5) 5) (kw_get rfl)
set_option maxRecDepth 100000 in
set_option maxHeartbeats 4000000 in
theorem pM_6 {D : va_G} {cy : Nat → ClassId} {base : Nat} {H : Heap} (hP : va_P D vwCl (kw (base + 63) (mdL cy (base + 63))) H) : va_at D vwCl (base + 63 + 6, cM (qM0 D cy base) (MM0.1 6) (MM0.2 6) 6) H := hP 6 (base + 63 + 6, cM (qM0 D cy base) (MM0.1 6) (MM0.2 6) 6) (kw_get rfl)
set_option maxRecDepth 100000 in
set_option maxHeartbeats 4000000 in
theorem pM_7 {D : va_G} {cy : Nat → ClassId} {base : Nat} {H : Heap} (hP : va_P D vwCl (kw (base + 63) (mdL cy (base + 63))) H) : va_at D vwCl (base + 63 + 7, cM (qM0 D cy base) (MM0.1 7) (MM0.2 7) 7) H := hP 7 (base + 63 + 7, cM (qM0 D cy base) (MM0.1 7) (MM0.2 7) 7) (kw_get rfl)
set_option maxRecDepth 100000 in
set_option maxHeartbeats 4000000 in
theorem pM_8 {D : va_G} {cy : Nat → ClassId} {base : Nat} {H : Heap} (hP : va_P D vwCl (kw (base + 63) (mdL cy (base + 63))) H) : va_at D vwCl (base + 63 + 8, cM (qM0 D cy base) (MM0.1 8) (MM0.2 8) 8) H := hP 8 (base + 63 + 8, cM (qM0 D cy base) (MM0.1 8) (MM0.2 8) 8) (kw_get rfl)
set_option maxRecDepth 100000 in
set_option maxHeartbeats 4000000 in
theorem pM_9 {D : va_G} {cy : Nat → ClassId} {base : Nat} {H : Heap} (hP : va_P D vwCl (kw (base + 63) (mdL cy (base + 63))) H) : va_at D vwCl (base + 63 + 9, cM (qM0 D cy base) (MM0.1 9) (MM0.2 9) 9) H := hP 9 (base + 63 + 9, cM (qM0 D cy base) (MM0.1 9) (MM0.2 9) 9) (kw_get rfl)
set_option maxRecDepth 100000 in
set_option maxHeartbeats 4000000 in
theorem pM_10 {D : va_G} {cy : Nat → ClassId} {base : Nat} {H : Heap} (hP : va_P D vwCl (kw (base + 63) (mdL cy (base + 63))) H) : va_at D vwCl (base + 63 + 10, cM (qM0 D cy base) (MM0.1 10) (MM0.2 10) 10) H := hP 10 (base + 63 + 10, cM (qM0 D cy base) (MM0.1 10) (MM0.2 10) 10) (kw_get rfl)
set_option maxRecDepth 100000 in
set_option maxHeartbeats 4000000 in
theorem pM_11 {D : va_G} {cy : Nat → ClassId} {base : Nat} {H : Heap} (hP : va_P D vwCl (kw (base + 63) (mdL cy (base + 63))) H) : va_at D vwCl (base + 63 + 11, cM (qM0 D cy base) (MM0.1 11) (MM0.2 11) 11) H := hP 11 (base + 63 + 11, cM (qM0 D cy base) (MM0.1 11) (MM0.2 11) 11) (kw_get rfl)
set_option maxRecDepth 100000 in
set_option maxHeartbeats 4000000 in
theorem pM_12 {D : va_G} {cy : Nat → ClassId} {base : Nat} {H : Heap} (hP : va_P D vwCl (kw (base + 63) (mdL cy (base + 63))) H) : va_at D vwCl (base + 63 + 12, cM (qM0 D cy base) (MM0.1 12) (MM0.2 12) 12) H := hP 12 (base + 63 + 12, cM (qM0 D cy base) (MM0.1 12) (MM0.2 12) 12) (kw_get rfl)
set_option maxRecDepth 100000 in
set_option maxHeartbeats 4000000 in
theorem pM_13 {D : va_G} {cy : Nat → ClassId} {base : Nat} {H : Heap} (hP : va_P D vwCl (kw (base + 63) (mdL cy (base + 63))) H) : va_at D vwCl (base + 63 + 13, cM (qM0 D cy base) (MM0.1 13) (MM0.2 13) 13) H := hP 13 (base + 63 + 13, cM (qM0 D cy base) (MM0.1 13) (MM0.2 13) 13) (kw_get rfl)
set_option maxRecDepth 100000 in
set_option maxHeartbeats 4000000 in
theorem pM_14 {D : va_G} {cy : Nat → ClassId} {base : Nat} {H : Heap} (hP : va_P D vwCl (kw (base + 63) (mdL cy (base + 63))) H) : va_at D vwCl (base + 63 + 14, cM (qM0 D cy base) (MM0.1 14) (MM0.2 14) 14) H := hP 14 (base + 63 + 14, cM (qM0 D cy base) (MM0.1 14) (MM0.2 14) 14) (kw_get rfl)
set_option maxRecDepth 100000 in
set_option maxHeartbeats 4000000 in
theorem pM_15 {D : va_G} {cy : Nat → ClassId} {base : Nat} {H : Heap} (hP : va_P D vwCl (kw (base + 63) (mdL cy (base + 63))) H) : va_at D vwCl (base + 63 + 15, cM (qM0 D cy base) (MM0.1 15) (MM0.2 15) 15) H := hP 15 (base + 63 + 15, cM (qM0 D cy base) (MM0.1 15) (MM0.2 15) 15) (kw_get rfl)
set_option maxRecDepth 100000 in
set_option maxHeartbeats 4000000 in
theorem pM_16 {D : va_G} {cy : Nat → ClassId} {base : Nat} {H : Heap} (hP : va_P D vwCl (kw (base + 63) (mdL cy (base + 63))) H) : va_at D vwCl (base + 63 + 16, cM (qM0 D cy base) (MM0.1 16) (MM0.2 16) 16) H := hP 16 (base + 63 + 16, cM (qM0 D cy base) (MM0.1 16) (MM0.2 16) 16) (kw_get rfl)
theorem gPic_C {D : va_G} {cy : Nat → ClassId} {base : Nat} {l2 : List va_E} {H : Heap} (hP : va_P D vwCl (kw base (bbL cy base ++ l2)) H) : gPic (wC (qC0 D cy base)) MC0 H := by
  intro k q hq
  obtain ⟨hk, rfl⟩ := gws_of hq
  have hk : k < 63 := hk
  rcases (show k = 0 ∨ k = 1 ∨ k = 2 ∨ k = 3 ∨ k = 4 ∨ k = 5 ∨ k = 6 ∨ k = 7 ∨ k = 8 ∨ k = 9 ∨ k = 10 ∨ k = 11 ∨ k = 12 ∨ k = 13 ∨ k = 14 ∨ k = 15 ∨ k = 16 ∨ k = 17 ∨ k = 18 ∨ k = 19 ∨ k = 20 ∨ k = 21 ∨ k = 22 ∨ k = 23 ∨ k = 24 ∨ k = 25 ∨ k = 26 ∨ k = 27 ∨ k = 28 ∨ k = 29 ∨ k = 30 ∨ k = 31 ∨ k = 32 ∨ k = 33 ∨ k = 34 ∨ k = 35 ∨ k = 36 ∨ k = 37 ∨ k = 38 ∨ k = 39 ∨ k = 40 ∨ k = 41 ∨ k = 42 ∨ k = 43 ∨ k = 44 ∨ k = 45 ∨ k = 46 ∨ k = 47 ∨ k = 48 ∨ k = 49 ∨ k = 50 ∨ k = 51 ∨ k = 52 ∨ k = 53 ∨ k = 54 ∨ k = 55 ∨ k = 56 ∨ k = 57 ∨ k = 58 ∨ k = 59 ∨ k = 60 ∨ k = 61 ∨ k = 62 by omega) with rfl | rfl | rfl | rfl | rfl | rfl | rfl | rfl | rfl | rfl | rfl | rfl | rfl | rfl | rfl | rfl | rfl | rfl | rfl | rfl | rfl | rfl | rfl | rfl | rfl | rfl | rfl | rfl | rfl | rfl | rfl | rfl | rfl | rfl | rfl | rfl | rfl | rfl | rfl | rfl | rfl | rfl | rfl | rfl | rfl | rfl | rfl | rfl | rfl | rfl | rfl | rfl | rfl | rfl | rfl | rfl | rfl | rfl | rfl | rfl | rfl | rfl | rfl
  · exact pC_0 hP
  · exact pC_1 hP
  · exact pC_2 hP
  · exact pC_3 hP
  · exact pC_4 hP
  · exact pC_5 hP
  · exact pC_6 hP
  · exact pC_7 hP
  · exact pC_8 hP
  · exact pC_9 hP
  · exact pC_10 hP
  · exact pC_11 hP
  · exact pC_12 hP
  · exact pC_13 hP
  · exact pC_14 hP
  · exact pC_15 hP
  · exact pC_16 hP
  · exact pC_17 hP
  · exact pC_18 hP
  · exact pC_19 hP
  · exact pC_20 hP
  · exact pC_21 hP
  · exact pC_22 hP
  · exact pC_23 hP
  · exact pC_24 hP
  · exact pC_25 hP
  · exact pC_26 hP
  · exact pC_27 hP
  · exact pC_28 hP
  · exact pC_29 hP
  · exact pC_30 hP
  · exact pC_31 hP
  · exact pC_32 hP
  · exact pC_33 hP
  · exact pC_34 hP
  · exact pC_35 hP
  · exact pC_36 hP
  · exact pC_37 hP
  · exact pC_38 hP
  · exact pC_39 hP
  · exact pC_40 hP
  · exact pC_41 hP
  · exact pC_42 hP
  · exact pC_43 hP
  · exact pC_44 hP
  · exact pC_45 hP
  · exact pC_46 hP
  · exact pC_47 hP
  · exact pC_48 hP
  · exact pC_49 hP
  · exact pC_50 hP
  · exact pC_51 hP
  · exact pC_52 hP
  · exact pC_53 hP
  · exact pC_54 hP
  · exact pC_55 hP
  · exact pC_56 hP
  · exact pC_57 hP
  · exact pC_58 hP
  · exact pC_59 hP
  · exact pC_60 hP
  · exact pC_61 hP
  · exact pC_62 hP
theorem gPic_M {D : va_G} {cy : Nat → ClassId} {base : Nat} {H : Heap} (hP : va_P D vwCl (kw (base + 63) (mdL cy (base + 63))) H) : gPic (wM (qM0 D cy base)) MM0 H := by
  intro k q hq
  obtain ⟨hk, rfl⟩ := gws_of hq
  have hk : k < 17 := hk
  rcases (show k = 0 ∨ k = 1 ∨ k = 2 ∨ k = 3 ∨ k = 4 ∨ k = 5 ∨ k = 6 ∨ k = 7 ∨ k = 8 ∨ k = 9 ∨ k = 10 ∨ k = 11 ∨ k = 12 ∨ k = 13 ∨ k = 14 ∨ k = 15 ∨ k = 16 by omega) with rfl | rfl | rfl | rfl | rfl | rfl | rfl | rfl | rfl | rfl | rfl | rfl | rfl | rfl | rfl | rfl | rfl
  · exact pM_0 hP
  · exact pM_1 hP
  · exact pM_2 hP
  · exact pM_3 hP
  · exact pM_4 hP
  · exact pM_5 hP
  · exact pM_6 hP
  · exact pM_7 hP
  · exact pM_8 hP
  · exact pM_9 hP
  · exact pM_10 hP
  · exact pM_11 hP
  · exact pM_12 hP
  · exact pM_13 hP
  · exact pM_14 hP
  · exact pM_15 hP
  · exact pM_16 hP