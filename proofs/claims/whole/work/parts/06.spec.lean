/-! WHAT THE BOW ANSWERS, over natural numbers: one value for the class and for the reference. B: rows 0 width 1 depth 2 wood 3 sets 4 knot 5 seen (by place), 6 e 7 pull 8 press (by wood), 9: 0 places a limb, 1 where it is broken (0: nowhere; told and 1) -/
abbrev gB : Type := Nat → Nat → Nat
def bV (B : gB) : Prop := 1 ≤ B 9 0 ∧ B 9 0 ≤ 6 ∧ B 9 1 ≤ 16 ∧ (∀ k, k < 3 → (1 ≤ B 6 k ∧ B 6 k ≤ 9) ∧ (1 ≤ B 7 k ∧ B 7 k ≤ 99) ∧ (1 ≤ B 8 k ∧ B 8 k ≤ 99)) ∧ ∀ j, j < 12 → j % 6 < B 9 0 → (1 ≤ B 0 j ∧ B 0 j ≤ 9) ∧ (4 ≤ B 1 j ∧ B 1 j ≤ 40) ∧ B 2 j ≤ 2 ∧ B 3 j ≤ 99 ∧ B 4 j ≤ 1 ∧ B 5 j ≤ 99
def bk (n : Nat) : Int32 := if n = 0 then -9 else nI (n - 1)
/-- the class's Bow b holds B -/
def bC (b : Nat) (M : gM) (B : gB) : Prop := M.1 (9 + 18 * b) 2 = nI (B 9 0) ∧ M.1 (9 + 18 * b) 3 = bk (B 9 1) ∧ (∀ k, k < 3 → M.1 (12 + 18 * b + k) 0 = nI (B 6 k) ∧ M.1 (12 + 18 * b + k) 1 = nI (B 7 k) ∧ M.1 (12 + 18 * b + k) 2 = nI (B 8 k)) ∧ ∀ j, j < 12 → j % 6 < B 9 0 → M.1 (15 + 18 * b + j) 3 = nI (B 0 j) ∧ M.1 (15 + 18 * b + j) 4 = nI (B 1 j) ∧ M.1 (15 + 18 * b + j) 5 = nI (B 2 j) ∧ M.1 (15 + 18 * b + j) 6 = nI (B 3 j) ∧ M.1 (15 + 18 * b + j) 8 = nI (B 4 j) ∧ M.1 (15 + 18 * b + j) 7 = nI (B 5 j)
/-- what never changes of the Places -/
def bK (M : gM) : Prop := ∀ b, b < 3 → ∀ j, j < 12 → M.1 (15 + 18 * b + j) 0 = nI (j / 6) ∧ M.1 (15 + 18 * b + j) 1 = nI (j % 6 + 1) ∧ M.1 (15 + 18 * b + j) 2 = nI (10 * (j / 6) + j % 6) ∧ (M.1 (15 + 18 * b + j) 8 = 0 ∨ M.1 (15 + 18 * b + j) 8 = 1)
def cI (M : gM) (B : gB) : Prop := bK M ∧ bC 0 M B ∧ bV B
section CI
variable {M : gM} {B : gB}
theorem ci_many (h : cI M B) : M.1 9 2 = nI (B 9 0) := h.2.1.1
theorem ci_brk (h : cI M B) : M.1 9 3 = bk (B 9 1) := h.2.1.2.1
theorem ci_e (h : cI M B) {k : Nat} (hk : k < 3) : M.1 (12 + k) 0 = nI (B 6 k) := (h.2.1.2.2.1 k hk).1
theorem ci_pull (h : cI M B) {k : Nat} (hk : k < 3) : M.1 (12 + k) 1 = nI (B 7 k) := (h.2.1.2.2.1 k hk).2.1
theorem ci_press (h : cI M B) {k : Nat} (hk : k < 3) : M.1 (12 + k) 2 = nI (B 8 k) := (h.2.1.2.2.1 k hk).2.2
theorem ci_side (h : cI M B) {j : Nat} (hj : j < 12) : M.1 (15 + j) 0 = nI (j / 6) := (h.1 0 (by decide) j hj).1
theorem ci_arm (h : cI M B) {j : Nat} (hj : j < 12) : M.1 (15 + j) 1 = nI (j % 6 + 1) := (h.1 0 (by decide) j hj).2.1
theorem ci_told (h : cI M B) {j : Nat} (hj : j < 12) : M.1 (15 + j) 2 = nI (10 * (j / 6) + j % 6) := (h.1 0 (by decide) j hj).2.2.1
theorem ci_f0 (h : cI M B) {j : Nat} (hj : j < 12) (ht : j % 6 < B 9 0) : M.1 (15 + j) 3 = nI (B 0 j) := (h.2.1.2.2.2 j hj ht).1
theorem ci_f1 (h : cI M B) {j : Nat} (hj : j < 12) (ht : j % 6 < B 9 0) : M.1 (15 + j) 4 = nI (B 1 j) := (h.2.1.2.2.2 j hj ht).2.1
theorem ci_f2 (h : cI M B) {j : Nat} (hj : j < 12) (ht : j % 6 < B 9 0) : M.1 (15 + j) 5 = nI (B 2 j) := (h.2.1.2.2.2 j hj ht).2.2.1
theorem ci_f3 (h : cI M B) {j : Nat} (hj : j < 12) (ht : j % 6 < B 9 0) : M.1 (15 + j) 6 = nI (B 3 j) := (h.2.1.2.2.2 j hj ht).2.2.2.1
theorem ci_f4 (h : cI M B) {j : Nat} (hj : j < 12) (ht : j % 6 < B 9 0) : M.1 (15 + j) 8 = nI (B 4 j) := (h.2.1.2.2.2 j hj ht).2.2.2.2.1
theorem ci_f5 (h : cI M B) {j : Nat} (hj : j < 12) (ht : j % 6 < B 9 0) : M.1 (15 + j) 7 = nI (B 5 j) := (h.2.1.2.2.2 j hj ht).2.2.2.2.2
theorem bv_many (h : bV B) : 1 ≤ B 9 0 ∧ B 9 0 ≤ 6 := ⟨h.1, h.2.1⟩
theorem bv_e (h : bV B) {k : Nat} (hk : k < 3) : 1 ≤ B 6 k ∧ B 6 k ≤ 9 := (h.2.2.2.1 k hk).1
theorem bv_pull (h : bV B) {k : Nat} (hk : k < 3) : 1 ≤ B 7 k ∧ B 7 k ≤ 99 := (h.2.2.2.1 k hk).2.1
theorem bv_press (h : bV B) {k : Nat} (hk : k < 3) : 1 ≤ B 8 k ∧ B 8 k ≤ 99 := (h.2.2.2.1 k hk).2.2
theorem bv_f0 (h : bV B) {j : Nat} (hj : j < 12) (ht : j % 6 < B 9 0) : 1 ≤ B 0 j ∧ B 0 j ≤ 9 := (h.2.2.2.2 j hj ht).1
theorem bv_f1 (h : bV B) {j : Nat} (hj : j < 12) (ht : j % 6 < B 9 0) : 4 ≤ B 1 j ∧ B 1 j ≤ 40 := (h.2.2.2.2 j hj ht).2.1
theorem bv_f2 (h : bV B) {j : Nat} (hj : j < 12) (ht : j % 6 < B 9 0) : B 2 j < 3 := Nat.lt_succ_of_le (h.2.2.2.2 j hj ht).2.2.1
theorem bv_f3 (h : bV B) {j : Nat} (hj : j < 12) (ht : j % 6 < B 9 0) : B 3 j ≤ 99 := (h.2.2.2.2 j hj ht).2.2.2.1
theorem bv_f4 (h : bV B) {j : Nat} (hj : j < 12) (ht : j % 6 < B 9 0) : B 4 j ≤ 1 := (h.2.2.2.2 j hj ht).2.2.2.2.1
theorem bv_f5 (h : bV B) {j : Nat} (hj : j < 12) (ht : j % 6 < B 9 0) : B 5 j ≤ 99 := (h.2.2.2.2 j hj ht).2.2.2.2.2
end CI
theorem g_sv {x y : Int32} (h : x = y) : (some (Value.int x) : Option Value) = some (Value.int y) := by rw [h]
-- sums
def gsm (f : Nat → Nat) : Nat → Nat
  | 0 => 0
  | n + 1 => gsm f n + f n
theorem gsm_le {f : Nat → Nat} {c : Nat} : ∀ {n : Nat}, (∀ k, k < n → f k ≤ c) → gsm f n ≤ n * c
  | 0, _ => by simp [gsm]
  | n + 1, h => by
    have h1 := gsm_le (n := n) (fun k hk => h k (by omega))
    have h2 := h n (by omega)
    show gsm f n + f n ≤ (n + 1) * c
    rw [Nat.succ_mul]; omega
theorem gsm_cong {f g : Nat → Nat} : ∀ {n : Nat}, (∀ k, k < n → f k = g k) → gsm f n = gsm g n
  | 0, _ => rfl
  | n + 1, h => by
    show gsm f n + f n = gsm g n + g n
    rw [gsm_cong (fun k hk => h k (by omega)), h n (by omega)]
theorem gsm_part {f : Nat → Nat} : ∀ {n i : Nat}, i < n → f i ≤ gsm f n
  | 0, _, h => absurd h (Nat.not_lt_zero _)
  | n + 1, i, h => by
    show f i ≤ gsm f n + f n
    by_cases e : i = n
    · subst e; omega
    · have := gsm_part (f := f) (n := n) (i := i) (by omega); omega
theorem gsm_s {f : Nat → Nat} {i v : Nat} (h : f i = v) : gsm f (i + 1) = gsm f i + v := by rw [← h]; rfl
theorem gsm_s0 {f : Nat → Nat} {i : Nat} (h : f i = 0) : gsm f (i + 1) = gsm f i := by rw [gsm_s h, Nat.add_zero]
/-- what a place d deep gives -/
def sGive (B : gB) (j d : Nat) : Nat := 1000000000 * (j % 6 + 1) * (j % 6 + 1) / (B 6 (B 2 j) * B 0 j * d * d * d)
def sLimb (B : gB) (l : Nat) : Nat := gsm (fun k => if k < B 9 0 then sGive B (6 * l + k) (B 1 (6 * l + k)) else 0) 6
def sAll (B : gB) : Nat := sLimb B 0 + sLimb B 1
def sSets (B : gB) : Nat := gsm (fun j => if j % 6 < B 9 0 then B 3 j else 0) 12
def sPull (B : gB) (x : Nat) : Nat := 2000000 * (x - sSets B / 10)
def sBears (B : gB) (j : Nat) : Nat := B 6 (B 2 j) * B 0 j * B 1 j * B 1 j
def sStr (B : gB) (pull gives j : Nat) : Nat := pull * (j % 6 + 1) * 1000000 / (gives * sBears B j)
theorem sGive_le (B : gB) (j d : Nat) : sGive B j d ≤ 36000000000 := by
  unfold sGive
  refine Nat.le_trans (Nat.div_le_self _ _) ?_
  have h : j % 6 + 1 ≤ 6 := by omega
  calc 1000000000 * (j % 6 + 1) * (j % 6 + 1) ≤ 1000000000 * 6 * 6 := Nat.mul_le_mul (Nat.mul_le_mul (Nat.le_refl _) h) h
    _ = 36000000000 := by decide
theorem sLimb_le (B : gB) (l : Nat) : sLimb B l ≤ 216000000000 := gsm_le (n := 6) (c := 36000000000) (fun k _ => by
  split
  · exact sGive_le _ _ _
  · omega)
theorem sAll_le (B : gB) : sAll B ≤ 432000000000 := by
  have h0 := sLimb_le B 0
  have h1 := sLimb_le B 1
  unfold sAll; omega
theorem mul_bd {a b x y : Nat} (h1 : a ≤ x) (h2 : b ≤ y) : a * b ≤ x * y := Nat.mul_le_mul h1 h2
theorem mul_ps {a b : Nat} (h1 : 0 < a) (h2 : 0 < b) : 0 < a * b := Nat.mul_pos h1 h2
theorem sDen_bd {B : gB} (h : bV B) {j d : Nat} (hj : j < 12) (ht : j % 6 < B 9 0) (hd : d ≤ 40) : B 6 (B 2 j) * B 0 j * d * d * d ≤ 5184000 := by
  have h1 := bv_e h (bv_f2 h hj ht)
  have h2 := bv_f0 h hj ht
  exact mul_bd (mul_bd (mul_bd (mul_bd h1.2 h2.2) hd) hd) hd
theorem sDen_ps {B : gB} (h : bV B) {j d : Nat} (hj : j < 12) (ht : j % 6 < B 9 0) (hd : 1 ≤ d) : 0 < B 6 (B 2 j) * B 0 j * d * d * d := by
  have h1 := bv_e h (bv_f2 h hj ht)
  have h2 := bv_f0 h hj ht
  exact mul_ps (mul_ps (mul_ps (mul_ps h1.1 h2.1) hd) hd) hd
theorem sBears_bd {B : gB} (h : bV B) {j : Nat} (hj : j < 12) (ht : j % 6 < B 9 0) : 0 < sBears B j ∧ sBears B j ≤ 129600 := by
  have h1 := bv_e h (bv_f2 h hj ht)
  have h2 := bv_f0 h hj ht
  have h3 := bv_f1 h hj ht
  exact ⟨mul_ps (mul_ps (mul_ps h1.1 h2.1) (by omega)) (by omega), mul_bd (mul_bd (mul_bd h1.2 h2.2) h3.2) h3.2⟩
theorem sGive_ps {B : gB} (h : bV B) {j d : Nat} (hj : j < 12) (ht : j % 6 < B 9 0) (hd : 1 ≤ d) (hd2 : d ≤ 40) : 0 < sGive B j d := by
  have h1 := sDen_bd h hj ht hd2
  have h2 := sDen_ps h hj ht hd
  refine Nat.div_pos (Nat.le_trans h1 ?_) h2
  have h3 : 1 ≤ j % 6 + 1 := by omega
  calc 5184000 ≤ 1000000000 * 1 * 1 := by decide
    _ ≤ 1000000000 * (j % 6 + 1) * (j % 6 + 1) := mul_bd (mul_bd (Nat.le_refl _) h3) h3
theorem sAll_ps {B : gB} (h : bV B) : 0 < sAll B := by
  have h1 := (bv_many h).1
  have h2 := bv_f1 h (j := 0) (by omega) (by omega)
  have h3 := sGive_ps h (j := 0) (by omega) (by omega) (by omega : 1 ≤ B 1 0) h2.2
  have h4 := gsm_part (f := fun k => if k < B 9 0 then sGive B (6 * 0 + k) (B 1 (6 * 0 + k)) else 0) (n := 6) (i := 0) (by omega)
  rw [if_pos (by omega : 0 < B 9 0)] at h4
  have h6 : sGive B 0 (B 1 0) ≤ sLimb B 0 := h4
  unfold sAll
  omega
theorem sSets_le {B : gB} (h : bV B) : sSets B ≤ 1188 := gsm_le (n := 12) (c := 99) (fun k hk => by
  split
  · rename_i ht; exact bv_f3 h hk ht
  · omega)
theorem sPull_le (B : gB) {x : Nat} (hx : x ≤ 40) : sPull B x ≤ 80000000 := by
  unfold sPull; omega
