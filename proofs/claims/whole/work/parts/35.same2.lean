/-! THE TWO SEARCHES find the same, second half -/
def djd (P f : Nat) (B : gB) (tk : Nat) (wy : Nat → Nat) (T : gT) : gT := if f * sAll B ≤ P then dd (sEvn B P (sAll B) + 1) tk wy T else T
/-- level k of the search alone -/
def sTk (P f k : Nat) : Nat → gB → Nat → Nat → (Nat → Nat) → gT → gT
  | 0, B, _, tk, wy, T => if tk = k then djd P f B tk wy T else T
  | d + 1, B, fr, tk, wy, T => gfold (fun j T => if j % 6 < B 9 0 ∧ fr ≤ sTold j ∧ 4 < B 1 j then sTk P f k d (dec B j) (sTold j) (tk + 1) (fun i => if i = tk then sTold j else wy i) T else T) 12 (if tk = k then djd P f B tk wy T else T)
theorem jdl_k (P f : Nat) (B : gB) (tk : Nat) (wy : Nat → Nat) (b : Nat → gT) (k : Nat) : jdl P f B tk wy b k = if tk = k then djd P f B tk wy (b k) else b k := by
  unfold jdl djd
  by_cases c : f * sAll B ≤ P
  · rw [if_pos c, if_pos c]
    unfold upn
    by_cases e : k = tk
    · subst e; rw [if_pos rfl]
    · rw [if_neg e, if_neg (fun z => e z.symm)]
  · rw [if_neg c, if_neg c]
    by_cases e : tk = k
    · rw [if_pos e]
    · rw [if_neg e]
theorem sTryl_k {P f k : Nat} : ∀ (d : Nat) (B : gB) (fr tk : Nat) (wy : Nat → Nat) (b : Nat → gT), sTryl P f d B fr tk wy b k = sTk P f k d B fr tk wy (b k)
  | 0, B, fr, tk, wy, b => jdl_k P f B tk wy b k
  | d + 1, B, fr, tk, wy, b => by
    refine gfold_sim (R := fun (b : Nat → gT) (a : gT) => b k = a) (fun j b' a hab => ?_) 12 _ _ (jdl_k P f B tk wy b k)
    subst hab
    by_cases c : j % 6 < B 9 0 ∧ fr ≤ sTold j ∧ 4 < B 1 j
    · rw [if_pos c, if_pos c]
      exact sTryl_k d (dec B j) (sTold j) (tk + 1) _ b'
    · rw [if_neg c, if_neg c]
theorem gfold_id {α : Type} {g : Nat → α → α} (h : ∀ j a, g j a = a) : ∀ (n : Nat) (a : α), gfold g n a = a
  | 0, _ => rfl
  | n + 1, a => by show g n (gfold g n a) = a; rw [h, gfold_id h n]
theorem gfold_cg {α : Type} {g g' : Nat → α → α} : ∀ (n : Nat) (a : α), (∀ j, j < n → ∀ a, g j a = g' j a) → gfold g n a = gfold g' n a
  | 0, _, _ => rfl
  | n + 1, a, h => by show g n (gfold g n a) = g' n (gfold g' n a); rw [gfold_cg n a (fun j hj => h j (by omega)), h n (by omega)]
theorem sTk_past {P f k : Nat} : ∀ (d : Nat) (B : gB) (fr tk : Nat) (wy : Nat → Nat) (T : gT), k < tk → sTk P f k d B fr tk wy T = T
  | 0, B, fr, tk, wy, T, h => if_neg (by omega)
  | d + 1, B, fr, tk, wy, T, h => by
    rw [sTk, if_neg (by omega)]
    refine gfold_id (fun j a => ?_) 12 T
    by_cases c : j % 6 < B 9 0 ∧ fr ≤ sTold j ∧ 4 < B 1 j
    · rw [if_pos c]; exact sTk_past d _ _ _ _ a (by omega)
    · rw [if_neg c]
theorem sTk_here {P f tk : Nat} : ∀ (d : Nat) (B : gB) (fr : Nat) (wy : Nat → Nat) (T : gT), sTk P f tk d B fr tk wy T = djd P f B tk wy T
  | 0, B, fr, wy, T => if_pos rfl
  | d + 1, B, fr, wy, T => by
    rw [sTk, if_pos rfl]
    refine gfold_id (fun j a => ?_) 12 _
    by_cases c : j % 6 < B 9 0 ∧ fr ≤ sTold j ∧ 4 < B 1 j
    · rw [if_pos c]; exact sTk_past d _ _ _ _ a (by omega)
    · rw [if_neg c]
theorem sTk_deep {P f k : Nat} : ∀ (d : Nat) (B : gB) (fr tk : Nat) (wy : Nat → Nat) (T : gT), tk + d < k → sTk P f k d B fr tk wy T = T
  | 0, B, fr, tk, wy, T, h => if_neg (by omega)
  | d + 1, B, fr, tk, wy, T, h => by
    rw [sTk, if_neg (by omega)]
    refine gfold_id (fun j a => ?_) 12 T
    by_cases c : j % 6 < B 9 0 ∧ fr ≤ sTold j ∧ 4 < B 1 j
    · rw [if_pos c]; exact sTk_deep d _ _ _ _ a (by omega)
    · rw [if_neg c]
def wT (wy : Nat → Nat) : Nat → Nat := fun i => sTold (wy i)
theorem wT_u (wy : Nat → Nat) (tk j : Nat) : (fun i => if i = tk then sTold j else wT wy i) = wT (wyU wy tk j) := by
  funext i
  unfold wT wyU
  by_cases e : i = tk
  · rw [if_pos e, if_pos e]
  · rw [if_neg e, if_neg e]
theorem mjd_d (P f : Nat) (B : gB) (tk : Nat) (wy : Nat → Nat) (T : gT) : mjd P f B tk wy T = djd P f B tk (wT wy) T := by
  unfold mjd djd dd
  by_cases c : f * sAll B ≤ P
  · rw [if_pos c]
    by_cases c2 : T.1 < sEvn B P (sAll B) + 1
    · rw [if_pos ⟨c, c2⟩, if_pos c2]; rfl
    · rw [if_neg (fun z => c2 z.2), if_neg c2]
  · rw [if_neg c, if_neg (fun z => c z.1)]
theorem told_le {a j : Nat} (ha : a < 12) (hj : j < 12) : sTold a ≤ sTold j ↔ a ≤ j := by unfold sTold; omega
theorem cnd {B : gB} {a j : Nat} (ha : a < 12) (hj : j < 12) : (a ≤ j ∧ j % 6 < B 9 0 ∧ 4 < B 1 j) ↔ (j % 6 < B 9 0 ∧ sTold a ≤ sTold j ∧ 4 < B 1 j) := by
  rw [told_le ha hj]
  constructor
  · intro z; exact ⟨z.2.1, z.1, z.2.2⟩
  · intro z; exact ⟨z.2.1, z.1, z.2.2⟩
theorem lvl {P f : Nat} {B : gB} {tk k d a : Nat} {wy : Nat → Nat} {T : gT} {G : Nat → gT → gT} (ha : a < 12) (hk : tk < k) (hG : ∀ j, j < 12 → ∀ T, G j T = sTk P f k d (dec B j) (sTold j) (tk + 1) (wT (wyU wy tk j)) T) : gfold (fun c T => if a ≤ c ∧ c % 6 < B 9 0 ∧ 4 < B 1 c then G c T else T) 12 T = sTk P f k (d + 1) B (sTold a) tk (wT wy) T := by
  rw [sTk, if_neg (by omega)]
  refine gfold_cg 12 T (fun j hj A => ?_)
  by_cases c : a ≤ j ∧ j % 6 < B 9 0 ∧ 4 < B 1 j
  · rw [if_pos c, if_pos ((cnd ha hj).mp c), wT_u]
    exact hG j hj A
  · rw [if_neg c, if_neg (fun z => c ((cnd ha hj).mpr z))]
theorem mF1_k {P f : Nat} {B : gB} {tk d a : Nat} {wy : Nat → Nat} {T : gT} (ha : a < 12) : mF1 P f B tk wy a 12 T = sTk P f (tk + 1) (d + 1) B (sTold a) tk (wT wy) T :=
  lvl ha (by omega) (fun j _ A => by rw [sTk_here]; exact mjd_d P f (dec B j) (tk + 1) (wyU wy tk j) A)
theorem mF2_k {P f : Nat} {B : gB} {tk d a : Nat} {wy : Nat → Nat} {T : gT} (ha : a < 12) : mF2 P f B tk wy a 12 T = sTk P f (tk + 2) (d + 2) B (sTold a) tk (wT wy) T :=
  lvl ha (by omega) (fun j hj A => mF1_k (d := d) (tk := tk + 1) hj)
theorem mF3_k {P f : Nat} {B : gB} {tk d a : Nat} {wy : Nat → Nat} {T : gT} (ha : a < 12) : mF3 P f B tk wy a 12 T = sTk P f (tk + 3) (d + 3) B (sTold a) tk (wT wy) T :=
  lvl ha (by omega) (fun j hj A => mF2_k (d := d) (tk := tk + 1) hj)
-- levels one after another
theorem bet_as (a b c : gT) : bet (bet a b) c = bet a (bet b c) := by
  by_cases h1 : a.1 < b.1
  · rw [bet_p h1]
    by_cases h2 : b.1 < c.1
    · rw [bet_p h2, bet_p (show a.1 < c.1 by omega)]
    · rw [bet_n (by omega), bet_p h1]
  · rw [bet_n (show b.1 ≤ a.1 by omega)]
    by_cases h2 : b.1 < c.1
    · rw [bet_p h2]
    · rw [bet_n (show c.1 ≤ b.1 by omega), bet_n (by omega), bet_n (show b.1 ≤ a.1 by omega)]
theorem bet_Z (X : gT) : bet X gZ = X := bet_n (Nat.zero_le _)
def lin (F : gT → gT) : Prop := ∀ T, F T = bet T (F gZ)
theorem lin_id : lin (fun T => T) := fun T => (bet_Z T).symm
theorem lin_c {F G : gT → gT} (hF : lin F) (hG : lin G) : lin (fun T => G (F T)) := fun T => by
  show G (F T) = bet T (G (F gZ))
  rw [hG (F T), hF T, hG (F gZ), bet_as]
theorem lin_dd (P f : Nat) (B : gB) (tk : Nat) (wy : Nat → Nat) : lin (djd P f B tk wy) := fun T => by
  unfold djd
  by_cases c : f * sAll B ≤ P
  · rw [if_pos c, if_pos c, dd_p (T := gZ) (by show 0 < _; omega)]
    by_cases h : T.1 < sEvn B P (sAll B) + 1
    · rw [dd_p h, bet_p (by exact h)]
    · rw [dd_n (by omega), bet_n (by show sEvn B P (sAll B) + 1 ≤ T.1; omega)]
  · rw [if_neg c, if_neg c, bet_Z]
theorem lin_fold {g : Nat → gT → gT} (h : ∀ j, lin (g j)) : ∀ n, lin (gfold g n)
  | 0 => lin_id
  | n + 1 => lin_c (F := gfold g n) (G := g n) (lin_fold h n) (h n)
theorem lin_k {P f k : Nat} : ∀ (d : Nat) (B : gB) (fr tk : Nat) (wy : Nat → Nat), lin (sTk P f k d B fr tk wy)
  | 0, B, fr, tk, wy => by
    by_cases c : tk = k
    · intro T; rw [sTk, sTk, if_pos c, if_pos c]; exact lin_dd P f B tk wy T
    · intro T; rw [sTk, sTk, if_neg c, if_neg c, bet_Z]
  | d + 1, B, fr, tk, wy => by
    have h1 : lin (fun T : gT => if tk = k then djd P f B tk wy T else T) := by
      by_cases c : tk = k
      · intro T
        show (if tk = k then djd P f B tk wy T else T) = bet T (if tk = k then djd P f B tk wy gZ else gZ)
        rw [if_pos c, if_pos c]; exact lin_dd P f B tk wy T
      · intro T
        show (if tk = k then djd P f B tk wy T else T) = bet T (if tk = k then djd P f B tk wy gZ else gZ)
        rw [if_neg c, if_neg c, bet_Z]
    exact lin_c (F := fun T : gT => if tk = k then djd P f B tk wy T else T) (G := gfold (fun j T => if j % 6 < B 9 0 ∧ fr ≤ sTold j ∧ 4 < B 1 j then sTk P f k d (dec B j) (sTold j) (tk + 1) (fun i => if i = tk then sTold j else wy i) T else T) 12) h1 (lin_fold (fun j => by
      by_cases c : j % 6 < B 9 0 ∧ fr ≤ sTold j ∧ 4 < B 1 j
      · intro T
        show (if _ then _ else _) = bet T (if _ then _ else _)
        rw [if_pos c, if_pos c]; exact lin_k d _ _ _ _ T
      · intro T
        show (if _ then _ else _) = bet T (if _ then _ else _)
        rw [if_neg c, if_neg c, bet_Z]) 12)
theorem seln_Z : ∀ n, seln (fun _ => gZ) n = gZ
  | 0 => rfl
  | n + 1 => by show bet (seln (fun _ => gZ) n) gZ = gZ; rw [bet_Z, seln_Z n]
theorem best_same (B : gB) (x f : Nat) {n : Nat} (h1 : 1 ≤ n) (h3 : n ≤ 3) : sBest B x f n = mBest B x f n := by
  have hs := (sTryl_ok (P := sPull B x) (f := f) (N := 4) n B 0 0 (fun _ => 0) gZ (fun _ => gZ) (by omega) ⟨fun k => Or.inl rfl, (seln_Z 4).symm⟩).2
  have ht0 : sTold 0 = 0 := by decide
  have hw : wT (fun _ => 0) = (fun _ => 0 : Nat → Nat) := by funext z; exact ht0
  have hc : ∀ k, sTryl (sPull B x) f n B 0 0 (fun _ => 0) (fun _ => gZ) k = sTk (sPull B x) f k n B 0 0 (fun _ => 0) gZ := fun k => sTryl_k n B 0 0 _ _
  have e : sBest B x f n = bet (bet (bet (bet gZ (sTk (sPull B x) f 0 n B 0 0 (fun _ => 0) gZ)) (sTk (sPull B x) f 1 n B 0 0 (fun _ => 0) gZ)) (sTk (sPull B x) f 2 n B 0 0 (fun _ => 0) gZ)) (sTk (sPull B x) f 3 n B 0 0 (fun _ => 0) gZ) := by
    rw [← hc 0, ← hc 1, ← hc 2, ← hc 3]; exact hs
  have l0 : ∀ m, mjd (sPull B x) f B 0 (fun _ => 0) gZ = sTk (sPull B x) f 0 m B 0 0 (fun _ => 0) gZ := fun m => by rw [sTk_here, mjd_d, hw]
  have l1 : ∀ m T, mF1 (sPull B x) f B 0 (fun _ => 0) 0 12 T = sTk (sPull B x) f 1 (m + 1) B 0 0 (fun _ => 0) T := fun m T => by have h := mF1_k (P := sPull B x) (f := f) (B := B) (tk := 0) (d := m) (a := 0) (wy := fun _ => 0) (T := T) (by omega); rw [ht0, hw] at h; exact h
  have l2 : ∀ m T, mF2 (sPull B x) f B 0 (fun _ => 0) 0 12 T = sTk (sPull B x) f 2 (m + 2) B 0 0 (fun _ => 0) T := fun m T => by have h := mF2_k (P := sPull B x) (f := f) (B := B) (tk := 0) (d := m) (a := 0) (wy := fun _ => 0) (T := T) (by omega); rw [ht0, hw] at h; exact h
  have l3 : ∀ m T, mF3 (sPull B x) f B 0 (fun _ => 0) 0 12 T = sTk (sPull B x) f 3 (m + 3) B 0 0 (fun _ => 0) T := fun m T => by have h := mF3_k (P := sPull B x) (f := f) (B := B) (tk := 0) (d := m) (a := 0) (wy := fun _ => 0) (T := T) (by omega); rw [ht0, hw] at h; exact h
  rw [e, ← lin_k n B 0 0 (fun _ => 0) gZ, ← lin_k n B 0 0 (fun _ => 0) (sTk (sPull B x) f 0 n B 0 0 (fun _ => 0) gZ), ← lin_k n B 0 0 (fun _ => 0) (sTk (sPull B x) f 1 n B 0 0 (fun _ => 0) _), ← lin_k n B 0 0 (fun _ => 0) (sTk (sPull B x) f 2 n B 0 0 (fun _ => 0) _)]
  rcases (show n = 1 ∨ n = 2 ∨ n = 3 by omega) with rfl | rfl | rfl
  · rw [sTk_deep (k := 3) 1 B 0 0 _ _ (by omega), sTk_deep (k := 2) 1 B 0 0 _ _ (by omega), ← l1 0, ← l0 1]; rfl
  · rw [sTk_deep (k := 3) 2 B 0 0 _ _ (by omega), ← l2 0, ← l1 1, ← l0 2]; rfl
  · rw [← l3 0, ← l2 1, ← l1 2, ← l0 3]; rfl