/-! THE TWO SEARCHES find the same -/
def bet (X Y : gT) : gT := if X.1 < Y.1 then Y else X
def jd (e tk : Nat) (wy : Nat → Nat) (T : gT) : gT := if T.1 < e ∨ (T.1 = e ∧ tk < T.2.1) then (e, tk, wy) else T
def dd (e tk : Nat) (wy : Nat → Nat) (T : gT) : gT := if T.1 < e then (e, tk, wy) else T
theorem bet_p {X Y : gT} (h : X.1 < Y.1) : bet X Y = Y := if_pos h
theorem bet_n {X Y : gT} (h : Y.1 ≤ X.1) : bet X Y = X := if_neg (by omega)
theorem jd_p {e tk : Nat} {wy : Nat → Nat} {T : gT} (h : T.1 < e ∨ (T.1 = e ∧ tk < T.2.1)) : jd e tk wy T = (e, tk, wy) := if_pos h
theorem jd_n {e tk : Nat} {wy : Nat → Nat} {T : gT} (h : ¬ (T.1 < e ∨ (T.1 = e ∧ tk < T.2.1))) : jd e tk wy T = T := if_neg h
theorem dd_p {e tk : Nat} {wy : Nat → Nat} {T : gT} (h : T.1 < e) : dd e tk wy T = (e, tk, wy) := if_pos h
theorem dd_n {e tk : Nat} {wy : Nat → Nat} {T : gT} (h : e ≤ T.1) : dd e tk wy T = T := if_neg (by omega)
theorem jd_last {e n : Nat} {wy : Nat → Nat} {X Y : gT} (he : 1 ≤ e) (hX : X.1 = 0 ∨ X.2.1 < n) (hY : Y.1 = 0 ∨ Y.2.1 = n) : jd e n wy (bet X Y) = bet X (dd e n wy Y) := by
  by_cases h : X.1 < Y.1
  · rw [bet_p h]
    by_cases h2 : Y.1 < e
    · rw [jd_p (Or.inl h2), dd_p h2, bet_p (show X.1 < e by omega)]
    · rw [jd_n (by omega), dd_n (by omega), bet_p h]
  · rw [bet_n (by omega)]
    by_cases h2 : X.1 < e
    · rw [jd_p (Or.inl h2), dd_p (show Y.1 < e by omega), bet_p (show X.1 < e by omega)]
    · rw [jd_n (by omega)]
      by_cases h3 : Y.1 < e
      · rw [dd_p h3, bet_n (show e ≤ X.1 by omega)]
      · rw [dd_n (by omega), bet_n (by omega)]
theorem jd_up {e tk n : Nat} {wy : Nat → Nat} {X Y : gT} (he : 1 ≤ e) (ht : tk < n) (hY : Y.1 = 0 ∨ Y.2.1 = n) : jd e tk wy (bet X Y) = bet (jd e tk wy X) Y := by
  by_cases h : X.1 < Y.1
  · rw [bet_p h]
    by_cases h2 : Y.1 ≤ e
    · rw [jd_p (show Y.1 < e ∨ (Y.1 = e ∧ tk < Y.2.1) by omega), jd_p (show X.1 < e ∨ (X.1 = e ∧ tk < X.2.1) by omega), bet_n (show Y.1 ≤ e by omega)]
    · rw [jd_n (by omega)]
      by_cases h3 : X.1 < e ∨ (X.1 = e ∧ tk < X.2.1)
      · rw [jd_p h3, bet_p (show e < Y.1 by omega)]
      · rw [jd_n h3, bet_p h]
  · rw [bet_n (by omega)]
    by_cases h3 : X.1 < e ∨ (X.1 = e ∧ tk < X.2.1)
    · rw [jd_p h3, bet_n (show Y.1 ≤ e by omega)]
    · rw [jd_n h3, bet_n (by omega)]
abbrev gZ : gT := (0, 0, fun _ => 0)
/-- the best of each number of scrapes, put together -/
def seln (b : Nat → gT) : Nat → gT
  | 0 => gZ
  | n + 1 => bet (seln b n) (b n)
def tgd (b : Nat → gT) : Prop := ∀ k, (b k).1 = 0 ∨ (b k).2.1 = k
def upn (b : Nat → gT) (k : Nat) (v : gT) : Nat → gT := fun i => if i = k then v else b i
theorem seln_tag {b : Nat → gT} (h : tgd b) : ∀ n, (seln b n).1 = 0 ∨ (seln b n).2.1 < n
  | 0 => Or.inl rfl
  | n + 1 => by
    have ih := seln_tag h n
    have hn := h n
    show (bet (seln b n) (b n)).1 = 0 ∨ (bet (seln b n) (b n)).2.1 < n + 1
    by_cases c : (seln b n).1 < (b n).1
    · rw [bet_p c]; omega
    · rw [bet_n (by omega)]; omega
theorem seln_hi {b : Nat → gT} {k : Nat} {v : gT} : ∀ n, n ≤ k → seln (upn b k v) n = seln b n
  | 0, _ => rfl
  | n + 1, h => by
    show bet (seln (upn b k v) n) (upn b k v n) = bet (seln b n) (b n)
    rw [seln_hi n (by omega), show upn b k v n = b n from if_neg (by omega)]
theorem seln_jd {b : Nat → gT} (h : tgd b) {e tk : Nat} {wy : Nat → Nat} (he : 1 ≤ e) : ∀ n, tk < n → jd e tk wy (seln b n) = seln (upn b tk (dd e tk wy (b tk))) n
  | 0, ht => absurd ht (Nat.not_lt_zero _)
  | n + 1, ht => by
    show jd e tk wy (bet (seln b n) (b n)) = bet (seln (upn b tk (dd e tk wy (b tk))) n) (upn b tk (dd e tk wy (b tk)) n)
    by_cases c : tk = n
    · subst c
      rw [seln_hi tk (Nat.le_refl _), show upn b tk (dd e tk wy (b tk)) tk = dd e tk wy (b tk) from if_pos rfl]
      exact jd_last he (seln_tag h tk) (h tk)
    · rw [jd_up he (show tk < n by omega) (h n), seln_jd h he n (by omega), show upn b tk (dd e tk wy (b tk)) n = b n from if_neg (fun z => c z.symm)]
theorem tgd_up {b : Nat → gT} (h : tgd b) {e tk : Nat} {wy : Nat → Nat} : tgd (upn b tk (dd e tk wy (b tk))) := fun k => by
  unfold upn
  by_cases c : k = tk
  · subst c
    rw [if_pos rfl]
    by_cases c2 : (b k).1 < e
    · rw [dd_p c2]; exact Or.inr rfl
    · rw [dd_n (by omega)]; exact h k
  · rw [if_neg c]; exact h k
/-- judged by level -/
def jdl (P f : Nat) (B : gB) (tk : Nat) (wy : Nat → Nat) (b : Nat → gT) : Nat → gT := if f * sAll B ≤ P then upn b tk (dd (sEvn B P (sAll B) + 1) tk wy (b tk)) else b
def sTryl (P f : Nat) : Nat → gB → Nat → Nat → (Nat → Nat) → (Nat → gT) → Nat → gT
  | 0, B, _, tk, wy, b => jdl P f B tk wy b
  | d + 1, B, fr, tk, wy, b => gfold (fun j b => if j % 6 < B 9 0 ∧ fr ≤ sTold j ∧ 4 < B 1 j then sTryl P f d (dec B j) (sTold j) (tk + 1) (fun i => if i = tk then sTold j else wy i) b else b) 12 (jdl P f B tk wy b)
theorem jdl_ok {P f : Nat} {B : gB} {tk N : Nat} {wy : Nat → Nat} {b : Nat → gT} (h : tgd b) (ht : tk < N) : tgd (jdl P f B tk wy b) ∧ jdg P f B tk wy (seln b N) = seln (jdl P f B tk wy b) N := by
  unfold jdl jdg
  by_cases c : f * sAll B ≤ P
  · rw [if_pos c]
    refine ⟨tgd_up h, ?_⟩
    rw [← seln_jd h (by omega) N ht]
    unfold jd
    by_cases c2 : (seln b N).1 < sEvn B P (sAll B) + 1 ∨ ((seln b N).1 = sEvn B P (sAll B) + 1 ∧ tk < (seln b N).2.1)
    · rw [if_pos ⟨c, c2⟩, if_pos c2]
    · rw [if_neg (fun z => c2 z.2), if_neg c2]
  · rw [if_neg c, if_neg (fun z => c z.1)]
    exact ⟨h, rfl⟩
theorem gfold_sim {α β : Type} {R : α → β → Prop} {g : Nat → α → α} {g' : Nat → β → β} (hs : ∀ j a b, R a b → R (g j a) (g' j b)) : ∀ (n : Nat) (a : α) (b : β), R a b → R (gfold g n a) (gfold g' n b)
  | 0, _, _, h => h
  | n + 1, a, b, h => hs n _ _ (gfold_sim hs n a b h)
theorem sTryl_ok {P f N : Nat} : ∀ (d : Nat) (B : gB) (fr tk : Nat) (wy : Nat → Nat) (T : gT) (b : Nat → gT), tk + d < N → (tgd b ∧ T = seln b N) → tgd (sTryl P f d B fr tk wy b) ∧ sTry P f d B fr tk wy T = seln (sTryl P f d B fr tk wy b) N
  | 0, B, fr, tk, wy, T, b, hd, h => by
    obtain ⟨h1, rfl⟩ := h
    exact jdl_ok h1 (by omega)
  | d + 1, B, fr, tk, wy, T, b, hd, h => by
    obtain ⟨h1, rfl⟩ := h
    refine gfold_sim (R := fun (a : gT) (b : Nat → gT) => tgd b ∧ a = seln b N) (fun j a b' hab => ?_) 12 _ _ (jdl_ok h1 (by omega))
    by_cases c : j % 6 < B 9 0 ∧ fr ≤ sTold j ∧ 4 < B 1 j
    · rw [if_pos c, if_pos c]
      exact sTryl_ok d (dec B j) (sTold j) (tk + 1) _ a b' (by omega) hab
    · rw [if_neg c, if_neg c]
      exact hab