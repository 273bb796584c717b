/-! FIELDS, ARRAYS, CALLS over a world -/
def gFl (own : String) (idx ci k : Nat) : Prop := ∃ (C : String) (T : u_T) (N : Nat), vwCl[ci]? = some (C, T, N) ∧ k < N ∧ (T k).1 = C ∧ (∀ w ∈ u_ws C T N, w ∈ gTb) ∧ (Cond.fieldLink own idx C (T k).2.1 (T k).2.2.1 ∈ gTb ∨ ∃ host, Cond.fieldLinkNest own idx C (T k).2.1 (T k).2.2.1 host ∈ lw_tbl)
def gFp (ci k : Nat) (ty : FieldType) : Prop := ∃ (C : String) (T : u_T) (N : Nat) (ty0 : Nat → FieldType), vwCl[ci]? = some (C, T, N) ∧ (T k).2.2.2 = false ∧ parseFieldDescriptor (T k).2.2.1 = some ty ∧ (∀ k, k < N → parseFieldDescriptor (T k).2.2.1 = some (ty0 k)) ∧ (∀ a, a < N → ∀ b, b < N → a ≠ b → (T a).2.1 ≠ (T b).2.1)
def gupd (M : gM) (i k : Nat) (x : Int32) : gM := (fun j => if j = i then upd (M.1 i) k x else M.1 j, M.2)
def gupL (M : gM) (i k : Nat) (x : Int64) : gM := (M.1, fun j => if j = i then vp_updL (M.2 i) k x else M.2 j)
theorem gup_at {w : gW} {M : gM} {i k : Nat} {x : Int32} {e : va_E} (h : w.2.2.2.2 (upd (M.1 i) k x) (M.2 i) i = e) : ∀ j, j < w.2.2.1 → w.2.2.2.2 ((gupd M i k x).1 j) ((gupd M i k x).2 j) j = if j = i then e else w.2.2.2.2 (M.1 j) (M.2 j) j := by
  intro j _
  by_cases e1 : j = i
  · subst e1; simp only [gupd, if_pos]; exact h
  · simp only [gupd, if_neg e1]
theorem gupL_at {w : gW} {M : gM} {i k : Nat} {x : Int64} {e : va_E} (h : w.2.2.2.2 (M.1 i) (vp_updL (M.2 i) k x) i = e) : ∀ j, j < w.2.2.1 → w.2.2.2.2 ((gupL M i k x).1 j) ((gupL M i k x).2 j) j = if j = i then e else w.2.2.2.2 (M.1 j) (M.2 j) j := by
  intro j _
  by_cases e1 : j = i
  · subst e1; simp only [gupL, if_pos]; exact h
  · simp only [gupL, if_neg e1]
/-- what a call links, by the callee: virtual, static -/
def gVf (y : MethodName) (bytes : ByteArray) (maxL : Nat) (ret : Option FieldType) (n : Nat) : Prop := Cond.instanceMethod y ∈ gTb ∧ Cond.selects y.cls y y ∈ gTb ∧ Cond.initialized y.cls ∈ gTb ∧ Cond.code y bytes maxL ret ∈ lw_tbl ∧ (y.cls ≠ "java/lang/invoke/MethodHandle" ∧ y.cls ≠ "java/lang/invoke/VarHandle" ∧ (parseMethodDescriptor y.desc).map (fun d => d.parameters.length) = some n) ∧ maxL ≤ 30
def gSf (y : MethodName) (bytes : ByteArray) (maxL : Nat) (ret : Option FieldType) (n : Nat) : Prop := Cond.static y ∈ gTb ∧ Cond.initialized y.cls ∈ gTb ∧ Cond.code y bytes maxL ret ∈ lw_tbl ∧ (y.cls ≠ "java/lang/invoke/MethodHandle" ∧ y.cls ≠ "java/lang/invoke/VarHandle" ∧ (parseMethodDescriptor y.desc).map (fun d => d.parameters.length) = some n) ∧ maxL ≤ 30
theorem gBlind {w : gW} {As : List Value} {M : gM} : FrameBlind (gPc w As M) := by
  intro a U g mk q
  obtain ⟨q1, q2, q3, q4, q5⟩ := q
  exact ⟨q1, q2, va_K.moved (u := U) (U := U.calling g mk a) (Vm.Alike.refl U.vm) q3, q4, gN.same (s := U) (U := U.calling g mk a) rfl q5⟩
section Rows2
variable {X : gX} {w : gW} {post : Option Value → gM → Prop} {nL : Nat} {M : gM} {pc : Nat} {L : List (Nat × Value)} {st : List Value} {cc : ByteArray} {own : String} {ret : Option FieldType} {d : Nat}
theorem g_get (hC : gC X w cc nL own ret d) {idx ci k : Nat} (i : Nat) {fs : List Value} {v : Value} (hf : gFl own idx ci k) (hi : i < w.2.2.1) (hF : w.2.2.2.2 (M.1 i) (M.2 i) i = .inr (ci, fs)) (hv : fs[k]? = some v) (hd : decode cc pc = .ok (.getfield idx, 3)) (kk : gG X w post nL M (pc + 3) L (v :: st)) : gG X w post nL M pc L (.ref (w.2.2.2.1 i) :: st) := by
  intro H locs ls hP hS hL
  obtain ⟨C, T, N, h1, h2, h3, h4, h5⟩ := hf
  have he : (gws w.2.2.1 w.2.2.2.1 (fun i => w.2.2.2.2 (M.1 i) (M.2 i) i))[i]? = some (w.2.2.2.1 i, .inr (ci, fs)) := by rw [gws_get hi, hF]
  rcases h5 with h5 | ⟨host, h5⟩
  · exact va_get hC.1 hC.2.1 hC.2.2.2.2.1 h4 hC.2.2.2.1 hC.2.2.2.2.2.2.2.1 hP i he h1 k h2 (hC.2.2.2.2.1 _ h5) (fun x h => by rw [h3] at h; exact h) hv hd (kk H locs ls hP hS hL)
  · exact va_getN hC.1 hC.2.1 hC.2.2.2.2.1 h4 hC.2.2.2.1 hC.2.2.2.2.2.2.2.1 hP i he h1 k h2 (va_Nw.use rfl (hC.2.2.2.2.2.2.2.2.2.1 _ h5 rfl)) (fun x h => by rw [h3] at h; exact h) hv hd (kk H locs ls hP hS hL)
theorem g_put (hC : gC X w cc nL own ret d) {idx ci k : Nat} (i : Nat) {fs : List Value} {v : Value} {ty : FieldType} {M' : gM} (hf : gFl own idx ci k) (hp : gFp ci k ty) (hi : i < w.2.2.1) (hF : w.2.2.2.2 (M.1 i) (M.2 i) i = .inr (ci, fs)) (hl : k < fs.length) (hn : narrow ty v = v) (hfit : fits ty v = true) (hM : ∀ j, j < w.2.2.1 → w.2.2.2.2 (M'.1 j) (M'.2 j) j = if j = i then .inr (ci, fs.set k v) else w.2.2.2.2 (M.1 j) (M.2 j) j) (hd : decode cc pc = .ok (.putfield idx, 3)) (kk : gG X w post nL M' (pc + 3) L st) : gG X w post nL M pc L (v :: .ref (w.2.2.2.1 i) :: st) := by
  intro H locs ls hP hS hL
  obtain ⟨C, T, N, h1, h2, h3, h4, h5⟩ := hf
  obtain ⟨C', T', N', ty0, e1, e2, e3, e4, e5⟩ := hp
  have e0 := Option.some.inj (h1.symm.trans e1)
  cases e0
  have he : (gws w.2.2.1 w.2.2.2.1 (fun i => w.2.2.2.2 (M.1 i) (M.2 i) i))[i]? = some (w.2.2.2.1 i, .inr (ci, fs)) := by rw [gws_get hi, hF]
  have hset := gws_set (n := w.2.2.1) (ad := w.2.2.2.1) hM
  have hD := gI.D hC.2.2.2.2.2.2.2.2.1 (fun i => w.2.2.2.2 (M.1 i) (M.2 i) i)
  rcases h5 with h5 | ⟨host, h5⟩
  · exact va_put hC.1 hC.2.1 hC.2.2.2.2.1 h4 ty0 e4 e5 hC.2.2.2.1 hC.2.2.2.2.2.2.2.1 hP hD hS i he h1 k h2 (hC.2.2.2.2.1 _ h5) (fun x h => by rw [h3] at h; exact h) e2 e3 hn hfit hl hd (fun H1 locs1 hP1 _ hS1 => kk H1 locs1 ls (by rw [hset] at hP1; exact hP1) hS1 hL)
  · exact va_putN hC.1 hC.2.1 hC.2.2.2.2.1 h4 ty0 e4 e5 hC.2.2.2.1 hC.2.2.2.2.2.2.2.1 hP hD hS i he h1 k h2 (va_Nw.use rfl (hC.2.2.2.2.2.2.2.2.2.1 _ h5 rfl)) (fun x h => by rw [h3] at h; exact h) e2 e3 hn hfit hl hd (fun H1 locs1 hP1 _ hS1 => kk H1 locs1 ls (by rw [hset] at hP1; exact hP1) hS1 hL)
theorem g_putI (hC : gC X w cc nL own ret d) {idx ci k : Nat} (i : Nat) {fs fs' : List Value} {x : Int32} (hf : gFl own idx ci k) (hp : gFp ci k .int) (hi : i < w.2.2.1) (hF : w.2.2.2.2 (M.1 i) (M.2 i) i = .inr (ci, fs)) (hl : k < fs.length) (hF' : w.2.2.2.2 (upd (M.1 i) k x) (M.2 i) i = .inr (ci, fs')) (hs : fs' = fs.set k (.int x)) (hd : decode cc pc = .ok (.putfield idx, 3)) (kk : gG X w post nL (gupd M i k x) (pc + 3) L st) : gG X w post nL M pc L (.int x :: .ref (w.2.2.2.1 i) :: st) :=
  g_put hC i hf hp hi hF hl rfl rfl (gup_at (by rw [hF', hs])) hd kk
theorem g_putZ (hC : gC X w cc nL own ret d) {idx ci k : Nat} (i : Nat) {fs fs' : List Value} {x : Int32} (hx : x = 0 ∨ x = 1) (hf : gFl own idx ci k) (hp : gFp ci k .boolean) (hi : i < w.2.2.1) (hF : w.2.2.2.2 (M.1 i) (M.2 i) i = .inr (ci, fs)) (hl : k < fs.length) (hF' : w.2.2.2.2 (upd (M.1 i) k x) (M.2 i) i = .inr (ci, fs')) (hs : fs' = fs.set k (.int x)) (hd : decode cc pc = .ok (.putfield idx, 3)) (kk : gG X w post nL (gupd M i k x) (pc + 3) L st) : gG X w post nL M pc L (.int x :: .ref (w.2.2.2.1 i) :: st) :=
  g_put hC i hf hp hi hF hl (by rcases hx with rfl | rfl <;> rfl) (by rcases hx with rfl | rfl <;> rfl) (gup_at (by rw [hF', hs])) hd kk
theorem g_putJ (hC : gC X w cc nL own ret d) {idx ci k : Nat} (i : Nat) {fs fs' : List Value} {x : Int64} (hf : gFl own idx ci k) (hp : gFp ci k .long) (hi : i < w.2.2.1) (hF : w.2.2.2.2 (M.1 i) (M.2 i) i = .inr (ci, fs)) (hl : k < fs.length) (hF' : w.2.2.2.2 (M.1 i) (vp_updL (M.2 i) k x) i = .inr (ci, fs')) (hs : fs' = fs.set k (.long x)) (hd : decode cc pc = .ok (.putfield idx, 3)) (kk : gG X w post nL (gupL M i k x) (pc + 3) L st) : gG X w post nL M pc L (.long x :: .ref (w.2.2.2.1 i) :: st) :=
  g_put hC i hf hp hi hF hl rfl rfl (gupL_at (by rw [hF', hs])) hd kk
-- arrays: the place is a number
theorem g_iald (hC : gC X w cc nL own ret d) (i t0 j : Nat) {cA : ClassId} {n : Nat} {f : Nat → Int32} {x : Int32} (hi : i < w.2.2.1) (hF : w.2.2.2.2 (M.1 i) (M.2 i) i = .inl (cA, n, .inl f)) (ht : w.2.1[t0]? = some (cA, .int)) (hj : j < n) (hn : n < 2147483648) (hx : f j = x) (hd : decode cc pc = .ok (.iaload, 1)) (kk : gG X w post nL M (pc + 1) L (.int x :: st)) : gG X w post nL M pc L (.int (nI j) :: .ref (w.2.2.2.1 i) :: st) := by
  intro H locs ls hP hS hL
  have he : (gws w.2.2.1 w.2.2.2.1 (fun i => w.2.2.2.2 (M.1 i) (M.2 i) i))[i]? = some (w.2.2.2.1 i, .inl (cA, n, .inl f)) := by rw [gws_get hi, hF]
  refine va_iald hC.1 hC.2.1 hC.2.2.2.2.2.2.2.1 hP i t0 he ht (vp_in_nI hj hn) hd ?_
  rw [nI_clamp (by omega), hx]
  exact kk H locs ls hP hS hL
theorem g_zald (hC : gC X w cc nL own ret d) (i t0 j : Nat) {cA : ClassId} {n : Nat} {f : Nat → Int32} {x : Int32} (hi : i < w.2.2.1) (hF : w.2.2.2.2 (M.1 i) (M.2 i) i = .inl (cA, n, .inl f)) (ht : w.2.1[t0]? = some (cA, .boolean)) (hj : j < n) (hn : n < 2147483648) (hx : f j = x) (hd : decode cc pc = .ok (.baload, 1)) (kk : gG X w post nL M (pc + 1) L (.int x :: st)) : gG X w post nL M pc L (.int (nI j) :: .ref (w.2.2.2.1 i) :: st) := by
  intro H locs ls hP hS hL
  have he : (gws w.2.2.1 w.2.2.2.1 (fun i => w.2.2.2.2 (M.1 i) (M.2 i) i))[i]? = some (w.2.2.2.1 i, .inl (cA, n, .inl f)) := by rw [gws_get hi, hF]
  refine va_zald hC.1 hC.2.1 hC.2.2.2.2.2.2.2.1 hP i t0 he ht (vp_in_nI hj hn) hd ?_
  rw [nI_clamp (by omega), hx]
  exact kk H locs ls hP hS hL
theorem g_lald (hC : gC X w cc nL own ret d) (i t0 j : Nat) {cA : ClassId} {n : Nat} {f : Nat → Int64} {x : Int64} (hi : i < w.2.2.1) (hF : w.2.2.2.2 (M.1 i) (M.2 i) i = .inl (cA, n, .inr (.inl f))) (ht : w.2.1[t0]? = some (cA, .long)) (hj : j < n) (hn : n < 2147483648) (hx : f j = x) (hd : decode cc pc = .ok (.laload, 1)) (kk : gG X w post nL M (pc + 1) L (.long x :: st)) : gG X w post nL M pc L (.int (nI j) :: .ref (w.2.2.2.1 i) :: st) := by
  intro H locs ls hP hS hL
  have he : (gws w.2.2.1 w.2.2.2.1 (fun i => w.2.2.2.2 (M.1 i) (M.2 i) i))[i]? = some (w.2.2.2.1 i, .inl (cA, n, .inr (.inl f))) := by rw [gws_get hi, hF]
  refine va_lald hC.1 hC.2.1 hC.2.2.2.2.2.2.2.1 hP i t0 he ht (vp_in_nI hj hn) hd ?_
  rw [nI_clamp (by omega), hx]
  exact kk H locs ls hP hS hL
theorem g_aald (hC : gC X w cc nL own ret d) (i t0 j : Nat) {cA : ClassId} {C : String} {n a : Nat} {f : Nat → Option Nat} (hi : i < w.2.2.1) (hF : w.2.2.2.2 (M.1 i) (M.2 i) i = .inl (cA, n, .inr (.inr (.inr (.inr f))))) (ht : w.2.1[t0]? = some (cA, .object C)) (hj : j < n) (hn : n < 2147483648) (hx : f j = some a) (hd : decode cc pc = .ok (.aaload, 1)) (kk : gG X w post nL M (pc + 1) L (.ref a :: st)) : gG X w post nL M pc L (.int (nI j) :: .ref (w.2.2.2.1 i) :: st) := by
  intro H locs ls hP hS hL
  have he : (gws w.2.2.1 w.2.2.2.1 (fun i => w.2.2.2.2 (M.1 i) (M.2 i) i))[i]? = some (w.2.2.2.1 i, .inl (cA, n, .inr (.inr (.inr (.inr f))))) := by rw [gws_get hi, hF]
  refine va_aldq hC.1 hC.2.1 hC.2.2.2.2.2.2.2.1 hP i t0 he ht (vp_in_nI hj hn) hd ?_
  rw [nI_clamp (by omega), hx]
  exact kk H locs ls hP hS hL
theorem g_alen (hC : gC X w cc nL own ret d) (i t0 : Nat) {cA : ClassId} {x : vp_A} {ty : FieldType} (hi : i < w.2.2.1) (hF : w.2.2.2.2 (M.1 i) (M.2 i) i = .inl (cA, x)) (ht : w.2.1[t0]? = some (cA, ty)) (hd : decode cc pc = .ok (.arraylength, 1)) (kk : gG X w post nL M (pc + 1) L (.int (nI x.1) :: st)) : gG X w post nL M pc L (.ref (w.2.2.2.1 i) :: st) := by
  intro H locs ls hP hS hL
  have he : (gws w.2.2.1 w.2.2.2.1 (fun i => w.2.2.2.2 (M.1 i) (M.2 i) i))[i]? = some (w.2.2.2.1 i, .inl (cA, x)) := by rw [gws_get hi, hF]
  exact va_alen hC.1 hC.2.1 hC.2.2.2.2.2.2.2.1 hP i t0 he ht rfl hd (kk H locs ls hP hS hL)
theorem g_iast (hC : gC X w cc nL own ret d) (i t0 j : Nat) {cA : ClassId} {n : Nat} {f : Nat → Int32} {x : Int32} (hi : i < w.2.2.1) (hF : w.2.2.2.2 (M.1 i) (M.2 i) i = .inl (cA, n, .inl f)) (hF' : w.2.2.2.2 (upd (M.1 i) j x) (M.2 i) i = .inl (cA, n, .inl (upd f j x))) (ht : w.2.1[t0]? = some (cA, .int)) (hj : j < n) (hn : n < 2147483648) (hd : decode cc pc = .ok (.iastore, 1)) (kk : gG X w post nL (gupd M i j x) (pc + 1) L st) : gG X w post nL M pc L (.int x :: .int (nI j) :: .ref (w.2.2.2.1 i) :: st) := by
  intro H locs ls hP hS hL
  have he : (gws w.2.2.1 w.2.2.2.1 (fun i => w.2.2.2.2 (M.1 i) (M.2 i) i))[i]? = some (w.2.2.2.1 i, .inl (cA, n, .inl f)) := by rw [gws_get hi, hF]
  have hset := gws_set (n := w.2.2.1) (ad := w.2.2.2.1) (gup_at (M := M) hF')
  refine va_iast hC.1 hC.2.1 hC.2.2.2.2.2.2.2.1 hP (gI.D hC.2.2.2.2.2.2.2.2.1 _) hS i t0 he ht (vp_in_nI hj hn) hd (fun H1 locs1 hP1 _ hS1 => ?_)
  rw [nI_clamp (by omega), hset] at hP1
  exact kk H1 locs1 ls hP1 hS1 hL
theorem g_zast (hC : gC X w cc nL own ret d) (i t0 j : Nat) {cA : ClassId} {n : Nat} {f : Nat → Int32} {x : Int32} (hx : x = 0 ∨ x = 1) (hi : i < w.2.2.1) (hF : w.2.2.2.2 (M.1 i) (M.2 i) i = .inl (cA, n, .inl f)) (hF' : w.2.2.2.2 (upd (M.1 i) j x) (M.2 i) i = .inl (cA, n, .inl (upd f j x))) (ht : w.2.1[t0]? = some (cA, .boolean)) (hj : j < n) (hn : n < 2147483648) (hd : decode cc pc = .ok (.bastore, 1)) (kk : gG X w post nL (gupd M i j x) (pc + 1) L st) : gG X w post nL M pc L (.int x :: .int (nI j) :: .ref (w.2.2.2.1 i) :: st) := by
  intro H locs ls hP hS hL
  have he : (gws w.2.2.1 w.2.2.2.1 (fun i => w.2.2.2.2 (M.1 i) (M.2 i) i))[i]? = some (w.2.2.2.1 i, .inl (cA, n, .inl f)) := by rw [gws_get hi, hF]
  have hset := gws_set (n := w.2.2.1) (ad := w.2.2.2.1) (gup_at (M := M) hF')
  have hx' : vp_nar .boolean x = x := by rcases hx with rfl | rfl <;> rfl
  refine va_zast hC.1 hC.2.1 hC.2.2.2.2.2.2.2.1 hP (gI.D hC.2.2.2.2.2.2.2.2.1 _) hS i t0 he ht (vp_in_nI hj hn) hd (fun H1 locs1 hP1 _ hS1 => ?_)
  rw [nI_clamp (by omega), hx', hset] at hP1
  exact kk H1 locs1 ls hP1 hS1 hL
theorem g_last (hC : gC X w cc nL own ret d) (i t0 j : Nat) {cA : ClassId} {n : Nat} {f : Nat → Int64} {x : Int64} (hi : i < w.2.2.1) (hF : w.2.2.2.2 (M.1 i) (M.2 i) i = .inl (cA, n, .inr (.inl f))) (hF' : w.2.2.2.2 (M.1 i) (vp_updL (M.2 i) j x) i = .inl (cA, n, .inr (.inl (vp_updL f j x)))) (ht : w.2.1[t0]? = some (cA, .long)) (hj : j < n) (hn : n < 2147483648) (hd : decode cc pc = .ok (.lastore, 1)) (kk : gG X w post nL (gupL M i j x) (pc + 1) L st) : gG X w post nL M pc L (.long x :: .int (nI j) :: .ref (w.2.2.2.1 i) :: st) := by
  intro H locs ls hP hS hL
  have he : (gws w.2.2.1 w.2.2.2.1 (fun i => w.2.2.2.2 (M.1 i) (M.2 i) i))[i]? = some (w.2.2.2.1 i, .inl (cA, n, .inr (.inl f))) := by rw [gws_get hi, hF]
  have hset := gws_set (n := w.2.2.1) (ad := w.2.2.2.1) (gupL_at (M := M) hF')
  refine va_last hC.1 hC.2.1 hC.2.2.2.2.2.2.2.1 hP (gI.D hC.2.2.2.2.2.2.2.2.1 _) hS i t0 he ht (vp_in_nI hj hn) hd (fun H1 locs1 hP1 _ hS1 => ?_)
  rw [nI_clamp (by omega), hset] at hP1
  exact kk H1 locs1 ls hP1 hS1 hL
-- calls
theorem g_goes (hC : gC X w cc nL own ret d) {st0 : List Value} {post' : Option Value → gM → Prop} {a : Array Value} (hr : ∀ (H : Heap) (locs : List Loc) (ls : Array Slot), gPic w M H → ls.size = nL → va_Run X.1 X.2.1 X.2.2.1 X.2.2.2.1 X.2.2.2.2.1 X.2.2.2.2.2.1 X.2.2.2.2.2.2.1 X.2.2.2.2.2.2.2.1 X.2.2.2.2.2.2.2.2.1 X.2.2.2.2.2.2.2.2.2 H locs 0 0 0 0 (F0 X.2.2.2.2.2.1 pc ls st0) st (gQ w post' a) (gA w))
    (kk : ∀ (v : Option Value) (M' : gM), post' v M' → gG X w post nL M' (pc + 3) L (v.toList ++ st)) : gG X w post nL M pc L st0 := by
  intro H locs ls hP hS hL T hT XT
  obtain ⟨v, st₀, t, T', Lc, h0, X', hLc, e1, e2, ⟨⟨v', M', hv, hp, hpic⟩, hz, hk⟩, go⟩ := hr H locs ls hP hL.1 T hT XT
  cases hv
  rw [h0] at hz hk
  obtain ⟨t2, a1, b1⟩ := kk v M' hp T'.heap (locs ++ Lc) ls (by rw [e1]; exact hpic)
    ⟨Nat.le_trans hS.1 (by rw [e1]; exact hz), fun q h1 h2 => by rw [e1, hk q (Nat.lt_of_lt_of_le h1 hS.1) h2]; exact hS.2.1 q h1 h2, fun q hq => by
      rcases List.mem_append.mp hq with h | h
      · exact hS.2.2 q h
      · exact hLc q h⟩ hL T' rfl X'
  exact ⟨t2, go t2 a1, b1⟩
theorem g_room (hC : gC X w cc nL own ret d) {d' maxL : Nat} (hd : d' < d) (hm : maxL ≤ 30) : (gRm d').frames + 1 ≤ X.2.2.2.1.frames ∧ 8 + (maxL + 11) + (gRm d').locals ≤ X.2.2.2.1.locals := by
  obtain ⟨-, -, -, -, -, -, -, -, -, -, h1, h2⟩ := hC
  constructor
  · show d' + 1 ≤ _; omega
  · show 8 + (maxL + 11) + 64 * d' ≤ _; omega
theorem g_callV (hC : gC X w cc nL own ret d) {idx d' maxL n i ci : Nat} {y : MethodName} {bytes : ByteArray} {ret' : Option FieldType} {As st0 : List Value} {post' : Option Value → gM → Prop} {fs : List Value} {q : vw_C} (hct : gCt w y bytes maxL ret' d' (.ref (w.2.2.2.1 i) :: As) M post') (hf : gVf y bytes maxL ret' n) (hlk : Cond.methodLink own idx y ∈ gTb) (hd' : d' < d) (hi : i < w.2.2.1) (hF : w.2.2.2.2 (M.1 i) (M.2 i) i = .inr (ci, fs)) (hc : vwCl[ci]? = some q) (hq : q.1 = y.cls) (hn : As.length = n) (hst : st0 = As.reverse ++ .ref (w.2.2.2.1 i) :: st) (hcat : (st.map fun v => v.category).sum ≤ 8) (hd : decode cc pc = .ok (.invokevirtual idx, 3))
    (kk : ∀ (v : Option Value) (M' : gM), post' v M' → gG X w post nL M' (pc + 3) L (v.toList ++ st)) : gG X w post nL M pc L st0 := by
  refine g_goes hC (a := (Value.ref (w.2.2.2.1 i) :: As).toArray) (fun H locs ls hP hls => ?_) kk
  obtain ⟨f1, f2, f3, f4, f5, f6⟩ := hf
  have he : (gws w.2.2.1 w.2.2.2.1 (fun i => w.2.2.2.2 (M.1 i) (M.2 i) i))[i]? = some (w.2.2.2.1 i, .inr (ci, fs)) := by rw [gws_get hi, hF]
  have hts := hC.2.2.2.2.1
  exact va_runV (As := As) (rest := st) (C := y.cls) (n := n) ⟨hC.1, hC.2.1, hC.2.2.1, hC.2.2.2.1, hts⟩ (hct X.2.1) ⟨callB_of n hts (gTb_code f4) rfl rfl rfl (hts _ f3) (hts _ hlk) f5 (g_room hC hd' f6), hts _ f1, hts _ f2⟩
    ⟨gBlind, by rw [← hq]; exact va_recv hC.2.2.2.2.2.2.2.1 hP hc he, fun U hU hW => ⟨rfl, by rw [hU]; exact hP, va_K.moved hW.alike hC.2.2.2.2.2.2.2.1, hC.2.2.2.2.2.2.2.2.1, gN.warm hW hC.2.2.2.2.2.2.2.2.2.1⟩⟩ rfl hn hls hst (lv_room hcat) hd ⟨Nat.zero_le _, Nat.zero_le _⟩
theorem g_callS (hC : gC X w cc nL own ret d) {idx d' maxL n : Nat} {y : MethodName} {bytes : ByteArray} {ret' : Option FieldType} {As st0 : List Value} {post' : Option Value → gM → Prop} (hct : gCt w y bytes maxL ret' d' As M post') (hf : gSf y bytes maxL ret' n) (hlk : Cond.methodLink own idx y ∈ gTb) (hd' : d' < d) (hn : As.length = n) (hst : st0 = As.reverse ++ st) (hcat : (st.map fun v => v.category).sum ≤ 8) (hd : decode cc pc = .ok (.invokestatic idx, 3))
    (kk : ∀ (v : Option Value) (M' : gM), post' v M' → gG X w post nL M' (pc + 3) L (v.toList ++ st)) : gG X w post nL M pc L st0 := by
  refine g_goes hC (a := As.toArray) (fun H locs ls hP hls => ?_) kk
  obtain ⟨f1, f3, f4, f5, f6⟩ := hf
  have hts := hC.2.2.2.2.1
  exact va_runS (As := As) (rest := st) (n := n) ⟨hC.1, hC.2.1, hC.2.2.1, hC.2.2.2.1, hts⟩ (hct X.2.1) ⟨callB_of n hts (gTb_code f4) rfl rfl rfl (hts _ f3) (hts _ hlk) f5 (g_room hC hd' f6), hts _ f1⟩
    ⟨gBlind, fun U hU hW => ⟨rfl, by rw [hU]; exact hP, va_K.moved hW.alike hC.2.2.2.2.2.2.2.1, hC.2.2.2.2.2.2.2.2.1, gN.warm hW hC.2.2.2.2.2.2.2.2.2.1⟩⟩ rfl hn hls hst (lv_room hcat) hd ⟨Nat.zero_le _, Nat.zero_le _⟩
theorem g_callSN (hC : gC X w cc nL own ret d) {idx d' maxL n : Nat} {host : String} {y : MethodName} {bytes : ByteArray} {ret' : Option FieldType} {As st0 : List Value} {post' : Option Value → gM → Prop} (hct : gCt w y bytes maxL ret' d' As M post') (hf : gSf y bytes maxL ret' n) (hlk : Cond.methodLinkNest own idx y host ∈ lw_tbl) (hd' : d' < d) (hn : As.length = n) (hst : st0 = As.reverse ++ st) (hcat : (st.map fun v => v.category).sum ≤ 8) (hd : decode cc pc = .ok (.invokestatic idx, 3))
    (kk : ∀ (v : Option Value) (M' : gM), post' v M' → gG X w post nL M' (pc + 3) L (v.toList ++ st)) : gG X w post nL M pc L st0 := by
  refine g_goes hC (a := As.toArray) (fun H locs ls hP hls => ?_) kk
  obtain ⟨f1, f3, f4, f5, f6⟩ := hf
  have hts := hC.2.2.2.2.1
  exact va_runSN (As := As) (rest := st) (n := n) (host := host) ⟨hC.1, hC.2.1, hC.2.2.1, hC.2.2.2.1, hts⟩ (hct X.2.1) ⟨va_cnB n hts (gTb_code f4) rfl rfl rfl (hC.2.2.2.2.2.2.2.2.2.1 _ hlk rfl) (hts _ f3) f5 (g_room hC hd' f6), hts _ f1, trivial⟩
    ⟨gBlind, fun U hU hW => ⟨rfl, by rw [hU]; exact hP, va_K.moved hW.alike hC.2.2.2.2.2.2.2.1, hC.2.2.2.2.2.2.2.2.1, gN.warm hW hC.2.2.2.2.2.2.2.2.2.1⟩⟩ rfl hn hls hst (lv_room hcat) hd ⟨Nat.zero_le _, Nat.zero_le _⟩
end Rows2
