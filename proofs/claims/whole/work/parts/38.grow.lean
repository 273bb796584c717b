/-! THE GROWING WORLD: cells one behind another from 'base' on; and rows over any picture I of the heap -/
def kw (base : Nat) (l : List va_E) : va_W := (List.range l.length).map fun j => (base + j, l.getD j (.inr (0, [])))
theorem kw_get {base : Nat} {l : List va_E} {j : Nat} {e : va_E} (h : l[j]? = some e) : (kw base l)[j]? = some (base + j, e) := by
  have hj : j < l.length := (List.getElem?_eq_some_iff.mp h).1
  unfold kw
  rw [List.getElem?_map, List.getElem?_range hj]
  show some (base + j, l.getD j _) = _
  rw [List.getD_eq_getElem?_getD, h]; rfl
theorem kw_of {base : Nat} {l : List va_E} {j : Nat} {q : Nat × va_E} (h : (kw base l)[j]? = some q) : ∃ e, l[j]? = some e ∧ q = (base + j, e) := by
  have hj : j < l.length := by
    have := (List.getElem?_eq_some_iff.mp h).1
    simpa [kw] using this
  have h1 : l[j]? = some l[j] := List.getElem?_eq_getElem hj
  rw [kw_get h1] at h
  exact ⟨_, h1, (Option.some.inj h).symm⟩
theorem kw_len (base : Nat) (l : List va_E) : (kw base l).length = l.length := by simp [kw]
theorem kw_set {base : Nat} {l : List va_E} {i : Nat} {e : va_E} : (kw base l).set i (base + i, e) = kw base (l.set i e) := by
  apply List.ext_getElem?
  intro j
  rw [List.getElem?_set]
  by_cases hj : j < l.length
  · by_cases e1 : i = j
    · subst e1
      rw [if_pos rfl, if_pos (by rw [kw_len]; exact hj)]
      exact (kw_get (by rw [List.getElem?_set, if_pos rfl, if_pos hj])).symm
    · rw [if_neg e1]
      have h1 : l[j]? = some l[j] := List.getElem?_eq_getElem hj
      rw [kw_get h1, kw_get (by rw [List.getElem?_set, if_neg e1]; exact h1)]
  · have l1 := kw_len base l
    have l2 := kw_len base (l.set i e)
    rw [List.length_set] at l2
    rw [List.getElem?_eq_none (l := kw base (l.set i e)) (by omega)]
    by_cases e1 : i = j
    · rw [if_pos e1, if_neg (by omega)]
    · rw [if_neg e1, List.getElem?_eq_none (by omega)]
def kA (base : Nat) : Nat → Prop := fun q => base ≤ q
theorem kw_D (base : Nat) (l : List va_E) : va_D (kA base) (kw base l) := by
  refine ⟨fun i j p q hp hq h => ?_, fun k q hq => ?_⟩
  · obtain ⟨e1, h1, rfl⟩ := kw_of hp
    obtain ⟨e2, h2, rfl⟩ := kw_of hq
    have h3 : base + i = base + j := h
    omega
  · obtain ⟨e1, h1, rfl⟩ := kw_of hq
    show base ≤ base + k
    omega
theorem kw_app {D : va_G} {base : Nat} {l1 l2 : List va_E} {H : Heap} (h1 : va_P D vwCl (kw base l1) H) (h2 : va_P D vwCl (kw (base + l1.length) l2) H) : va_P D vwCl (kw base (l1 ++ l2)) H := by
  intro k q hq
  obtain ⟨e, he, rfl⟩ := kw_of hq
  by_cases hk : k < l1.length
  · rw [List.getElem?_append_left hk] at he
    exact h1 k _ (kw_get he)
  · rw [List.getElem?_append_right (by omega)] at he
    have h3 := h2 (k - l1.length) _ (kw_get he)
    rw [show base + l1.length + (k - l1.length) = base + k by omega] at h3
    exact h3
theorem kw_left {D : va_G} {base : Nat} {l1 l2 : List va_E} {H : Heap} (h : va_P D vwCl (kw base (l1 ++ l2)) H) : va_P D vwCl (kw base l1) H := by
  intro k q hq
  obtain ⟨e, he, rfl⟩ := kw_of hq
  have hk : k < l1.length := (List.getElem?_eq_some_iff.mp he).1
  exact h k _ (kw_get (by rw [List.getElem?_append_left hk]; exact he))
theorem kw_right {D : va_G} {base : Nat} {l1 l2 : List va_E} {H : Heap} (h : va_P D vwCl (kw base (l1 ++ l2)) H) : va_P D vwCl (kw (base + l1.length) l2) H := by
  intro k q hq
  obtain ⟨e, he, rfl⟩ := kw_of hq
  have h3 := h (l1.length + k) _ (kw_get (base := base) (by rw [List.getElem?_append_right (by omega), show l1.length + k - l1.length = k by omega]; exact he))
  rw [show base + (l1.length + k) = base + l1.length + k by omega] at h3
  exact h3
theorem kw_kept {D : va_G} {base : Nat} {l : List va_E} {H H1 : Heap} (h : va_P D vwCl (kw base l) H) (e : ∀ q, base ≤ q → q < base + l.length → H1[q]? = H[q]?) : va_P D vwCl (kw base l) H1 := h.kept (fun k q hq => by
  obtain ⟨x, he, rfl⟩ := kw_of hq
  have hk : k < l.length := (List.getElem?_eq_some_iff.mp he).1
  exact e _ (Nat.le_add_right _ _) (Nat.add_lt_add_left hk _))
def kAO (U : State) : Prop := va_AO "BowBend$Place" U ∧ va_AO "BowBend$Slot" U ∧ va_AO "BowBend$Wood" U
theorem kAO.moved {u U : State} (hvm : u.vm.Alike U.vm) (h : kAO u) : kAO U := ⟨h.1.moved hvm, h.2.1.moved hvm, h.2.2.moved hvm⟩
def kG (X : gX) (I : Heap → List Loc → Prop) (Q : State → Prop) (nc ns nL pc : Nat) (L : List (Nat × Value)) (st : List Value) : Prop :=
  ∀ (H : Heap) (locs : List Loc) (ls : Array Slot), I H locs → lv_has ls nL L →
    W X.1 X.2.1 X.2.2.1 X.2.2.2.1 X.2.2.2.2.1 X.2.2.2.2.2.1 X.2.2.2.2.2.2.1 X.2.2.2.2.2.2.2.1 X.2.2.2.2.2.2.2.2.1 X.2.2.2.2.2.2.2.2.2 H locs nc ns Q (F0 X.2.2.2.2.2.1 pc ls st)
def kC (X : gX) (D : va_G) (cy : Nat → ClassId) (cc : ByteArray) (nL : Nat) (own : String) (d : Nat) : Prop :=
  X.1.tables.exec = Jvm.exec ∧ X.2.2.2.2.2.2.2.2.2.code = cc ∧ X.2.2.2.2.2.2.2.2.2.maxLocals = nL ∧ X.2.2.2.2.1.vm.findClass own = some X.2.2.2.2.2.1.cls ∧ (∀ w ∈ gTb, w.before X.2.2.2.2.2.2.1 X.2.2.2.2.1 = true) ∧
  va_K D vwCl (gTys cy) X.2.2.2.2.1 ∧ gN X.2.2.2.2.1 ∧ kAO X.2.2.2.2.1 ∧ d ≤ X.2.2.2.1.frames ∧ 64 * d ≤ X.2.2.2.1.locals ∧ X.2.2.2.2.2.2.2.2.1.locks = false
/-- the picture of a growing world -/
def kI (X : gX) (D : va_G) (base : Nat) (l : List va_E) : Heap → List Loc → Prop := fun H locs => va_P D vwCl (kw base l) H ∧ H.size = base + l.length ∧ va_S (kA base) X.2.2.2.2.1.heap H locs
section KRows
variable {X : gX} {D : va_G} {cy : Nat → ClassId} {I : Heap → List Loc → Prop} {Q : State → Prop} {nc ns nL pc : Nat} {L : List (Nat × Value)} {st : List Value} {cc : ByteArray} {own : String} {d : Nat}
theorem k_sub (ks : List Nat) {L' : List (Nat × Value)} (hl : lv_pick L ks = L') (k : kG X I Q nc ns nL pc L' st) : kG X I Q nc ns nL pc L st := fun H locs ls hI hL => k H locs ls hI (lv_sub hL ks hl)
theorem k_iconst (hC : kC X D cy cc nL own d) {n : Int} {v : Int32} (hd : decode cc pc = .ok (.iconst n, 1)) (hv : Int32.ofInt n = v) (k : kG X I Q nc ns nL (pc + 1) L (.int v :: st)) : kG X I Q nc ns nL pc L st := fun H locs ls hI hL => lv_iconst hC.1 hC.2.1 hd hv (k H locs ls hI hL)
theorem k_bipush (hC : kC X D cy cc nL own d) {n : Int} {v : Int32} (hd : decode cc pc = .ok (.bipush n, 2)) (hv : (Int8.ofInt n).toInt32 = v) (k : kG X I Q nc ns nL (pc + 2) L (.int v :: st)) : kG X I Q nc ns nL pc L st := fun H locs ls hI hL => lv_bipush hC.1 hC.2.1 hd hv (k H locs ls hI hL)
theorem k_sipush (hC : kC X D cy cc nL own d) {n : Int} {v : Int32} (hd : decode cc pc = .ok (.sipush n, 3)) (hv : (Int16.ofInt n).toInt32 = v) (k : kG X I Q nc ns nL (pc + 3) L (.int v :: st)) : kG X I Q nc ns nL pc L st := fun H locs ls hI hL => lv_sipush hC.1 hC.2.1 hd hv (k H locs ls hI hL)
theorem k_ldc2 (hC : kC X D cy cc nL own d) {i : Nat} {v : Int64} (hc : Cond.constantLong own i v ∈ gTb) {v' : Int64} (hv : v = v') (hd : decode cc pc = .ok (.ldc2_w i, 3)) (k : kG X I Q nc ns nL (pc + 3) L (.long v' :: st)) : kG X I Q nc ns nL pc L st := by
  subst hv
  exact fun H locs ls hI hL => lv_ldc2 hC.1 hC.2.1 hC.2.2.2.1 (hC.2.2.2.2.1 _ hc) hd (k H locs ls hI hL)
theorem k_iload_n (hC : kC X D cy cc nL own d) {i : Fin 4} {x : Int32} (hd : decode cc pc = .ok (.iload_n i, 1)) (hl : lvg L i = some (.int x)) (k : kG X I Q nc ns nL (pc + 1) L (.int x :: st)) : kG X I Q nc ns nL pc L st := fun H locs ls hI hL => lv_iload_n hC.1 hC.2.1 hd rfl (lvg_at hL hl) (k H locs ls hI hL)
theorem k_iload (hC : kC X D cy cc nL own d) {i : Nat} {x : Int32} (hd : decode cc pc = .ok (.iload i, 2)) (hl : lvg L i = some (.int x)) (k : kG X I Q nc ns nL (pc + 2) L (.int x :: st)) : kG X I Q nc ns nL pc L st := fun H locs ls hI hL => lv_iload hC.1 hC.2.1 hd (lvg_at hL hl) (k H locs ls hI hL)
theorem k_aload_n (hC : kC X D cy cc nL own d) {i : Fin 4} {x : Nat} (hd : decode cc pc = .ok (.aload_n i, 1)) (hl : lvg L i = some (.ref x)) (k : kG X I Q nc ns nL (pc + 1) L (.ref x :: st)) : kG X I Q nc ns nL pc L st := fun H locs ls hI hL => lv_aload_n hC.1 hC.2.1 hd rfl (lvg_at hL hl) (k H locs ls hI hL)
theorem k_aload (hC : kC X D cy cc nL own d) {i : Nat} {x : Nat} (hd : decode cc pc = .ok (.aload i, 2)) (hl : lvg L i = some (.ref x)) (k : kG X I Q nc ns nL (pc + 2) L (.ref x :: st)) : kG X I Q nc ns nL pc L st := fun H locs ls hI hL => lv_aload hC.1 hC.2.1 hd (lvg_at hL hl) (k H locs ls hI hL)
theorem k_istore_n (hC : kC X D cy cc nL own d) {i : Fin 4} {x : Int32} (hd : decode cc pc = .ok (.istore_n i, 1)) (hn : (i : Nat) < nL) {L' : List (Nat × Value)} (hl : ((i : Nat), Value.int x) :: L.filter (fun q => !(q.1 == (i : Nat)) && !(q.1 + 1 == (i : Nat) && q.2.category == 2)) = L') (k : kG X I Q nc ns nL (pc + 1) L' st) : kG X I Q nc ns nL pc L (.int x :: st) := fun H locs ls hI hL => lv_istore_n hC.1 hC.2.1 hd rfl hL hn hl (fun ls hL => k H locs ls hI hL)
theorem k_istore (hC : kC X D cy cc nL own d) {i : Nat} {x : Int32} (hd : decode cc pc = .ok (.istore i, 2)) (hn : i < nL) {L' : List (Nat × Value)} (hl : (i, Value.int x) :: L.filter (fun q => !(q.1 == i) && !(q.1 + 1 == i && q.2.category == 2)) = L') (k : kG X I Q nc ns nL (pc + 2) L' st) : kG X I Q nc ns nL pc L (.int x :: st) := fun H locs ls hI hL => lv_istore hC.1 hC.2.1 hd hL hn hl (fun ls hL => k H locs ls hI hL)
theorem k_astore_n (hC : kC X D cy cc nL own d) {i : Fin 4} {x : Nat} (hd : decode cc pc = .ok (.astore_n i, 1)) (hn : (i : Nat) < nL) {L' : List (Nat × Value)} (hl : ((i : Nat), Value.ref x) :: L.filter (fun q => !(q.1 == (i : Nat)) && !(q.1 + 1 == (i : Nat) && q.2.category == 2)) = L') (k : kG X I Q nc ns nL (pc + 1) L' st) : kG X I Q nc ns nL pc L (.ref x :: st) := fun H locs ls hI hL => lv_astore_n hC.1 hC.2.1 hd rfl hL hn hl (fun ls hL => k H locs ls hI hL)
theorem k_iinc (hC : kC X D cy cc nL own d) {i : Nat} {n : Int} {x v : Int32} (hd : decode cc pc = .ok (.iinc i n, 3)) (hg : lvg L i = some (.int x)) (hv : x + Int32.ofInt n = v) (hn : i < nL) {L' : List (Nat × Value)} (hl : (i, Value.int v) :: L.filter (fun q => !(q.1 == i) && !(q.1 + 1 == i && q.2.category == 2)) = L') (k : kG X I Q nc ns nL (pc + 3) L' st) : kG X I Q nc ns nL pc L st := by
  obtain ⟨j, hj⟩ := lvg_idx hg
  exact fun H locs ls hI hL => lv_iinc hC.1 hC.2.1 hd hL hj hv hn hl (fun ls hL => k H locs ls hI hL)
theorem k_iadd (hC : kC X D cy cc nL own d) {x y v : Int32} (hd : decode cc pc = .ok (.iadd, 1)) (hv : x + y = v) (k : kG X I Q nc ns nL (pc + 1) L (.int v :: st)) : kG X I Q nc ns nL pc L (.int y :: .int x :: st) := by subst hv; exact fun H locs ls hI hL => lv_iadd hC.1 hC.2.1 hd (k H locs ls hI hL)
theorem k_isub (hC : kC X D cy cc nL own d) {x y v : Int32} (hd : decode cc pc = .ok (.isub, 1)) (hv : x - y = v) (k : kG X I Q nc ns nL (pc + 1) L (.int v :: st)) : kG X I Q nc ns nL pc L (.int y :: .int x :: st) := by subst hv; exact fun H locs ls hI hL => lv_isub hC.1 hC.2.1 hd (k H locs ls hI hL)
theorem k_imul (hC : kC X D cy cc nL own d) {x y v : Int32} (hd : decode cc pc = .ok (.imul, 1)) (hv : x * y = v) (k : kG X I Q nc ns nL (pc + 1) L (.int v :: st)) : kG X I Q nc ns nL pc L (.int y :: .int x :: st) := by subst hv; exact fun H locs ls hI hL => lv_imul hC.1 hC.2.1 hd (k H locs ls hI hL)
theorem k_iand (hC : kC X D cy cc nL own d) {x y v : Int32} (hd : decode cc pc = .ok (.iand, 1)) (hv : x &&& y = v) (k : kG X I Q nc ns nL (pc + 1) L (.int v :: st)) : kG X I Q nc ns nL pc L (.int y :: .int x :: st) := by subst hv; exact fun H locs ls hI hL => lv_iand hC.1 hC.2.1 hd (k H locs ls hI hL)
theorem k_idiv (hC : kC X D cy cc nL own d) {x y v : Int32} (hd : decode cc pc = .ok (.idiv, 1)) (h0 : ¬ y = 0) (hv : x / y = v) (k : kG X I Q nc ns nL (pc + 1) L (.int v :: st)) : kG X I Q nc ns nL pc L (.int y :: .int x :: st) := by subst hv; exact fun H locs ls hI hL => lv_idiv hC.1 hC.2.1 hd h0 (k H locs ls hI hL)
theorem k_irem (hC : kC X D cy cc nL own d) {x y v : Int32} (hd : decode cc pc = .ok (.irem, 1)) (h0 : ¬ y = 0) (hv : x - x / y * y = v) (k : kG X I Q nc ns nL (pc + 1) L (.int v :: st)) : kG X I Q nc ns nL pc L (.int y :: .int x :: st) := by subst hv; exact fun H locs ls hI hL => lv_irem hC.1 hC.2.1 hd h0 (k H locs ls hI hL)
theorem k_i2l (hC : kC X D cy cc nL own d) {x : Int32} {v : Int64} (hd : decode cc pc = .ok (.i2l, 1)) (hv : x.toInt64 = v) (k : kG X I Q nc ns nL (pc + 1) L (.long v :: st)) : kG X I Q nc ns nL pc L (.int x :: st) := fun H locs ls hI hL => lv_i2l hC.1 hC.2.1 hd hv (k H locs ls hI hL)
theorem k_lcmp (hC : kC X D cy cc nL own d) {x y : Int64} (hd : decode cc pc = .ok (.lcmp, 1)) (k : kG X I Q nc ns nL (pc + 1) L (.int (lg_cmp x y) :: st)) : kG X I Q nc ns nL pc L (.long y :: .long x :: st) := fun H locs ls hI hL => W.lcmp hC.1 hC.2.1 hd (k H locs ls hI hL)
theorem k_dup (hC : kC X D cy cc nL own d) {v : Value} (hd : decode cc pc = .ok (.dup, 1)) (hv : v.category = 1) (k : kG X I Q nc ns nL (pc + 1) L (v :: v :: st)) : kG X I Q nc ns nL pc L (v :: st) := fun H locs ls hI hL => lv_dup hC.1 hC.2.1 hd hv (k H locs ls hI hL)
theorem k_goto (hC : kC X D cy cc nL own d) {off : Int} (hd : decode cc pc = .ok (.goto off, 3)) (tgt : Nat) (ht : (pc : Int) + off = (tgt : Int)) (k : kG X I Q nc ns nL tgt L st) : kG X I Q nc ns nL pc L st := fun H locs ls hI hL => lv_goto hC.1 hC.2.1 hd ht (k H locs ls hI hL)
theorem k_if_eq (hC : kC X D cy cc nL own d) {x : Int32} {off : Int} (hd : decode cc pc = .ok (.ifCond .eq off, 3)) (tgt : Nat) (ht : (pc : Int) + off = (tgt : Int)) (kt : x = 0 → kG X I Q nc ns nL tgt L st) (kf : ¬ x = 0 → kG X I Q nc ns nL (pc + 3) L st) : kG X I Q nc ns nL pc L (.int x :: st) := fun H locs ls hI hL => lv_if_eq hC.1 hC.2.1 hd ht (fun h => kt h H locs ls hI hL) (fun h => kf h H locs ls hI hL)
theorem k_if_ne (hC : kC X D cy cc nL own d) {x : Int32} {off : Int} (hd : decode cc pc = .ok (.ifCond .ne off, 3)) (tgt : Nat) (ht : (pc : Int) + off = (tgt : Int)) (kt : ¬ x = 0 → kG X I Q nc ns nL tgt L st) (kf : x = 0 → kG X I Q nc ns nL (pc + 3) L st) : kG X I Q nc ns nL pc L (.int x :: st) := fun H locs ls hI hL => lv_if_ne hC.1 hC.2.1 hd ht (fun h => kt h H locs ls hI hL) (fun h => kf h H locs ls hI hL)
theorem k_if_lt (hC : kC X D cy cc nL own d) {x : Int32} {off : Int} (hd : decode cc pc = .ok (.ifCond .lt off, 3)) (tgt : Nat) (ht : (pc : Int) + off = (tgt : Int)) (kt : x < 0 → kG X I Q nc ns nL tgt L st) (kf : ¬ x < 0 → kG X I Q nc ns nL (pc + 3) L st) : kG X I Q nc ns nL pc L (.int x :: st) := fun H locs ls hI hL => lv_if_lt hC.1 hC.2.1 hd ht (fun h => kt h H locs ls hI hL) (fun h => kf h H locs ls hI hL)
theorem k_icmp_eq (hC : kC X D cy cc nL own d) {x y : Int32} {off : Int} (hd : decode cc pc = .ok (.if_icmp .eq off, 3)) (tgt : Nat) (ht : (pc : Int) + off = (tgt : Int)) (kt : x = y → kG X I Q nc ns nL tgt L st) (kf : ¬ x = y → kG X I Q nc ns nL (pc + 3) L st) : kG X I Q nc ns nL pc L (.int y :: .int x :: st) := fun H locs ls hI hL => lv_icmp_eq hC.1 hC.2.1 hd ht (fun h => kt h H locs ls hI hL) (fun h => kf h H locs ls hI hL)
theorem k_icmp_ne (hC : kC X D cy cc nL own d) {x y : Int32} {off : Int} (hd : decode cc pc = .ok (.if_icmp .ne off, 3)) (tgt : Nat) (ht : (pc : Int) + off = (tgt : Int)) (kt : ¬ x = y → kG X I Q nc ns nL tgt L st) (kf : x = y → kG X I Q nc ns nL (pc + 3) L st) : kG X I Q nc ns nL pc L (.int y :: .int x :: st) := fun H locs ls hI hL => lv_icmp_ne hC.1 hC.2.1 hd ht (fun h => kt h H locs ls hI hL) (fun h => kf h H locs ls hI hL)
theorem k_icmp_lt (hC : kC X D cy cc nL own d) {x y : Int32} {off : Int} (hd : decode cc pc = .ok (.if_icmp .lt off, 3)) (tgt : Nat) (ht : (pc : Int) + off = (tgt : Int)) (kt : x < y → kG X I Q nc ns nL tgt L st) (kf : ¬ x < y → kG X I Q nc ns nL (pc + 3) L st) : kG X I Q nc ns nL pc L (.int y :: .int x :: st) := fun H locs ls hI hL => lv_icmp_lt hC.1 hC.2.1 hd ht (fun h => kt h H locs ls hI hL) (fun h => kf h H locs ls hI hL)
theorem k_icmp_ge (hC : kC X D cy cc nL own d) {x y : Int32} {off : Int} (hd : decode cc pc = .ok (.if_icmp .ge off, 3)) (tgt : Nat) (ht : (pc : Int) + off = (tgt : Int)) (kt : y ≤ x → kG X I Q nc ns nL tgt L st) (kf : ¬ y ≤ x → kG X I Q nc ns nL (pc + 3) L st) : kG X I Q nc ns nL pc L (.int y :: .int x :: st) := fun H locs ls hI hL => lv_icmp_ge hC.1 hC.2.1 hd ht (fun h => kt h H locs ls hI hL) (fun h => kf h H locs ls hI hL)
theorem k_icmp_gt (hC : kC X D cy cc nL own d) {x y : Int32} {off : Int} (hd : decode cc pc = .ok (.if_icmp .gt off, 3)) (tgt : Nat) (ht : (pc : Int) + off = (tgt : Int)) (kt : y < x → kG X I Q nc ns nL tgt L st) (kf : ¬ y < x → kG X I Q nc ns nL (pc + 3) L st) : kG X I Q nc ns nL pc L (.int y :: .int x :: st) := fun H locs ls hI hL => lv_icmp_gt hC.1 hC.2.1 hd ht (fun h => kt h H locs ls hI hL) (fun h => kf h H locs ls hI hL)
theorem k_icmp_le (hC : kC X D cy cc nL own d) {x y : Int32} {off : Int} (hd : decode cc pc = .ok (.if_icmp .le off, 3)) (tgt : Nat) (ht : (pc : Int) + off = (tgt : Int)) (kt : x ≤ y → kG X I Q nc ns nL tgt L st) (kf : ¬ x ≤ y → kG X I Q nc ns nL (pc + 3) L st) : kG X I Q nc ns nL pc L (.int y :: .int x :: st) := fun H locs ls hI hL => lv_icmp_le hC.1 hC.2.1 hd ht (fun h => kt h H locs ls hI hL) (fun h => kf h H locs ls hI hL)
theorem k_lshl (hC : kC X D cy cc nL own d) {x v : Int64} {y : Int32} (hd : decode cc pc = .ok (.lshl, 1)) (hv : x <<< (y.toInt64 &&& 63) = v) (k : kG X I Q nc ns nL (pc + 1) L (.long v :: st)) : kG X I Q nc ns nL pc L (.int y :: .long x :: st) := fun H locs ls hI hL => lv_lshl hC.1 hC.2.1 hd hv (k H locs ls hI hL)
theorem k_land (hC : kC X D cy cc nL own d) {x y : Int64} (hd : decode cc pc = .ok (.land, 1)) (k : kG X I Q nc ns nL (pc + 1) L (.long (x &&& y) :: st)) : kG X I Q nc ns nL pc L (.long y :: .long x :: st) := fun H locs ls hI hL => lv_land hC.1 hC.2.1 hd (k H locs ls hI hL)
theorem k_lor (hC : kC X D cy cc nL own d) {x y : Int64} (hd : decode cc pc = .ok (.lor, 1)) (k : kG X I Q nc ns nL (pc + 1) L (.long (x ||| y) :: st)) : kG X I Q nc ns nL pc L (.long y :: .long x :: st) := fun H locs ls hI hL => lv_lor hC.1 hC.2.1 hd (k H locs ls hI hL)
theorem k_lc_eq (hC : kC X D cy cc nL own d) {x y : Int64} {off : Int} (hd : decode cc pc = .ok (.lcmp, 1)) (hd2 : decode cc (pc + 1) = .ok (.ifCond .eq off, 3)) (tgt : Nat) (ht : ((pc + 1 : Nat) : Int) + off = (tgt : Int)) (kt : x = y → kG X I Q nc ns nL tgt L st) (kf : ¬ x = y → kG X I Q nc ns nL (pc + 1 + 3) L st) : kG X I Q nc ns nL pc L (.long y :: .long x :: st) := k_lcmp hC hd (k_if_eq hC hd2 tgt ht (fun h => kt ((lg_cmp_eq x y).mp h)) (fun h => kf fun q => h ((lg_cmp_eq x y).mpr q)))
theorem k_widen {nc' ns' : Nat} (h1 : nc ≤ nc') (h2 : ns ≤ ns') (k : kG X I Q nc' ns' nL pc L st) : kG X I Q nc ns nL pc L st := fun H locs ls hI hL => W.widen h1 h2 (k H locs ls hI hL)
theorem k_objInit (hC : kC X D cy cc nL own d) (hnL : X.2.2.2.2.2.2.2.2.2.maxLocals = nL := hC.2.2.1) {idx a : Nat} (hlk : Cond.methodLink own idx objectInit ∈ gTb) (hin : Cond.instanceMethod Lib.objectInit ∈ gTb) (hco : Cond.code Lib.objectInit ⟨#[0xb1]⟩ 1 none ∈ gTb) (hd1 : 1 ≤ d) (hcat : (st.map fun v => v.category).sum ≤ 8) (hd : decode cc pc = .ok (.invokespecial idx, 3)) (k : kG X I Q nc ns nL (pc + 3) L st) : kG X I Q nc ns nL pc L (.ref a :: st) := by
  intro H locs ls hI hL
  have hts := hC.2.2.2.2.1
  have hr := hC.2.2.2.2.2.2.2.2
  refine W.objInit hC.1 hC.2.1 hC.2.2.2.1 (hts _ hlk) (hts _ hin) (hts _ hco) rfl (by rw [hnL]; exact hL.1) (a := a) (rest := st) rfl hd (by omega) ?_ (k H locs ls hI hL)
  have h0 : (F0 X.2.2.2.2.2.1 pc ls (.ref a :: st)).monitorRoom = 0 := rfl
  rw [h0]
  omega
end KRows
section KGrow
variable {X : gX} {D : va_G} {cy : Nat → ClassId} {Q : State → Prop} {nc ns nL pc base : Nat} {l : List va_E} {L : List (Nat × Value)} {st : List Value} {cc : ByteArray} {own : String} {d : Nat}
theorem k_new (hC : kC X D cy cc nL own d) {idx ci N nc' ns' : Nat} {C : String} {T : u_T} {fs : List Value} {ty : Nat → FieldType} {l' : List va_E} (hcl : Cond.classLink own idx C ∈ gTb) (hi : Cond.instantiable C N ∈ gTb) (hini : Cond.initialized C ∈ gTb) (hin : ∀ w ∈ u_ws C T N, w ∈ gTb) (hty : ∀ k, k < N → parseFieldDescriptor (T k).2.2.1 = some (ty k)) (hc : vwCl[ci]? = some (C, T, N)) (hfs : ∀ j, j < N → defaultValue (ty j) = vp_V fs j) (hcells : nc' ≤ X.2.2.2.1.cells) (hslots : ns' ≤ X.2.2.2.1.slots) (h1 : nc + 1 = nc') (h2 : ns + N = ns') {n : Nat} (hl : l.length = n) (hl' : l ++ [.inr (ci, fs)] = l') (hd : decode cc pc = .ok (.new idx, 3))
    (kk : kG X (kI X D base l') Q nc' ns' nL (pc + 3) L (.ref (base + n) :: st)) : kG X (kI X D base l) Q nc ns nL pc L st := by
  intro H locs ls ⟨hP, hz, hS⟩ hL
  subst h1; subst h2; subst hl; subst hl'
  have hts := hC.2.2.2.2.1
  have hKn := hC.2.2.2.2.2.1.1 ci _ hc
  refine W.newcK hC.1 hC.2.1 hC.2.2.2.1 (hts _ hcl) (hts _ hi) (hts _ hini) rfl hd hcells hslots hKn.2.1 hz fun H1 kC hkC e1 z1 o1 => ?_
  refine kk H1 locs ls ⟨kw_app (kw_kept hP (fun q _ hq => o1 q hq)) (fun k q hq => ?_), by rw [z1, List.length_append]; rfl, Nat.le_trans hS.1 (by omega), fun q hq1 hq2 => (o1 q (by have := hS.1; omega)).trans (hS.2.1 q hq1 hq2), hS.2.2⟩ hL
  obtain ⟨e, he, rfl⟩ := kw_of hq
  have hk : k < 1 := (List.getElem?_eq_some_iff.mp he).1
  have hk0 : k = 0 := by omega
  subst hk0
  cases he
  exact ⟨_, hc, (u_born ty hts hin hKn hkC e1 hty).to hfs⟩
theorem kRA {D : va_G} {cy : Nat → ClassId} {U : State} {t0 : Nat} {cA : ClassId} {t : FieldType} (hK : va_K D vwCl (gTys cy) U) (ht : (gTys cy)[t0]? = some (cA, t)) : U.vm.findClass ("[" ++ t.toString) = some cA := by
  have h := (hK.2 t0 _ ht).2
  cases t with
  | object C => obtain ⟨_, _, _, _, _, h4⟩ := h; exact h4
  | _ => exact h
theorem k_newa (hC : kC X D cy cc nL own d) {atype : ArrayType} {ty : FieldType} {t0 N nc' ns' : Nat} {cA : ClassId} {a0 : vp_A} {nn : Int32} {l' : List va_E} (harr : Cond.arrayClass ty ∈ gTb) (hty : newarray.typeOf atype = ty) (ht : (gTys cy)[t0]? = some (cA, ty)) (ha : vp_cell cA a0 = arrV cA N (fun _ => defaultValue ty)) (hn : ¬ nn < 0) (hN : nn.toNatClampNeg = N) (hb : N * componentBytes ty ≤ 536870912) (hcells : nc' ≤ X.2.2.2.1.cells) (hslots : ns' ≤ X.2.2.2.1.slots) (h1 : nc + 1 = nc') (h2 : ns + N = ns') {n : Nat} (hl : l.length = n) (hl' : l ++ [.inl (cA, a0)] = l') (hd : decode cc pc = .ok (.newarray atype, 2))
    (kk : kG X (kI X D base l') Q nc' ns' nL (pc + 2) L (.ref (base + n) :: st)) : kG X (kI X D base l) Q nc ns nL pc L (.int nn :: st) := by
  intro H locs ls ⟨hP, hz, hS⟩ hL
  subst h1; subst h2; subst hl; subst hl'; subst hty
  refine va_newaK hC.1 hC.2.1 (hC.2.2.2.2.1 _ harr) rfl hd rfl hn hN hb hcells hslots hz fun H1 cA' e1 z1 o1 _ hNm => ?_
  have hcA : cA' = cA := Option.some.inj (hNm.symm.trans (kRA hC.2.2.2.2.2.1 ht))
  subst hcA
  refine kk H1 locs ls ⟨kw_app (kw_kept hP (fun q _ hq => o1 q hq)) (fun k q hq => ?_), by rw [z1, List.length_append]; rfl, Nat.le_trans hS.1 (by omega), fun q hq1 hq2 => (o1 q (by have := hS.1; omega)).trans (hS.2.1 q hq1 hq2), hS.2.2⟩ hL
  obtain ⟨e, he, rfl⟩ := kw_of hq
  have hk : k < 1 := (List.getElem?_eq_some_iff.mp he).1
  have hk0 : k = 0 := by omega
  subst hk0
  cases he
  show H1[base + l.length]? = some (vp_cell cA' a0)
  rw [ha]; exact e1
theorem k_anew (hC : kC X D cy cc nL own d) {idx t0 N nc' ns' : Nat} {C : String} {cA : ClassId} {nn : Int32} {l' : List va_E} (hcl : Cond.classLink own idx C ∈ gTb) (hover : va_AO C X.2.2.2.2.1) (ht : (gTys cy)[t0]? = some (cA, .object C)) (hn : ¬ nn < 0) (hN : nn.toNatClampNeg = N) (hb : N * 4 ≤ 536870912) (hcells : nc' ≤ X.2.2.2.1.cells) (hslots : ns' ≤ X.2.2.2.1.slots) (h1 : nc + 1 = nc') (h2 : ns + N = ns') {n : Nat} (hl : l.length = n) (hl' : l ++ [.inl (cA, N, .inr (.inr (.inr (.inr (fun _ => none)))))] = l') (hd : decode cc pc = .ok (.anewarray idx, 3))
    (kk : kG X (kI X D base l') Q nc' ns' nL (pc + 3) L (.ref (base + n) :: st)) : kG X (kI X D base l) Q nc ns nL pc L (.int nn :: st) := by
  intro H locs ls ⟨hP, hz, hS⟩ hL
  subst h1; subst h2; subst hl; subst hl'; subst hN
  refine W.anew hC.1 hC.2.1 hC.2.2.2.1 (hC.2.2.2.2.1 _ hcl) (va_AO.use hover) rfl hd rfl hn hb hcells hslots fun cA' kA comp f1 f2 f3 f4 => ?_
  have hcA : cA' = cA := Option.some.inj (f1.symm.trans (kRA hC.2.2.2.2.2.1 ht))
  subst hcA
  generalize hH1 : H.push ({ cls := cA', slots := Array.replicate nn.toNatClampNeg .null, vm := .none } : Cell) = H1
  have z1 : H1.size = H.size + 1 := by rw [← hH1, Array.size_push]
  have e1 : H1[H.size]? = some (arrV cA' nn.toNatClampNeg (fun _ => .null)) := by rw [← hH1, Array.getElem?_push_size, ← arrV_new]
  have o1 : ∀ q : Nat, q < H.size → H1[q]? = H[q]? := fun q hq => by rw [← hH1, Array.getElem?_push, if_neg (Nat.ne_of_lt hq)]
  rw [hz] at z1 e1 o1 ⊢
  refine kk H1 locs ls ⟨kw_app (kw_kept hP (fun q _ hq => o1 q hq)) (fun k q hq => ?_), by rw [z1, List.length_append]; rfl, Nat.le_trans hS.1 (by omega), fun q hq1 hq2 => (o1 q (by have := hS.1; omega)).trans (hS.2.1 q hq1 hq2), hS.2.2⟩ hL
  obtain ⟨e, he, rfl⟩ := kw_of hq
  have hk : k < 1 := (List.getElem?_eq_some_iff.mp he).1
  have hk0 : k = 0 := by omega
  subst hk0
  cases he
  exact e1
theorem k_get (hC : kC X D cy cc nL own d) {idx ci k a : Nat} (i : Nat) {fs : List Value} {v : Value} (hf : gFl own idx ci k) (ha : base + i = a) (hF : l[i]? = some (.inr (ci, fs))) (hv : fs[k]? = some v) (hd : decode cc pc = .ok (.getfield idx, 3)) (kk : kG X (kI X D base l) Q nc ns nL (pc + 3) L (v :: st)) : kG X (kI X D base l) Q nc ns nL pc L (.ref a :: st) := by
  intro H locs ls hI hL
  subst ha
  obtain ⟨C, T, N, h1, h2, h3, h4, h5⟩ := hf
  rcases h5 with h5 | ⟨host, h5⟩
  · exact va_get hC.1 hC.2.1 hC.2.2.2.2.1 h4 hC.2.2.2.1 hC.2.2.2.2.2.1 hI.1 i (kw_get hF) h1 k h2 (hC.2.2.2.2.1 _ h5) (fun x h => by rw [h3] at h; exact h) hv hd (kk H locs ls hI hL)
  · exact va_getN hC.1 hC.2.1 hC.2.2.2.2.1 h4 hC.2.2.2.1 hC.2.2.2.2.2.1 hI.1 i (kw_get hF) h1 k h2 (va_Nw.use rfl (hC.2.2.2.2.2.2.1 _ h5 rfl)) (fun x h => by rw [h3] at h; exact h) hv hd (kk H locs ls hI hL)
/-- a field of the constructor's own class -/
def gFq (own : String) (idx ci k : Nat) (ty : FieldType) (fin : Bool) : Prop := ∃ (T : u_T) (N : Nat) (ty0 : Nat → FieldType), vwCl[ci]? = some (own, T, N) ∧ k < N ∧ (T k).1 = own ∧ (∀ w ∈ u_ws own T N, w ∈ gTb) ∧ Cond.fieldLink own idx own (T k).2.1 (T k).2.2.1 ∈ gTb ∧ (T k).2.2.2 = fin ∧ parseFieldDescriptor (T k).2.2.1 = some ty ∧ (∀ k, k < N → parseFieldDescriptor (T k).2.2.1 = some (ty0 k)) ∧ (∀ a, a < N → ∀ b, b < N → a ≠ b → (T a).2.1 ≠ (T b).2.1)
theorem kI_set {X : gX} {D : va_G} {base i : Nat} {l l' : List va_E} {H H1 : Heap} {locs : List Loc} {e0 e : va_E} {z : Nat} (hI : kI X D base l H locs) (h0 : l[i]? = some e0) (he : va_at D vwCl (base + i, e) H1) (z1 : H1.size = H.size) (oq : ∀ q : Nat, q ≠ base + i → H1[q]? = H[q]?) (hl : l.set i e = l') : kI X D base l' H1 (locs ++ [⟨base + i, z⟩]) := by
  obtain ⟨hP, hz, hS⟩ := hI
  subst hl
  refine ⟨?_, by rw [z1, hz, List.length_set], hS.put z1 oq (Nat.le_add_right base i)⟩
  have h2 := hP.set (kw_D base l) (kw_get h0) he oq
  rw [kw_set] at h2
  exact h2
theorem k_put (hC : kC X D cy cc nL own d) {idx ci k a : Nat} (i : Nat) {fs fs' : List Value} {v : Value} {ty : FieldType} {l' : List va_E} (hf : gFq own idx ci k ty false) (ha : base + i = a) (hF : l[i]? = some (.inr (ci, fs))) (hl : k < fs.length) (hn : narrow ty v = v) (hfit : fits ty v = true) (hs : fs.set k v = fs') (hM : l.set i (.inr (ci, fs')) = l') (hd : decode cc pc = .ok (.putfield idx, 3)) (kk : kG X (kI X D base l') Q nc ns nL (pc + 3) L st) : kG X (kI X D base l) Q nc ns nL pc L (v :: .ref a :: st) := by
  intro H locs ls hI hL
  subst ha; subst hs
  obtain ⟨T, N, ty0, hc, hk, h3, hin, hlk, hfin, hp, hty, hnm⟩ := hf
  have hts := hC.2.2.2.2.1
  have hK := hC.2.2.2.2.2.1
  have hap := va_apart (own := own) hts hin ty0 hty hnm hK hc
  obtain ⟨r, h1, cell, q1, q2, q3, q4⟩ := hI.1 i _ (kw_get hF)
  have hr := Option.some.inj (h1.symm.trans hc)
  subst hr
  obtain ⟨hS, hfc, kC, hkC, hkind⟩ := hK.1 ci _ hc
  obtain ⟨cf, kf, fi, f, hi, hsl⟩ := hS k hk
  have hlay := hts _ (hin _ (u_in_lay hk))
  unfold u_lay at hlay
  rw [if_neg (by rw [hfin]; decide)] at hlay
  have hst := (u_facts hfc hkC (u_lays hts hin hk) hi).1
  have h6 := u_store hfc hkC hkind hlay hi hp hn hfit
  have hi2 := hi
  dsimp only at hi2
  rw [h3] at hi2
  refine W.putK hC.1 hC.2.1 (f := f) ⟨hC.2.2.2.1, hts _ hlk, ⟨_, _, _, hi2⟩, hst⟩ (by rw [q2]; exact h6) q1 q3 (by rw [hsl]; exact k2_hasslot (q4 k hk)) rfl rfl hd fun H' e1 e2 e3 => ?_
  rw [hsl] at e1 ⊢
  exact kk H' _ ls (kI_set (e := .inr (ci, fs.set k v)) hI hF ⟨_, hc, t_OB.to (V := updV (vp_V fs) k v) ⟨_, e1, q2, q3, t_set q4 hap hk v⟩ (fun j _ => vp_updV_set hl v j)⟩ e2 e3 hM) hL
theorem k_putF (hC : kC X D cy cc nL own d) (hin2 : X.2.2.2.2.2.2.2.2.1.name = "<init>") {idx ci k a : Nat} (i : Nat) {fs fs' : List Value} {v : Value} {ty : FieldType} {l' : List va_E} (hf : gFq own idx ci k ty true) (ha : base + i = a) (hF : l[i]? = some (.inr (ci, fs))) (hl : k < fs.length) (hn : narrow ty v = v) (hfit : fits ty v = true) (hs : fs.set k v = fs') (hM : l.set i (.inr (ci, fs')) = l') (hd : decode cc pc = .ok (.putfield idx, 3)) (kk : kG X (kI X D base l') Q nc ns nL (pc + 3) L st) : kG X (kI X D base l) Q nc ns nL pc L (v :: .ref a :: st) := by
  intro H locs ls hI hL
  subst ha; subst hs
  obtain ⟨T, N, ty0, hc, hk, h3, hin, hlk, hfin, hp, hty, hnm⟩ := hf
  have hts := hC.2.2.2.2.1
  have hK := hC.2.2.2.2.2.1
  have hown := hC.2.2.2.1
  have hap := va_apart (own := own) hts hin ty0 hty hnm hK hc
  obtain ⟨r, h1, cell, q1, q2, q3, q4⟩ := hI.1 i _ (kw_get hF)
  have hr := Option.some.inj (h1.symm.trans hc)
  subst hr
  obtain ⟨hS, hfc, kC, hkC, hkind⟩ := hK.1 ci _ hc
  obtain ⟨cf, kf, fi, f, hi, hsl⟩ := hS k hk
  have hlay := hts _ (hin _ (u_in_lay hk))
  unfold u_lay at hlay
  rw [if_pos hfin] at hlay
  have hst := (u_facts hfc hkC (u_lays hts hin hk) hi).1
  have hcf : X.2.2.2.2.2.1.cls = cf := by
    obtain ⟨_, _, c', _, _, _, -, -, hf', -, -, -, hown2, -⟩ := Cond.laysFinal_spec hlay
    have e1 : c' = cf := by have := hi.symm.trans hf'; simp at this; exact this.1.symm
    rw [h3] at hown2
    rw [← e1]; exact Option.some.inj (hown.symm.trans hown2)
  have h6 := u_fits hfc hkC hkind (Or.inr hlay) hi hp hn hfit
  have hi2 := hi
  dsimp only at hi2
  rw [h3] at hi2
  refine W.putFinK hC.1 hC.2.1 hown (hts _ hlk) hi2 hst hcf hin2 (by rw [q2]; exact h6) q1 q3 (by rw [hsl]; exact k2_hasslot (q4 k hk)) rfl rfl hd fun H' e1 e2 e3 => ?_
  rw [hsl] at e1 ⊢
  exact kk H' _ ls (kI_set (e := .inr (ci, fs.set k v)) hI hF ⟨_, hc, t_OB.to (V := updV (vp_V fs) k v) ⟨_, e1, q2, q3, t_set q4 hap hk v⟩ (fun j _ => vp_updV_set hl v j)⟩ e2 e3 hM) hL
theorem k_iast (hC : kC X D cy cc nL own d) (i t0 j : Nat) {a n : Nat} {cA : ClassId} {f : Nat → Int32} {x jj : Int32} {l' : List va_E} (ha : base + i = a) (hF : l[i]? = some (.inl (cA, n, .inl f))) (ht : (gTys cy)[t0]? = some (cA, .int)) (hj : j < n) (hn : n < 2147483648) (hjj : nI j = jj) (hM : l.set i (.inl (cA, n, .inl (upd f j x))) = l') (hd : decode cc pc = .ok (.iastore, 1)) (kk : kG X (kI X D base l') Q nc ns nL (pc + 1) L st) : kG X (kI X D base l) Q nc ns nL pc L (.int x :: .int jj :: .ref a :: st) := by
  intro H locs ls hI hL
  subst ha; subst hjj
  refine W.iast hC.1 hC.2.1 (hI.1 i _ (kw_get hF)) ((hC.2.2.2.2.2.1.2 t0 _ ht).1 n (fun j => .int (f j))) (fun q => by cases q) (by show ¬ (nI j < 0 ∨ (arrV _ _ _).slots.size ≤ _); rw [arrV_size]; exact vp_in_nI hj hn) rfl rfl hd fun H1 e z oq => ?_
  refine kk H1 _ ls (kI_set hI hF ?_ z oq hM) hL
  show H1[base + i]? = some (vp_cell _ _)
  rw [e]
  show some ((vp_cell cA (n, .inl f)).setSlot _ _) = _
  rw [vp_cell_i, vp_cell_i, arrV_store, nI_clamp (by omega)]
  congr 2
  funext q
  unfold updV upd
  split <;> rfl
theorem k_aast (hC : kC X D cy cc nL own d) (i t0 j iv : Nat) {a v n ci : Nat} {cA : ClassId} {r : vw_C} {f : Nat → Option Nat} {vs : List Value} {jj : Int32} {l' : List va_E} (ha : base + i = a) (hv : base + iv = v) (hF : l[i]? = some (.inl (cA, n, .inr (.inr (.inr (.inr f)))))) (hV : l[iv]? = some (.inr (ci, vs))) (hc : vwCl[ci]? = some r) (ht : (gTys cy)[t0]? = some (cA, .object r.1)) (hj : j < n) (hn : n < 2147483648) (hjj : nI j = jj) (hM : l.set i (.inl (cA, n, .inr (.inr (.inr (.inr (va_up f j (some (base + iv)))))))) = l') (hd : decode cc pc = .ok (.aastore, 1)) (kk : kG X (kI X D base l') Q nc ns nL (pc + 1) L st) : kG X (kI X D base l) Q nc ns nL pc L (.ref v :: .int jj :: .ref a :: st) := by
  intro H locs ls hI hL
  subst ha; subst hv; subst hjj
  obtain ⟨r', hr', cellV, g1, g2, g3, -⟩ := hI.1 iv _ (kw_get hV)
  have hcls := (hC.2.2.2.2.2.1.1 ci r hc).2
  obtain ⟨kA, comp, k1, k2, k3, -⟩ := (hC.2.2.2.2.2.1.2 t0 _ ht).2
  have hcomp : comp = D.1 ci := Option.some.inj (k3.symm.trans hcls.1)
  subst hcomp
  obtain ⟨kC, hkC, -⟩ := hcls.2
  have hin : vp_in (nI j) n := vp_in_nI hj hn
  have hlt : (nI j).toNatClampNeg < n := by rw [nI_clamp (by omega)]; exact hj
  refine W.aast hC.1 hC.2.1 (hI.1 i _ (kw_get hF)) (fun q h => by cases h) (fun h => by cases h) k1 k2 rfl hkC ⟨fun q => hin (Or.inl q), by show _ < (arrV _ _ _).slots.size; rw [arrV_size]; exact hlt⟩ g1 (fun q h => by rw [g3] at h; cases h) (by rw [g2]; exact hkC) (by rw [g2]; exact va_assign hcls) rfl rfl hd fun H1 e z oq => ?_
  refine kk H1 _ ls (kI_set hI hF ?_ z oq hM) hL
  show H1[base + i]? = some (vp_cell _ _)
  rw [e]
  show some ((vp_cell cA (n, .inr (.inr (.inr (.inr f))))).setSlot _ _) = _
  rw [vp_cell_q, vp_cell_q, arrV_store, nI_clamp (by omega)]
  congr 2
  funext q
  unfold updV va_up
  split <;> rfl
theorem k_alen (hC : kC X D cy cc nL own d) (i t0 : Nat) {a : Nat} {cA : ClassId} {x : vp_A} {ty : FieldType} (ha : base + i = a) (hF : l[i]? = some (.inl (cA, x))) (ht : (gTys cy)[t0]? = some (cA, ty)) {v : Int32} (hv : Int32.ofNat x.1 = v) (hd : decode cc pc = .ok (.arraylength, 1)) (kk : kG X (kI X D base l) Q nc ns nL (pc + 1) L (.int v :: st)) : kG X (kI X D base l) Q nc ns nL pc L (.ref a :: st) := by
  intro H locs ls hI hL
  subst ha
  exact va_alen hC.1 hC.2.1 hC.2.2.2.2.2.1 hI.1 i t0 (kw_get hF) ht hv hd (kk H locs ls hI hL)
-- constructors' contracts
def kPc (D : va_G) (cy : Nat → ClassId) (base : Nat) (As : List Value) (l : List va_E) : Array Value → State → Prop := fun v U => v = As.toArray ∧ va_P D vwCl (kw base l) U.heap ∧ U.heap.size = base + l.length ∧ va_K D vwCl (gTys cy) U ∧ gN U ∧ kAO U
def kQ (D : va_G) (base : Nat) (l : List va_E) : Array Value → State → Outcome → State → Prop := fun _ st oc t => (oc = .returned none ∧ va_P D vwCl (kw base l) t.heap ∧ t.heap.size = base + l.length) ∧ va_F (kA base) st t
def kRm (d mc ms : Nat) : Room := { frames := d, cells := mc, slots := ms, locals := 64 * d }
/-- a constructor's contract: from the cells l at base on it makes the cells l' -/
def kCt (D : va_G) (cy : Nat → ClassId) (y : MethodName) (bytes : ByteArray) (maxL d mc ms base : Nat) (As : List Value) (l l' : List va_E) : Prop :=
  ∀ L : Launch, Met L y (.code y bytes maxL none :: gTb) (kRm d mc ms) (kPc D cy base As l) (kQ D base l') mc ms (kA base)
theorem kMet {D : va_G} {cy : Nat → ClassId} {y : MethodName} {bytes : ByteArray} {maxL d mc ms base : Nat} {As : List Value} {l l' : List va_E} (own : String) (hy : plainName y.cls = true) (ho : y.cls = own) (hn : y.name = "<init>") (hfit : (lg_sl As).length ≤ maxL)
    (body : ∀ X : gX, kC X D cy bytes maxL own d → X.2.2.2.2.2.2.2.2.1.name = "<init>" → X.2.2.2.2.2.2.2.2.1.sig.returnType = none → X.2.2.2.1.cells = mc → X.2.2.2.1.slots = ms → kG X (kI X D base l) (MQ X.2.2.2.2.2.2.2.1 (kQ D base l') X.2.2.2.2.2.2.1 X.2.2.2.2.1 mc ms (kA base)) 0 0 maxL 0 (lv_args 0 As) []) : kCt D cy y bytes maxL d mc ms base As l l' := by
  intro l0
  refine Met.ofW (cc := bytes) (maxL := maxL) (ret := none) hy rfl ?_
  intro p e s m args below meth c s₁ B hml hv
  obtain ⟨rfl, hP, hz, hK, hN, hA⟩ := hv
  have hts := atoms_spec (ws := .code y bytes maxL none :: gTb) B.pre
  have hown : s.vm.findClass y.cls = some m.cls := findClass_of_methodNamed B.named
  have hin : meth.name = y.name := (name_of_methodNamed B.named B.method).1
  rw [ho] at hown
  rw [hn] at hin
  rw [lg_entry_eq]
  exact body (p, l0, e, kRm d mc ms, s, m, As.toArray, below, meth, c) ⟨B.exec, B.bytes, hml, hown, fun w h => hts w (List.mem_cons_of_mem _ h), hK, hN, hA, Nat.le_refl _, Nat.le_refl _, B.notSynchronized⟩ hin B.returns rfl rfl s.heap [] _ ⟨hP, hz, va_S.rf⟩ (lv_entry As hfit)
theorem k_vret (hC : kC X D cy cc nL own d) (hr : X.2.2.2.2.2.2.2.2.1.sig.returnType = none) {mc ms : Nat} {l' : List va_E} (h1 : nc = mc) (h2 : ns = ms) (hl : l = l') (hd : decode cc pc = .ok (.return_, 1)) : kG X (kI X D base l) (MQ X.2.2.2.2.2.2.2.1 (kQ D base l') X.2.2.2.2.2.2.1 X.2.2.2.2.1 mc ms (kA base)) nc ns nL pc L [] := fun H locs ls hI hL => by
  subst h1; subst h2; subst hl
  obtain ⟨hP, hz, hS⟩ := hI
  have hlocks := hC.2.2.2.2.2.2.2.2.2.2
  exact W.vret hC.1 hC.2.1 hr (fun t ht hW => ⟨⟨rfl, by rw [ht]; exact hP, by rw [ht]; exact hz⟩, hS.F ht⟩) hS.2.2 hd
theorem kBlind {D : va_G} {cy : Nat → ClassId} {base : Nat} {As : List Value} {l : List va_E} : FrameBlind (kPc D cy base As l) := by
  intro a U g mk q
  obtain ⟨q1, q2, q3, q4, q5, q6⟩ := q
  exact ⟨q1, q2, q3, va_K.moved (u := U) (U := U.calling g mk a) (Vm.Alike.refl U.vm) q4, gN.same (s := U) (U := U.calling g mk a) rfl q5, kAO.moved (u := U) (U := U.calling g mk a) (Vm.Alike.refl U.vm) q6⟩
theorem k_ctor (hC : kC X D cy cc nL own d) {idx d' maxL mc ms n k a nc' ns' : Nat} {y : MethodName} {bytes : ByteArray} {As st0 : List Value} {l1 lc l' : List va_E} {e : va_E} (hct : kCt D cy y bytes maxL d' mc ms (base + k) (.ref (base + k) :: As) [e] lc) (hif : Cond.instanceMethod y ∈ gTb ∧ Cond.initialized y.cls ∈ gTb ∧ Cond.code y bytes maxL none ∈ lw_tbl) (hlk : Cond.methodLink own idx y ∈ gTb) (hy1 : y.name = "<init>") (hdes : y.cls ≠ "java/lang/invoke/MethodHandle" ∧ y.cls ≠ "java/lang/invoke/VarHandle" ∧ (parseMethodDescriptor y.desc).map (fun d => d.parameters.length) = some n) (hd' : d' < d) (hm : maxL ≤ 30) (hn : As.length = n) (hl : l = l1 ++ [e]) (hk : l1.length = k) (hl' : l1 ++ lc = l') (ha : base + k = a) (hst : st0 = As.reverse ++ .ref a :: st) (hcat : (st.map fun v => v.category).sum ≤ 8) (hcells : nc' ≤ X.2.2.2.1.cells) (hslots : ns' ≤ X.2.2.2.1.slots) (h1 : nc + mc = nc') (h2 : ns + ms = ns') (hd : decode cc pc = .ok (.invokespecial idx, 3))
    (kk : kG X (kI X D base l') Q nc' ns' nL (pc + 3) L st) : kG X (kI X D base l) Q nc ns nL pc L st0 := by
  intro H locs ls ⟨hP, hz, hS⟩ hL
  subst h1; subst h2; subst hl; subst hk; subst hl'; subst ha
  obtain ⟨f1, f2, f3⟩ := hif
  have hts := hC.2.2.2.2.1
  obtain ⟨-, -, -, -, -, hK, hN, hA, hr1, hr2, -⟩ := id hC
  rw [List.length_append] at hz
  have hz : H.size = base + (l1.length + 1) := hz
  have hr := va_runI (p := X.1) (l := X.2.1) (e := X.2.2.1) (R := X.2.2.2.1) (s := X.2.2.2.2.1) (m := X.2.2.2.2.2.1) (args := X.2.2.2.2.2.2.1) (below := X.2.2.2.2.2.2.2.1) (meth := X.2.2.2.2.2.2.2.2.1) (c := X.2.2.2.2.2.2.2.2.2) (H := H) (locs := locs) (cells := nc) (slots := ns) (g := F0 X.2.2.2.2.2.1 pc ls st0) (As := As) (rest := st) ⟨hC.1, hC.2.1, hC.2.2.1, hC.2.2.2.1, hts⟩ (hct X.2.1) (cwI n hts (gTb_code f3) rfl rfl rfl (hts _ f2) (hts _ hlk) (hts _ f1) hy1 hdes ⟨(by show d' + 1 ≤ _; omega), (by show 8 + (maxL + 11) + 64 * d' ≤ _; omega)⟩) ⟨kBlind, fun U hU hW => ⟨rfl, by rw [hU]; exact kw_right hP, by rw [hU, hz]; show base + (l1.length + 1) = base + l1.length + 1; omega, va_K.moved hW.alike hK, gN.warm hW hN, hA.moved hW.alike⟩⟩ rfl hn hL.1 hst (lv_room hcat) hd ⟨hcells, hslots⟩
  intro T hT XT
  obtain ⟨v, st₀, t, T', Lc, h0, X', hLc, e1, e2, ⟨⟨hv, hp, hz1⟩, hzz, hk⟩, go⟩ := hr T hT XT
  cases hv
  rw [h0] at hzz hk
  have hlow : ∀ q : Nat, q < base + l1.length → T'.heap[q]? = H[q]? := fun q hq => by
    rw [e1]; exact hk q (by omega) (fun z => by have z2 : base + l1.length ≤ q := z; omega)
  have hb := hS.1
  obtain ⟨t2, a1, b1⟩ := kk T'.heap (locs ++ Lc) ls ⟨kw_app (kw_kept (kw_left hP) (fun q _ hq => hlow q hq)) (by rw [e1]; exact hp), by rw [e1, hz1, List.length_append]; omega, Nat.le_trans hS.1 (by rw [e1]; exact hzz), fun q hq1 hq2 => (hlow q (by have hq3 : ¬ base ≤ q := hq2; omega)).trans (hS.2.1 q hq1 hq2), fun q hq => by
    rcases List.mem_append.mp hq with h | h
    · exact hS.2.2 q h
    · have h9 : base + l1.length ≤ q.base := hLc q h
      show base ≤ q.base; omega⟩ hL T' rfl X'
  exact ⟨t2, go t2 a1, b1⟩
end KGrow