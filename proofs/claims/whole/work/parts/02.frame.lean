/-! THE FRAME OF ALL WALKS: a world is a fixed number of cells at addresses that differ; its memory is a row of ints and a row of longs a cell; 'gG' is the machine at a program counter with listed locals and a stack over a memory; 'gCt' is a method's contract over such a world. -/
-- the tables' good words: every method takes all of them; the nest mates' links ride in the contracts' starts
def gTb : List Cond := lw_tbl.filter goodWord
def gNest : Cond → Bool
  | .fieldLinkNest .. => true
  | .methodLinkNest .. => true
  | _ => false
def gN (U : State) : Prop := ∀ w ∈ lw_tbl, gNest w = true → va_Nw w U
theorem gN.warm {s U : State} (hW : s.WarmedH U.vm) (h : gN s) : gN U := by
  intro w hw hn
  have h1 := h w hw hn
  cases w <;> first | exact va_Nw.warmF hW h1 | exact va_Nw.warmM hW h1 | exact absurd hn Bool.false_ne_true
theorem gN.same {s U : State} (hv : s.vm = U.vm) (h : gN s) : gN U := by
  intro w hw hn
  have h1 := h w hw hn
  cases w <;> first | exact absurd hn Bool.false_ne_true | exact va_Nw.same rfl hv h1
theorem gTb_in {w : Cond} (h : w ∈ lw_tbl) (hg : goodWord w = true) : w ∈ gTb := List.mem_filter.mpr ⟨h, hg⟩
theorem gTb_code {y : MethodName} {bytes : ByteArray} {maxL : Nat} {ret : Option FieldType} (h : Cond.code y bytes maxL ret ∈ lw_tbl) : GoodIn gTb (.code y bytes maxL ret :: gTb) := by
  intro w hw
  rcases List.mem_cons.mp hw with rfl | hw
  · exact ⟨gTb_in h rfl, Or.inl rfl⟩
  · exact ⟨hw, good_of_word (List.mem_filter.mp hw).2⟩
abbrev gM : Type := (Nat → Nat → Int32) × (Nat → Nat → Int64)
abbrev gW : Type := va_G × List (ClassId × FieldType) × Nat × (Nat → Nat) × ((Nat → Int32) → (Nat → Int64) → Nat → va_E)
def gws (n : Nat) (ad : Nat → Nat) (ct : Nat → va_E) : va_W := (List.range n).map fun i => (ad i, ct i)
theorem gws_get {n : Nat} {ad : Nat → Nat} {ct : Nat → va_E} {i : Nat} (h : i < n) : (gws n ad ct)[i]? = some (ad i, ct i) := by
  simp [gws, List.getElem?_range h]
theorem gws_of {n : Nat} {ad : Nat → Nat} {ct : Nat → va_E} {k : Nat} {q : Nat × va_E} (h : (gws n ad ct)[k]? = some q) : k < n ∧ q = (ad k, ct k) := by
  have hk : k < n := by
    have := (List.getElem?_eq_some_iff.mp h).1
    simpa [gws] using this
  rw [gws_get hk] at h
  exact ⟨hk, (Option.some.inj h).symm⟩
theorem gws_set {n : Nat} {ad : Nat → Nat} {ct ct' : Nat → va_E} {i : Nat} {e : va_E} (h : ∀ j, j < n → ct' j = if j = i then e else ct j) : (gws n ad ct).set i (ad i, e) = gws n ad ct' := by
  apply List.ext_getElem?
  intro j
  rw [List.getElem?_set]
  by_cases hj : j < n
  · rw [gws_get hj, gws_get hj, h j hj]
    by_cases e1 : i = j
    · subst e1
      have : i < (gws n ad ct).length := by simpa [gws] using hj
      simp [this]
    · rw [if_neg e1, if_neg (fun q => e1 q.symm)]
  · have l1 : (gws n ad ct).length = n := by simp [gws]
    have l2 : (gws n ad ct').length = n := by simp [gws]
    rw [List.getElem?_eq_none (l := gws n ad ct') (by omega), List.getElem?_eq_none (l := gws n ad ct) (by omega)]
    split <;> simp <;> omega
def gPic (w : gW) (M : gM) (H : Heap) : Prop := va_P w.1 vwCl (gws w.2.2.1 w.2.2.2.1 (fun i => w.2.2.2.2 (M.1 i) (M.2 i) i)) H
def gA (w : gW) : Nat → Prop := fun q => ∃ i, i < w.2.2.1 ∧ q = w.2.2.2.1 i
def gI (w : gW) : Prop := ∀ i j, i < w.2.2.1 → j < w.2.2.1 → w.2.2.2.1 i = w.2.2.2.1 j → i = j
theorem gI.D {w : gW} (h : gI w) (ct : Nat → va_E) : va_D (gA w) (gws w.2.2.1 w.2.2.2.1 ct) := by
  refine ⟨fun i j p q hp hq hpq => ?_, fun k q hq => ?_⟩
  · obtain ⟨h1, rfl⟩ := gws_of hp
    obtain ⟨h2, rfl⟩ := gws_of hq
    exact h i j h1 h2 hpq
  · obtain ⟨h1, rfl⟩ := gws_of hq
    exact ⟨k, h1, rfl⟩
abbrev gX : Type := Program × Launch × Env × Room × State × MethodId × Array Value × List Frame × Method × Code
def gRm (d : Nat) : Room := { frames := d, cells := 0, slots := 0, locals := 64 * d }
def gPc (w : gW) (As : List Value) (M : gM) : Array Value → State → Prop := fun v U => v = As.toArray ∧ gPic w M U.heap ∧ va_K w.1 vwCl w.2.1 U ∧ gI w ∧ gN U
def gQ (w : gW) (post : Option Value → gM → Prop) : Array Value → State → Outcome → State → Prop := fun _ st oc t => (∃ (v : Option Value) (M' : gM), oc = .returned v ∧ post v M' ∧ gPic w M' t.heap) ∧ va_F (gA w) st t
/-- a method's contract: from the memory M and the arguments As it returns, with 'post answer memory', and no cell outside the world has changed -/
def gCt (w : gW) (y : MethodName) (bytes : ByteArray) (maxL : Nat) (ret : Option FieldType) (d : Nat) (As : List Value) (M : gM) (post : Option Value → gM → Prop) : Prop :=
  ∀ l : Launch, Met l y (.code y bytes maxL ret :: gTb) (gRm d) (gPc w As M) (gQ w post) 0 0 (gA w)
def gG (X : gX) (w : gW) (post : Option Value → gM → Prop) (nL : Nat) (M : gM) (pc : Nat) (L : List (Nat × Value)) (st : List Value) : Prop :=
  ∀ (H : Heap) (locs : List Loc) (ls : Array Slot), gPic w M H → va_S (gA w) X.2.2.2.2.1.heap H locs → lv_has ls nL L →
    W X.1 X.2.1 X.2.2.1 X.2.2.2.1 X.2.2.2.2.1 X.2.2.2.2.2.1 X.2.2.2.2.2.2.1 X.2.2.2.2.2.2.2.1 X.2.2.2.2.2.2.2.2.1 X.2.2.2.2.2.2.2.2.2 H locs 0 0 (MQ X.2.2.2.2.2.2.2.1 (gQ w post) X.2.2.2.2.2.2.1 X.2.2.2.2.1 0 0 (gA w)) (F0 X.2.2.2.2.2.1 pc ls st)
def gC (X : gX) (w : gW) (cc : ByteArray) (nL : Nat) (own : String) (ret : Option FieldType) (d : Nat) : Prop :=
  X.1.tables.exec = Jvm.exec ∧ X.2.2.2.2.2.2.2.2.2.code = cc ∧ X.2.2.2.2.2.2.2.2.2.maxLocals = nL ∧ X.2.2.2.2.1.vm.findClass own = some X.2.2.2.2.2.1.cls ∧ (∀ w ∈ gTb, w.before X.2.2.2.2.2.2.1 X.2.2.2.2.1 = true) ∧
  X.2.2.2.2.2.2.2.2.1.sig.returnType = ret ∧ X.2.2.2.2.2.2.2.2.1.locks = false ∧ va_K w.1 vwCl w.2.1 X.2.2.2.2.1 ∧ gI w ∧ gN X.2.2.2.2.1 ∧ d ≤ X.2.2.2.1.frames ∧ 64 * d ≤ X.2.2.2.1.locals
theorem gMet {w : gW} {y : MethodName} {bytes : ByteArray} {maxL d : Nat} {ret : Option FieldType} {As : List Value} {M : gM} {post : Option Value → gM → Prop} (own : String) (hy : plainName y.cls = true) (ho : y.cls = own) (hfit : (lg_sl As).length ≤ maxL)
    (body : ∀ X : gX, gC X w bytes maxL own ret d → gG X w post maxL M 0 (lv_args 0 As) []) : gCt w y bytes maxL ret d As M post := by
  intro l
  refine Met.ofW (cc := bytes) (maxL := maxL) (ret := ret) hy rfl ?_
  intro p e s m args below meth c s₁ B hml hv
  obtain ⟨rfl, hP, hK, hI, hN⟩ := hv
  have hts := atoms_spec (ws := .code y bytes maxL ret :: gTb) B.pre
  have hown : s.vm.findClass y.cls = some m.cls := findClass_of_methodNamed B.named
  rw [ho] at hown
  rw [lg_entry_eq]
  exact body (p, l, e, gRm d, s, m, As.toArray, below, meth, c) ⟨B.exec, B.bytes, hml, hown, fun w h => hts w (List.mem_cons_of_mem _ h), B.returns, B.notSynchronized, hK, hI, hN, Nat.le_refl _, Nat.le_refl _⟩ s.heap [] _ hP va_S.rf (lv_entry As hfit)
/-- locals by their number -/
def lvg : List (Nat × Value) → Nat → Option Value
  | [], _ => none
  | (j, v) :: t, i => if j = i then some v else lvg t i
theorem lvg_mem {L : List (Nat × Value)} {i : Nat} {v : Value} (h : lvg L i = some v) : (i, v) ∈ L := by
  induction L with
  | nil => cases h
  | cons q t ih =>
    obtain ⟨j, u⟩ := q
    unfold lvg at h
    by_cases e : j = i
    · rw [if_pos e] at h
      cases h
      subst e
      exact List.mem_cons_self
    · rw [if_neg e] at h
      exact List.mem_cons_of_mem _ (ih h)
theorem lvg_at {ls : Array Slot} {nL : Nat} {L : List (Nat × Value)} {i : Nat} {v : Value} (h : lv_has ls nL L) (hl : lvg L i = some v) : ls[i]? = some (.val v) := h.2.2 (i, v) (lvg_mem hl)
section Rows
variable {X : gX} {w : gW} {post : Option Value → gM → Prop} {nL : Nat} {M : gM} {pc : Nat} {L : List (Nat × Value)} {st : List Value} {cc : ByteArray} {own : String} {ret : Option FieldType} {d : Nat}
theorem g_sub (ks : List Nat) {L' : List (Nat × Value)} (hl : lv_pick L ks = L') (k : gG X w post nL M pc L' st) : gG X w post nL M pc L st := fun H locs ls hP hS hL => k H locs ls hP hS (lv_sub hL ks hl)
theorem g_iconst (hC : gC X w cc nL own ret d) {n : Int} {v : Int32} (hd : decode cc pc = .ok (.iconst n, 1)) (hv : Int32.ofInt n = v) (k : gG X w post nL M (pc + 1) L (.int v :: st)) : gG X w post nL M pc L st := fun H locs ls hP hS hL => lv_iconst hC.1 hC.2.1 hd hv (k H locs ls hP hS hL)
theorem g_bipush (hC : gC X w cc nL own ret d) {n : Int} {v : Int32} (hd : decode cc pc = .ok (.bipush n, 2)) (hv : (Int8.ofInt n).toInt32 = v) (k : gG X w post nL M (pc + 2) L (.int v :: st)) : gG X w post nL M pc L st := fun H locs ls hP hS hL => lv_bipush hC.1 hC.2.1 hd hv (k H locs ls hP hS hL)
theorem g_sipush (hC : gC X w cc nL own ret d) {n : Int} {v : Int32} (hd : decode cc pc = .ok (.sipush n, 3)) (hv : (Int16.ofInt n).toInt32 = v) (k : gG X w post nL M (pc + 3) L (.int v :: st)) : gG X w post nL M pc L st := fun H locs ls hP hS hL => lv_sipush hC.1 hC.2.1 hd hv (k H locs ls hP hS hL)
theorem g_lconst (hC : gC X w cc nL own ret d) {n : Fin 2} {v : Int64} (hd : decode cc pc = .ok (.lconst n, 1)) (hv : Int64.ofNat (n : Nat) = v) (k : gG X w post nL M (pc + 1) L (.long v :: st)) : gG X w post nL M pc L st := fun H locs ls hP hS hL => lv_lconst hC.1 hC.2.1 hd hv (k H locs ls hP hS hL)
theorem g_ldc2 (hC : gC X w cc nL own ret d) {i : Nat} {v : Int64} (hc : Cond.constantLong own i v ∈ gTb) {v' : Int64} (hv : v = v') (hd : decode cc pc = .ok (.ldc2_w i, 3)) (k : gG X w post nL M (pc + 3) L (.long v' :: st)) : gG X w post nL M pc L st := by
  subst hv
  exact fun H locs ls hP hS hL => lv_ldc2 hC.1 hC.2.1 hC.2.2.2.1 (hC.2.2.2.2.1 _ hc) hd (k H locs ls hP hS hL)
theorem g_null (hC : gC X w cc nL own ret d) (hd : decode cc pc = .ok (.aconst_null, 1)) (k : gG X w post nL M (pc + 1) L (.null :: st)) : gG X w post nL M pc L st := fun H locs ls hP hS hL => lv_null hC.1 hC.2.1 hd (k H locs ls hP hS hL)
theorem g_iload_n (hC : gC X w cc nL own ret d) {i : Fin 4} {x : Int32} (hd : decode cc pc = .ok (.iload_n i, 1)) (hl : lvg L i = some (.int x)) (k : gG X w post nL M (pc + 1) L (.int x :: st)) : gG X w post nL M pc L st := fun H locs ls hP hS hL => lv_iload_n hC.1 hC.2.1 hd rfl (lvg_at hL hl) (k H locs ls hP hS hL)
theorem g_iload (hC : gC X w cc nL own ret d) {i : Nat} {x : Int32} (hd : decode cc pc = .ok (.iload i, 2)) (hl : lvg L i = some (.int x)) (k : gG X w post nL M (pc + 2) L (.int x :: st)) : gG X w post nL M pc L st := fun H locs ls hP hS hL => lv_iload hC.1 hC.2.1 hd (lvg_at hL hl) (k H locs ls hP hS hL)
theorem g_lload_n (hC : gC X w cc nL own ret d) {i : Fin 4} {x : Int64} (hd : decode cc pc = .ok (.lload_n i, 1)) (hl : lvg L i = some (.long x)) (k : gG X w post nL M (pc + 1) L (.long x :: st)) : gG X w post nL M pc L st := fun H locs ls hP hS hL => lv_lload_n hC.1 hC.2.1 hd rfl (lvg_at hL hl) (k H locs ls hP hS hL)
theorem g_lload (hC : gC X w cc nL own ret d) {i : Nat} {x : Int64} (hd : decode cc pc = .ok (.lload i, 2)) (hl : lvg L i = some (.long x)) (k : gG X w post nL M (pc + 2) L (.long x :: st)) : gG X w post nL M pc L st := fun H locs ls hP hS hL => lv_lload hC.1 hC.2.1 hd (lvg_at hL hl) (k H locs ls hP hS hL)
theorem g_aload_n (hC : gC X w cc nL own ret d) {i : Fin 4} {x : Nat} (hd : decode cc pc = .ok (.aload_n i, 1)) (hl : lvg L i = some (.ref x)) (k : gG X w post nL M (pc + 1) L (.ref x :: st)) : gG X w post nL M pc L st := fun H locs ls hP hS hL => lv_aload_n hC.1 hC.2.1 hd rfl (lvg_at hL hl) (k H locs ls hP hS hL)
theorem g_aload (hC : gC X w cc nL own ret d) {i : Nat} {x : Nat} (hd : decode cc pc = .ok (.aload i, 2)) (hl : lvg L i = some (.ref x)) (k : gG X w post nL M (pc + 2) L (.ref x :: st)) : gG X w post nL M pc L st := fun H locs ls hP hS hL => lv_aload hC.1 hC.2.1 hd (lvg_at hL hl) (k H locs ls hP hS hL)
theorem g_istore_n (hC : gC X w cc nL own ret d) {i : Fin 4} {x : Int32} (hd : decode cc pc = .ok (.istore_n i, 1)) (hn : (i : Nat) < nL) {L' : List (Nat × Value)} (hl : ((i : Nat), Value.int x) :: L.filter (fun q => !(q.1 == (i : Nat)) && !(q.1 + 1 == (i : Nat) && q.2.category == 2)) = L') (k : gG X w post nL M (pc + 1) L' st) : gG X w post nL M pc L (.int x :: st) := fun H locs ls hP hS hL => lv_istore_n hC.1 hC.2.1 hd rfl hL hn hl (fun ls hL => k H locs ls hP hS hL)
theorem g_istore (hC : gC X w cc nL own ret d) {i : Nat} {x : Int32} (hd : decode cc pc = .ok (.istore i, 2)) (hn : i < nL) {L' : List (Nat × Value)} (hl : (i, Value.int x) :: L.filter (fun q => !(q.1 == i) && !(q.1 + 1 == i && q.2.category == 2)) = L') (k : gG X w post nL M (pc + 2) L' st) : gG X w post nL M pc L (.int x :: st) := fun H locs ls hP hS hL => lv_istore hC.1 hC.2.1 hd hL hn hl (fun ls hL => k H locs ls hP hS hL)
theorem g_astore_n (hC : gC X w cc nL own ret d) {i : Fin 4} {x : Nat} (hd : decode cc pc = .ok (.astore_n i, 1)) (hn : (i : Nat) < nL) {L' : List (Nat × Value)} (hl : ((i : Nat), Value.ref x) :: L.filter (fun q => !(q.1 == (i : Nat)) && !(q.1 + 1 == (i : Nat) && q.2.category == 2)) = L') (k : gG X w post nL M (pc + 1) L' st) : gG X w post nL M pc L (.ref x :: st) := fun H locs ls hP hS hL => lv_astore_n hC.1 hC.2.1 hd rfl hL hn hl (fun ls hL => k H locs ls hP hS hL)
theorem g_astore (hC : gC X w cc nL own ret d) {i : Nat} {x : Nat} (hd : decode cc pc = .ok (.astore i, 2)) (hn : i < nL) {L' : List (Nat × Value)} (hl : (i, Value.ref x) :: L.filter (fun q => !(q.1 == i) && !(q.1 + 1 == i && q.2.category == 2)) = L') (k : gG X w post nL M (pc + 2) L' st) : gG X w post nL M pc L (.ref x :: st) := fun H locs ls hP hS hL => lv_astore hC.1 hC.2.1 hd hL hn hl (fun ls hL => k H locs ls hP hS hL)
theorem g_lstore_n (hC : gC X w cc nL own ret d) {i : Fin 4} {x : Int64} (hd : decode cc pc = .ok (.lstore_n i, 1)) (hn : (i : Nat) + 1 < nL) {L' : List (Nat × Value)} (hl : ((i : Nat), Value.long x) :: L.filter (fun q => !(q.1 == (i : Nat)) && (!(q.1 == (i : Nat) + 1) && !(q.1 + 1 == (i : Nat) && q.2.category == 2))) = L') (k : gG X w post nL M (pc + 1) L' st) : gG X w post nL M pc L (.long x :: st) := fun H locs ls hP hS hL => lv_lstore_n hC.1 hC.2.1 hd rfl hL hn hl (fun ls hL => k H locs ls hP hS hL)
theorem g_lstore (hC : gC X w cc nL own ret d) {i : Nat} {x : Int64} (hd : decode cc pc = .ok (.lstore i, 2)) (hn : i + 1 < nL) {L' : List (Nat × Value)} (hl : (i, Value.long x) :: L.filter (fun q => !(q.1 == i) && (!(q.1 == i + 1) && !(q.1 + 1 == i && q.2.category == 2))) = L') (k : gG X w post nL M (pc + 2) L' st) : gG X w post nL M pc L (.long x :: st) := fun H locs ls hP hS hL => lv_lstore hC.1 hC.2.1 hd hL hn hl (fun ls hL => k H locs ls hP hS hL)
theorem lvg_idx {L : List (Nat × Value)} {i : Nat} {v : Value} (h : lvg L i = some v) : ∃ k : Nat, L[k]? = some (i, v) := List.getElem?_of_mem (lvg_mem h)
theorem g_iinc (hC : gC X w cc nL own ret d) {i : Nat} {n : Int} {x v : Int32} (hd : decode cc pc = .ok (.iinc i n, 3)) (hg : lvg L i = some (.int x)) (hv : x + Int32.ofInt n = v) (hn : i < nL) {L' : List (Nat × Value)} (hl : (i, Value.int v) :: L.filter (fun q => !(q.1 == i) && !(q.1 + 1 == i && q.2.category == 2)) = L') (k : gG X w post nL M (pc + 3) L' st) : gG X w post nL M pc L st := by
  obtain ⟨j, hj⟩ := lvg_idx hg
  exact fun H locs ls hP hS hL => lv_iinc hC.1 hC.2.1 hd hL hj hv hn hl (fun ls hL => k H locs ls hP hS hL)
-- raw arithmetic; 'hv' names the answer
theorem g_iadd (hC : gC X w cc nL own ret d) {x y v : Int32} (hd : decode cc pc = .ok (.iadd, 1)) (hv : x + y = v) (k : gG X w post nL M (pc + 1) L (.int v :: st)) : gG X w post nL M pc L (.int y :: .int x :: st) := by subst hv; exact fun H locs ls hP hS hL => lv_iadd hC.1 hC.2.1 hd (k H locs ls hP hS hL)
theorem g_isub (hC : gC X w cc nL own ret d) {x y v : Int32} (hd : decode cc pc = .ok (.isub, 1)) (hv : x - y = v) (k : gG X w post nL M (pc + 1) L (.int v :: st)) : gG X w post nL M pc L (.int y :: .int x :: st) := by subst hv; exact fun H locs ls hP hS hL => lv_isub hC.1 hC.2.1 hd (k H locs ls hP hS hL)
theorem g_imul (hC : gC X w cc nL own ret d) {x y v : Int32} (hd : decode cc pc = .ok (.imul, 1)) (hv : x * y = v) (k : gG X w post nL M (pc + 1) L (.int v :: st)) : gG X w post nL M pc L (.int y :: .int x :: st) := by subst hv; exact fun H locs ls hP hS hL => lv_imul hC.1 hC.2.1 hd (k H locs ls hP hS hL)
theorem g_iand (hC : gC X w cc nL own ret d) {x y v : Int32} (hd : decode cc pc = .ok (.iand, 1)) (hv : x &&& y = v) (k : gG X w post nL M (pc + 1) L (.int v :: st)) : gG X w post nL M pc L (.int y :: .int x :: st) := by subst hv; exact fun H locs ls hP hS hL => lv_iand hC.1 hC.2.1 hd (k H locs ls hP hS hL)
theorem g_idiv (hC : gC X w cc nL own ret d) {x y v : Int32} (hd : decode cc pc = .ok (.idiv, 1)) (h0 : ¬ y = 0) (hv : x / y = v) (k : gG X w post nL M (pc + 1) L (.int v :: st)) : gG X w post nL M pc L (.int y :: .int x :: st) := by subst hv; exact fun H locs ls hP hS hL => lv_idiv hC.1 hC.2.1 hd h0 (k H locs ls hP hS hL)
theorem g_irem (hC : gC X w cc nL own ret d) {x y v : Int32} (hd : decode cc pc = .ok (.irem, 1)) (h0 : ¬ y = 0) (hv : x - x / y * y = v) (k : gG X w post nL M (pc + 1) L (.int v :: st)) : gG X w post nL M pc L (.int y :: .int x :: st) := by subst hv; exact fun H locs ls hP hS hL => lv_irem hC.1 hC.2.1 hd h0 (k H locs ls hP hS hL)
theorem g_ladd (hC : gC X w cc nL own ret d) {x y v : Int64} (hd : decode cc pc = .ok (.ladd, 1)) (hv : x + y = v) (k : gG X w post nL M (pc + 1) L (.long v :: st)) : gG X w post nL M pc L (.long y :: .long x :: st) := by subst hv; exact fun H locs ls hP hS hL => lv_ladd hC.1 hC.2.1 hd (k H locs ls hP hS hL)
theorem g_lsub (hC : gC X w cc nL own ret d) {x y v : Int64} (hd : decode cc pc = .ok (.lsub, 1)) (hv : x - y = v) (k : gG X w post nL M (pc + 1) L (.long v :: st)) : gG X w post nL M pc L (.long y :: .long x :: st) := by subst hv; exact fun H locs ls hP hS hL => lv_lsub hC.1 hC.2.1 hd (k H locs ls hP hS hL)
theorem g_lmul (hC : gC X w cc nL own ret d) {x y v : Int64} (hd : decode cc pc = .ok (.lmul, 1)) (hv : x * y = v) (k : gG X w post nL M (pc + 1) L (.long v :: st)) : gG X w post nL M pc L (.long y :: .long x :: st) := by subst hv; exact fun H locs ls hP hS hL => lv_lmul hC.1 hC.2.1 hd (k H locs ls hP hS hL)
theorem g_ldiv (hC : gC X w cc nL own ret d) {x y v : Int64} (hd : decode cc pc = .ok (.ldiv, 1)) (h0 : ¬ y = 0) (hv : x / y = v) (k : gG X w post nL M (pc + 1) L (.long v :: st)) : gG X w post nL M pc L (.long y :: .long x :: st) := by subst hv; exact fun H locs ls hP hS hL => lv_ldiv hC.1 hC.2.1 hd h0 (k H locs ls hP hS hL)
theorem g_lrem (hC : gC X w cc nL own ret d) {x y v : Int64} (hd : decode cc pc = .ok (.lrem, 1)) (h0 : ¬ y = 0) (hv : x - x / y * y = v) (k : gG X w post nL M (pc + 1) L (.long v :: st)) : gG X w post nL M pc L (.long y :: .long x :: st) := by subst hv; exact fun H locs ls hP hS hL => lv_lrem hC.1 hC.2.1 hd h0 (k H locs ls hP hS hL)
theorem g_i2l (hC : gC X w cc nL own ret d) {x : Int32} {v : Int64} (hd : decode cc pc = .ok (.i2l, 1)) (hv : x.toInt64 = v) (k : gG X w post nL M (pc + 1) L (.long v :: st)) : gG X w post nL M pc L (.int x :: st) := fun H locs ls hP hS hL => lv_i2l hC.1 hC.2.1 hd hv (k H locs ls hP hS hL)
theorem g_l2i (hC : gC X w cc nL own ret d) {x : Int64} {v : Int32} (hd : decode cc pc = .ok (.l2i, 1)) (hv : x.toInt32 = v) (k : gG X w post nL M (pc + 1) L (.int v :: st)) : gG X w post nL M pc L (.long x :: st) := fun H locs ls hP hS hL => lv_l2i hC.1 hC.2.1 hd hv (k H locs ls hP hS hL)
theorem g_lushr (hC : gC X w cc nL own ret d) {x v : Int64} {y : Int32} (hd : decode cc pc = .ok (.lushr, 1)) (hv : (x.toUInt64 >>> (y.toInt64.toUInt64 &&& Int64.toUInt64 63)).toInt64 = v) (k : gG X w post nL M (pc + 1) L (.long v :: st)) : gG X w post nL M pc L (.int y :: .long x :: st) := fun H locs ls hP hS hL => lv_lushr hC.1 hC.2.1 hd hv (k H locs ls hP hS hL)
theorem g_lshr (hC : gC X w cc nL own ret d) {x v : Int64} {y : Int32} (hd : decode cc pc = .ok (.lshr, 1)) (hv : x >>> (y.toInt64 &&& 63) = v) (k : gG X w post nL M (pc + 1) L (.long v :: st)) : gG X w post nL M pc L (.int y :: .long x :: st) := fun H locs ls hP hS hL => lv_lshr hC.1 hC.2.1 hd hv (k H locs ls hP hS hL)
theorem g_lcmp (hC : gC X w cc nL own ret d) {x y : Int64} (hd : decode cc pc = .ok (.lcmp, 1)) (k : gG X w post nL M (pc + 1) L (.int (lg_cmp x y) :: st)) : gG X w post nL M pc L (.long y :: .long x :: st) := fun H locs ls hP hS hL => W.lcmp hC.1 hC.2.1 hd (k H locs ls hP hS hL)
theorem g_dup (hC : gC X w cc nL own ret d) {v : Value} (hd : decode cc pc = .ok (.dup, 1)) (hv : v.category = 1) (k : gG X w post nL M (pc + 1) L (v :: v :: st)) : gG X w post nL M pc L (v :: st) := fun H locs ls hP hS hL => lv_dup hC.1 hC.2.1 hd hv (k H locs ls hP hS hL)
theorem g_dup2 (hC : gC X w cc nL own ret d) {v u : Value} (hd : decode cc pc = .ok (.dup2, 1)) (hv : v.category = 1) (hu : u.category = 1) (k : gG X w post nL M (pc + 1) L (v :: u :: v :: u :: st)) : gG X w post nL M pc L (v :: u :: st) := fun H locs ls hP hS hL => lv_dup2_11 hC.1 hC.2.1 hd hv hu (k H locs ls hP hS hL)
theorem g_dup_x1 (hC : gC X w cc nL own ret d) {v u : Value} (hd : decode cc pc = .ok (.dup_x1, 1)) (hv : v.category = 1) (hu : u.category = 1) (k : gG X w post nL M (pc + 1) L (v :: u :: v :: st)) : gG X w post nL M pc L (v :: u :: st) := fun H locs ls hP hS hL => lv_dup_x1 hC.1 hC.2.1 hd hv hu (k H locs ls hP hS hL)
theorem g_goto (hC : gC X w cc nL own ret d) {off : Int} (hd : decode cc pc = .ok (.goto off, 3)) (tgt : Nat) (ht : (pc : Int) + off = (tgt : Int)) (k : gG X w post nL M tgt L st) : gG X w post nL M pc L st := fun H locs ls hP hS hL => lv_goto hC.1 hC.2.1 hd ht (k H locs ls hP hS hL)
theorem g_if_eq (hC : gC X w cc nL own ret d) {x : Int32} {off : Int} (hd : decode cc pc = .ok (.ifCond .eq off, 3)) (tgt : Nat) (ht : (pc : Int) + off = (tgt : Int)) (kt : x = 0 → gG X w post nL M tgt L st) (kf : ¬ x = 0 → gG X w post nL M (pc + 3) L st) : gG X w post nL M pc L (.int x :: st) := fun H locs ls hP hS hL => lv_if_eq hC.1 hC.2.1 hd ht (fun h => kt h H locs ls hP hS hL) (fun h => kf h H locs ls hP hS hL)
theorem g_if_ne (hC : gC X w cc nL own ret d) {x : Int32} {off : Int} (hd : decode cc pc = .ok (.ifCond .ne off, 3)) (tgt : Nat) (ht : (pc : Int) + off = (tgt : Int)) (kt : ¬ x = 0 → gG X w post nL M tgt L st) (kf : x = 0 → gG X w post nL M (pc + 3) L st) : gG X w post nL M pc L (.int x :: st) := fun H locs ls hP hS hL => lv_if_ne hC.1 hC.2.1 hd ht (fun h => kt h H locs ls hP hS hL) (fun h => kf h H locs ls hP hS hL)
theorem g_if_lt (hC : gC X w cc nL own ret d) {x : Int32} {off : Int} (hd : decode cc pc = .ok (.ifCond .lt off, 3)) (tgt : Nat) (ht : (pc : Int) + off = (tgt : Int)) (kt : x < 0 → gG X w post nL M tgt L st) (kf : ¬ x < 0 → gG X w post nL M (pc + 3) L st) : gG X w post nL M pc L (.int x :: st) := fun H locs ls hP hS hL => lv_if_lt hC.1 hC.2.1 hd ht (fun h => kt h H locs ls hP hS hL) (fun h => kf h H locs ls hP hS hL)
theorem g_if_ge (hC : gC X w cc nL own ret d) {x : Int32} {off : Int} (hd : decode cc pc = .ok (.ifCond .ge off, 3)) (tgt : Nat) (ht : (pc : Int) + off = (tgt : Int)) (kt : 0 ≤ x → gG X w post nL M tgt L st) (kf : ¬ 0 ≤ x → gG X w post nL M (pc + 3) L st) : gG X w post nL M pc L (.int x :: st) := fun H locs ls hP hS hL => lv_if_ge hC.1 hC.2.1 hd ht (fun h => kt h H locs ls hP hS hL) (fun h => kf h H locs ls hP hS hL)
theorem g_if_gt (hC : gC X w cc nL own ret d) {x : Int32} {off : Int} (hd : decode cc pc = .ok (.ifCond .gt off, 3)) (tgt : Nat) (ht : (pc : Int) + off = (tgt : Int)) (kt : 0 < x → gG X w post nL M tgt L st) (kf : ¬ 0 < x → gG X w post nL M (pc + 3) L st) : gG X w post nL M pc L (.int x :: st) := fun H locs ls hP hS hL => lv_if_gt hC.1 hC.2.1 hd ht (fun h => kt h H locs ls hP hS hL) (fun h => kf h H locs ls hP hS hL)
theorem g_if_le (hC : gC X w cc nL own ret d) {x : Int32} {off : Int} (hd : decode cc pc = .ok (.ifCond .le off, 3)) (tgt : Nat) (ht : (pc : Int) + off = (tgt : Int)) (kt : x ≤ 0 → gG X w post nL M tgt L st) (kf : ¬ x ≤ 0 → gG X w post nL M (pc + 3) L st) : gG X w post nL M pc L (.int x :: st) := fun H locs ls hP hS hL => lv_if_le hC.1 hC.2.1 hd ht (fun h => kt h H locs ls hP hS hL) (fun h => kf h H locs ls hP hS hL)
theorem g_icmp_eq (hC : gC X w cc nL own ret d) {x y : Int32} {off : Int} (hd : decode cc pc = .ok (.if_icmp .eq off, 3)) (tgt : Nat) (ht : (pc : Int) + off = (tgt : Int)) (kt : x = y → gG X w post nL M tgt L st) (kf : ¬ x = y → gG X w post nL M (pc + 3) L st) : gG X w post nL M pc L (.int y :: .int x :: st) := fun H locs ls hP hS hL => lv_icmp_eq hC.1 hC.2.1 hd ht (fun h => kt h H locs ls hP hS hL) (fun h => kf h H locs ls hP hS hL)
theorem g_icmp_ne (hC : gC X w cc nL own ret d) {x y : Int32} {off : Int} (hd : decode cc pc = .ok (.if_icmp .ne off, 3)) (tgt : Nat) (ht : (pc : Int) + off = (tgt : Int)) (kt : ¬ x = y → gG X w post nL M tgt L st) (kf : x = y → gG X w post nL M (pc + 3) L st) : gG X w post nL M pc L (.int y :: .int x :: st) := fun H locs ls hP hS hL => lv_icmp_ne hC.1 hC.2.1 hd ht (fun h => kt h H locs ls hP hS hL) (fun h => kf h H locs ls hP hS hL)
theorem g_icmp_lt (hC : gC X w cc nL own ret d) {x y : Int32} {off : Int} (hd : decode cc pc = .ok (.if_icmp .lt off, 3)) (tgt : Nat) (ht : (pc : Int) + off = (tgt : Int)) (kt : x < y → gG X w post nL M tgt L st) (kf : ¬ x < y → gG X w post nL M (pc + 3) L st) : gG X w post nL M pc L (.int y :: .int x :: st) := fun H locs ls hP hS hL => lv_icmp_lt hC.1 hC.2.1 hd ht (fun h => kt h H locs ls hP hS hL) (fun h => kf h H locs ls hP hS hL)
theorem g_icmp_ge (hC : gC X w cc nL own ret d) {x y : Int32} {off : Int} (hd : decode cc pc = .ok (.if_icmp .ge off, 3)) (tgt : Nat) (ht : (pc : Int) + off = (tgt : Int)) (kt : y ≤ x → gG X w post nL M tgt L st) (kf : ¬ y ≤ x → gG X w post nL M (pc + 3) L st) : gG X w post nL M pc L (.int y :: .int x :: st) := fun H locs ls hP hS hL => lv_icmp_ge hC.1 hC.2.1 hd ht (fun h => kt h H locs ls hP hS hL) (fun h => kf h H locs ls hP hS hL)
theorem g_icmp_gt (hC : gC X w cc nL own ret d) {x y : Int32} {off : Int} (hd : decode cc pc = .ok (.if_icmp .gt off, 3)) (tgt : Nat) (ht : (pc : Int) + off = (tgt : Int)) (kt : y < x → gG X w post nL M tgt L st) (kf : ¬ y < x → gG X w post nL M (pc + 3) L st) : gG X w post nL M pc L (.int y :: .int x :: st) := fun H locs ls hP hS hL => lv_icmp_gt hC.1 hC.2.1 hd ht (fun h => kt h H locs ls hP hS hL) (fun h => kf h H locs ls hP hS hL)
theorem g_icmp_le (hC : gC X w cc nL own ret d) {x y : Int32} {off : Int} (hd : decode cc pc = .ok (.if_icmp .le off, 3)) (tgt : Nat) (ht : (pc : Int) + off = (tgt : Int)) (kt : x ≤ y → gG X w post nL M tgt L st) (kf : ¬ x ≤ y → gG X w post nL M (pc + 3) L st) : gG X w post nL M pc L (.int y :: .int x :: st) := fun H locs ls hP hS hL => lv_icmp_le hC.1 hC.2.1 hd ht (fun h => kt h H locs ls hP hS hL) (fun h => kf h H locs ls hP hS hL)
theorem g_ifnonnull (hC : gC X w cc nL own ret d) {x : Nat} {off : Int} (hd : decode cc pc = .ok (.ifnonnull off, 3)) (tgt : Nat) (ht : (pc : Int) + off = (tgt : Int)) (k : gG X w post nL M tgt L st) : gG X w post nL M pc L (.ref x :: st) := fun H locs ls hP hS hL => lv_ifnonnull hC.1 hC.2.1 hd ht (k H locs ls hP hS hL)
theorem g_ifnull (hC : gC X w cc nL own ret d) {x : Nat} {off : Int} (hd : decode cc pc = .ok (.ifnull off, 3)) (k : gG X w post nL M (pc + 3) L st) : gG X w post nL M pc L (.ref x :: st) := fun H locs ls hP hS hL => lv_ifnull hC.1 hC.2.1 hd (k H locs ls hP hS hL)
/-- another state of the stack that is the same -/
theorem g_st {st' : List Value} (h : st = st') (k : gG X w post nL M pc L st') : gG X w post nL M pc L st := h ▸ k
theorem g_M {M' : gM} (h : M = M') (k : gG X w post nL M' pc L st) : gG X w post nL M pc L st := h ▸ k
-- ends
theorem g_iret (hC : gC X w cc nL own (some .int) d) {v : Int32} (hd : decode cc pc = .ok (.ireturn, 1)) (hp : post (some (.int v)) M) : gG X w post nL M pc L [.int v] := fun H locs ls hP hS hL => by
  have hlocks := hC.2.2.2.2.2.2.1
  exact W.iret hC.1 hC.2.1 hC.2.2.2.2.2.1 (fun t ht hW => ⟨⟨_, M, rfl, hp, by rw [ht]; exact hP⟩, hS.F ht⟩) hS.2.2 hd
theorem g_lret (hC : gC X w cc nL own (some .long) d) {v : Int64} (hd : decode cc pc = .ok (.lreturn, 1)) (hp : post (some (.long v)) M) : gG X w post nL M pc L [.long v] := fun H locs ls hP hS hL => by
  have hlocks := hC.2.2.2.2.2.2.1
  exact W.lret hC.1 hC.2.1 hC.2.2.2.2.2.1 (fun t ht hW => ⟨⟨_, M, rfl, hp, by rw [ht]; exact hP⟩, hS.F ht⟩) hS.2.2 hd
theorem g_vret (hC : gC X w cc nL own none d) (hd : decode cc pc = .ok (.return_, 1)) (hp : post none M) : gG X w post nL M pc L [] := fun H locs ls hP hS hL => by
  have hlocks := hC.2.2.2.2.2.2.1
  exact W.vret hC.1 hC.2.1 hC.2.2.2.2.2.1 (fun t ht hW => ⟨⟨_, M, rfl, hp, by rw [ht]; exact hP⟩, hS.F ht⟩) hS.2.2 hd
theorem g_zret (hC : gC X w cc nL own (some .boolean) d) {v : Int32} (hn : v = 0 ∨ v = 1) (hd : decode cc pc = .ok (.ireturn, 1)) (hp : post (some (.int v)) M) : gG X w post nL M pc L [.int v] := fun H locs ls hP hS hL => by
  have hlocks := hC.2.2.2.2.2.2.1
  have hn' : narrow .boolean (.int v) = .int v := by rcases hn with rfl | rfl <;> rfl
  exact W.zret hC.1 hC.2.1 hC.2.2.2.2.2.1 hn' (fun t ht hW => ⟨⟨_, M, rfl, hp, by rw [ht]; exact hP⟩, hS.F ht⟩) hS.2.2 hd
theorem g_aret {rt : String} (hC : gC X w cc nL own (some (.object rt)) d) {v : Value} (hv : v = .null ∨ ∃ a, v = .ref a) (hd : decode cc pc = .ok (.areturn, 1)) (hp : post (some v) M) : gG X w post nL M pc L [v] := fun H locs ls hP hS hL => by
  have hlocks := hC.2.2.2.2.2.2.1
  exact W.aret hC.1 hC.2.1 hC.2.2.2.2.2.1 (Or.inl ⟨_, rfl⟩) hv (fun t ht hW => ⟨⟨_, M, rfl, hp, by rw [ht]; exact hP⟩, hS.F ht⟩) hS.2.2 hd
end Rows
