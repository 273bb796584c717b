/-! THE LAW: rows over both worlds -/
def lI (X : gX) (D : va_G) (cy : Nat → ClassId) (base : Nat) (MC MM : gM) : Heap → List Loc → Prop := fun H locs => gPic (wC (qC0 D cy base)) MC H ∧ gPic (wM (qM0 D cy base)) MM H ∧ va_S (kA base) X.2.2.2.2.1.heap H locs
abbrev lG (X : gX) (D : va_G) (cy : Nat → ClassId) (base : Nat) (Q : State → Prop) (MC MM : gM) (pc : Nat) (L : List (Nat × Value)) (st : List Value) : Prop := kG X (lI X D cy base MC MM) Q 600000 7302250 4 pc L st
/-- the law's surroundings: the script of L ints xs at b, its own code, room for calls -/
def lC (X : gX) (D : va_G) (cy : Nat → ClassId) (base b L : Nat) (xs : Nat → Int32) : Prop := kC X D cy code 4 RL 20 ∧ X.2.2.2.2.1.heap.size = base ∧ va_X b L xs X.2.2.2.2.1 X.2.2.2.2.1.heap ∧ b < base ∧ L ≤ 3584 ∧ 600000 ≤ X.2.2.2.1.cells ∧ 7302250 ≤ X.2.2.2.1.slots
abbrev lL (base b i : Nat) : List (Nat × Value) := [(0, .ref b), (1, .ref base), (2, .ref (base + 63)), (3, .int (nI i))]
def bt (v : Int32) : Nat := if v = 0 then 0 else 1
theorem bt_le (v : Int32) : bt v ≤ 1 := by unfold bt; split <;> omega
section LRows
variable {X : gX} {D : va_G} {cy : Nat → ClassId} {base b L : Nat} {xs : Nat → Int32} {Q : State → Prop} {MC MM : gM} {pc i : Nat} {Ls : List (Nat × Value)} {st : List Value}
theorem k_imp {I I' : Heap → List Loc → Prop} {nc ns nL : Nat} (h : ∀ H locs, I H locs → I' H locs) (k : kG X I' Q nc ns nL pc Ls st) : kG X I Q nc ns nL pc Ls st := fun H locs ls hI hL => k H locs ls (h H locs hI) hL
theorem l_sld (hL : lC X D cy base b L xs) {j : Nat} (hj : j < L) (hd : decode code pc = .ok (.iaload, 1)) (k : lG X D cy base Q MC MM (pc + 1) Ls (.int (xs j) :: st)) : lG X D cy base Q MC MM pc Ls (.int (nI j) :: .ref b :: st) := by
  intro H locs ls hI hl
  obtain ⟨hC, hz, hX, hb, h35, -, -⟩ := hL
  refine va_sld (A := kA base) hC.1 hC.2.1 hX (by rw [hz]; exact hb) (fun z => by have z2 : base ≤ b := z; omega) hI.2.2 (vp_in_nI hj (by omega)) hd ?_
  rw [nI_clamp (by omega)]
  exact k H locs ls hI hl
theorem l_slen (hL : lC X D cy base b L xs) (hd : decode code pc = .ok (.arraylength, 1)) (k : lG X D cy base Q MC MM (pc + 1) Ls (.int (nI L) :: st)) : lG X D cy base Q MC MM pc Ls (.ref b :: st) := by
  intro H locs ls hI hl
  obtain ⟨hC, hz, hX, hb, h35, -, -⟩ := hL
  exact va_slen (A := kA base) hC.1 hC.2.1 hX (by rw [hz]; exact hb) (fun z => by have z2 : base ≤ b := z; omega) hI.2.2 hd (k H locs ls hI hl)
/-- script[i + j], j in one byte -/
theorem l_arg (hL : lC X D cy base b L xs) (j : Nat) {n : Int} (hj : i + j < L) (h0 : decode code pc = .ok (.aload_n 0, 1)) (h1 : decode code (pc + 1) = .ok (.iload_n 3, 1)) (h2 : decode code (pc + 2) = .ok (.iconst n, 1)) (hn : Int32.ofInt n = nI j) (h3 : decode code (pc + 3) = .ok (.iadd, 1)) (h4 : decode code (pc + 4) = .ok (.iaload, 1)) (k : lG X D cy base Q MC MM (pc + 5) (lL base b i) (.int (xs (i + j)) :: st)) : lG X D cy base Q MC MM pc (lL base b i) st :=
  k_aload_n hL.1 h0 rfl (k_iload_n hL.1 h1 rfl (k_iconst hL.1 h2 hn (k_iadd hL.1 h3 (nI_add i j) (l_sld hL hj h4 k))))
theorem l_arg6 (hL : lC X D cy base b L xs) (j : Nat) {n : Int} (hj : i + j < L) (h0 : decode code pc = .ok (.aload_n 0, 1)) (h1 : decode code (pc + 1) = .ok (.iload_n 3, 1)) (h2 : decode code (pc + 2) = .ok (.bipush n, 2)) (hn : (Int8.ofInt n).toInt32 = nI j) (h3 : decode code (pc + 4) = .ok (.iadd, 1)) (h4 : decode code (pc + 5) = .ok (.iaload, 1)) (k : lG X D cy base Q MC MM (pc + 6) (lL base b i) (.int (xs (i + j)) :: st)) : lG X D cy base Q MC MM pc (lL base b i) st :=
  k_aload_n hL.1 h0 rfl (k_iload_n hL.1 h1 rfl (k_bipush hL.1 h2 hn (k_iadd hL.1 h3 (nI_add i j) (l_sld hL hj h4 k))))
/-- .. != 0 -/
theorem l_bool (hL : lC X D cy base b L xs) {v : Int32} (h0 : decode code pc = .ok (.ifCond .eq 7, 3)) (h1 : decode code (pc + 3) = .ok (.iconst 1, 1)) (h2 : decode code (pc + 4) = .ok (.goto 4, 3)) (h3 : decode code (pc + 7) = .ok (.iconst 0, 1)) (k : lG X D cy base Q MC MM (pc + 8) Ls (.int (nI (bt v)) :: st)) : lG X D cy base Q MC MM pc Ls (.int v :: st) := by
  unfold bt at k
  refine k_if_eq hL.1 h0 (pc + 7) (by omega) (fun h => ?_) (fun h => ?_)
  · rw [if_pos h] at k
    exact k_iconst hL.1 h3 (by decide) k
  · rw [if_neg h] at k
    exact k_iconst hL.1 h1 (by decide) (k_goto hL.1 h2 (pc + 8) (by omega) k)
/-- a call into one of the two worlds; the other stays -/
theorem l_call {w w' : gW} {M M' : gM} {nc ns : Nat} (hC : kC X D cy code 4 RL 20) (hw : w.1 = D ∧ w.2.1 = gTys cy) (hI : gI w) (hA : ∀ q, gA w q → base ≤ q) (hB : base = X.2.2.2.2.1.heap.size) (hdis : ∀ i j, i < w.2.2.1 → j < w'.2.2.1 → w.2.2.2.1 i ≠ w'.2.2.2.1 j) {idx d' maxL n ci a : Nat} {y : MethodName} {bytes : ByteArray} {ret' : Option FieldType} {As st0 : List Value} {v : Value} {PC : gM → Prop} {fs : List Value} {q : vw_C} (hct : gCt w y bytes maxL ret' d' (.ref (w.2.2.2.1 0) :: As) M (fun r M1 => r = some v ∧ PC M1)) (hf : gVf y bytes maxL ret' n) (hlk : Cond.methodLink RL idx y ∈ gTb) (hd' : d' ≤ 10) (hi : 0 < w.2.2.1) (hF : w.2.2.2.2 (M.1 0) (M.2 0) 0 = .inr (ci, fs)) (hc : vwCl[ci]? = some q) (hq : q.1 = y.cls) (hn : As.length = n) (ha : w.2.2.2.1 0 = a) (hst : st0 = As.reverse ++ .ref a :: st) (hcat : (st.map fun v => v.category).sum ≤ 8) (hr : nc ≤ X.2.2.2.1.cells ∧ ns ≤ X.2.2.2.1.slots) (hd : decode code pc = .ok (.invokevirtual idx, 3))
    (kk : ∀ M1 : gM, PC M1 → kG X (fun H locs => gPic w M1 H ∧ gPic w' M' H ∧ va_S (kA base) X.2.2.2.2.1.heap H locs) Q nc ns 4 (pc + 3) Ls (v :: st)) : kG X (fun H locs => gPic w M H ∧ gPic w' M' H ∧ va_S (kA base) X.2.2.2.2.1.heap H locs) Q nc ns 4 pc Ls st0 := by
  intro H locs ls ⟨hP, hP', hS⟩ hL
  subst ha
  obtain ⟨f1, f2, f3, f4, f5, f6⟩ := hf
  have he : (gws w.2.2.1 w.2.2.2.1 (fun i => w.2.2.2.2 (M.1 i) (M.2 i) i))[0]? = some (w.2.2.2.1 0, .inr (ci, fs)) := by rw [gws_get hi, hF]
  have hts := hC.2.2.2.2.1
  obtain ⟨-, -, -, -, -, hK, hN, -, hr1, hr2, -⟩ := id hC
  have hK : va_K w.1 vwCl w.2.1 X.2.2.2.2.1 := by rw [hw.1, hw.2]; exact hK
  have hrun := va_runV (p := X.1) (l := X.2.1) (e := X.2.2.1) (R := X.2.2.2.1) (s := X.2.2.2.2.1) (m := X.2.2.2.2.2.1) (args := X.2.2.2.2.2.2.1) (below := X.2.2.2.2.2.2.2.1) (meth := X.2.2.2.2.2.2.2.2.1) (c := X.2.2.2.2.2.2.2.2.2) (H := H) (locs := locs) (cells := nc) (slots := ns) (g := F0 X.2.2.2.2.2.1 pc ls st0) (As := As) (rest := st) (C := y.cls) (n := n) ⟨hC.1, hC.2.1, hC.2.2.1, hC.2.2.2.1, hts⟩ (hct X.2.1) ⟨callB_of n hts (gTb_code f4) rfl rfl rfl (hts _ f3) (hts _ hlk) f5 ⟨(by show d' + 1 ≤ _; omega), (by show 8 + (maxL + 11) + 64 * d' ≤ _; omega)⟩, hts _ f1, hts _ f2⟩
    ⟨gBlind, by rw [← hq]; exact va_recv hK hP hc he, fun U hU hW => ⟨rfl, by rw [hU]; exact hP, va_K.moved hW.alike hK, hI, gN.warm hW hN⟩⟩ rfl hn hL.1 hst (lv_room hcat) hd ⟨hr.1, hr.2⟩
  intro T hT XT
  obtain ⟨v', st₀, t, T', Lc, h0, X', hLc, e1, e2, ⟨⟨v2, M1, hv, hp, hpic⟩, hz, hk⟩, go⟩ := hrun T hT XT
  cases hv
  obtain ⟨hv2, hp⟩ := hp
  cases hv2
  rw [h0] at hz hk
  have hP1 : gPic w' M' T'.heap := hP'.kept (fun k x hx => by
    obtain ⟨hkj, rfl⟩ := gws_of hx
    have hlt : w'.2.2.2.1 k < H.size := (hP' k _ hx).lt
    rw [e1]
    exact hk _ hlt (fun ⟨z, hz1, hz2⟩ => hdis z k hz1 hkj hz2.symm))
  obtain ⟨t2, a1, b1⟩ := kk M1 hp T'.heap (locs ++ Lc) ls ⟨by rw [e1]; exact hpic, hP1, Nat.le_trans hS.1 (by rw [e1]; exact hz), fun q h1 h2 => by rw [e1, hk q (Nat.lt_of_lt_of_le h1 hS.1) (fun z => h2 (hA q z))]; exact hS.2.1 q h1 h2, fun q hq => by
      rcases List.mem_append.mp hq with h | h
      · exact hS.2.2 q h
      · exact hA _ (hLc q h)⟩ hL T' rfl X'
  exact ⟨t2, go t2 a1, b1⟩
theorem l_callC (hL : lC X D cy base b L xs) {idx d' maxL n : Nat} {y : MethodName} {bytes : ByteArray} {ret' : Option FieldType} {As st0 : List Value} {v : Value} {PC : gM → Prop} (hct : gCt (wC (qC0 D cy base)) y bytes maxL ret' d' (.ref ((qC0 D cy base).2.2 0) :: As) MC (fun r M1 => r = some v ∧ PC M1)) (hf : gVf y bytes maxL ret' n) (hlk : Cond.methodLink RL idx y ∈ gTb) (hd' : d' ≤ 10) (hq : RX6 = y.cls) (hn : As.length = n) (hst : st0 = As.reverse ++ .ref base :: st) (hcat : (st.map fun v => v.category).sum ≤ 8) (hd : decode code pc = .ok (.invokevirtual idx, 3))
    (kk : ∀ M1 : gM, PC M1 → lG X D cy base Q M1 MM (pc + 3) Ls (v :: st)) : lG X D cy base Q MC MM pc Ls st0 :=
  l_call (w := wC (qC0 D cy base)) (w' := wM (qM0 D cy base)) hL.1 ⟨rfl, rfl⟩ (gI_C D cy base) (fun q ⟨z, _, h⟩ => by rw [h]; exact Nat.le_add_right base _) hL.2.1.symm (fun i j hi hj h => by have h1 := piC_lt i hi; have h2 : base + piC i = base + 63 + j := h; omega) hct hf hlk hd' (show 0 < 63 by decide) rfl (q := (RX6, TX6, 4)) rfl hq hn rfl hst hcat ⟨hL.2.2.2.2.2.1, hL.2.2.2.2.2.2⟩ hd kk
theorem l_callM (hL : lC X D cy base b L xs) {idx d' maxL n : Nat} {y : MethodName} {bytes : ByteArray} {ret' : Option FieldType} {As st0 : List Value} {v : Value} {PC : gM → Prop} (hct : gCt (wM (qM0 D cy base)) y bytes maxL ret' d' (.ref ((qM0 D cy base).2.2 0) :: As) MM (fun r M1 => r = some v ∧ PC M1)) (hf : gVf y bytes maxL ret' n) (hlk : Cond.methodLink RL idx y ∈ gTb) (hd' : d' ≤ 10) (hq : RX7 = y.cls) (hn : As.length = n) (hst : st0 = As.reverse ++ .ref (base + 63) :: st) (hcat : (st.map fun v => v.category).sum ≤ 8) (hd : decode code pc = .ok (.invokevirtual idx, 3))
    (kk : ∀ M1 : gM, PC M1 → lG X D cy base Q MC M1 (pc + 3) Ls (v :: st)) : lG X D cy base Q MC MM pc Ls st0 :=
  k_imp (fun H locs ⟨h1, h2, h3⟩ => ⟨h2, h1, h3⟩) (l_call (w := wM (qM0 D cy base)) (w' := wC (qC0 D cy base)) hL.1 ⟨rfl, rfl⟩ (gI_M D cy base) (fun q ⟨z, _, h⟩ => by rw [h]; show base ≤ base + 63 + z; omega) hL.2.1.symm (fun i j hi hj h => by have h1 := piC_lt j hj; have h2 : base + 63 + i = base + piC j := h; omega) hct hf hlk hd' (show 0 < 17 by decide) rfl (q := (RX7, TX7, 24)) rfl hq hn rfl hst hcat ⟨hL.2.2.2.2.2.1, hL.2.2.2.2.2.2⟩ hd (fun M1 p => k_imp (fun H locs ⟨h1, h2, h3⟩ => ⟨h2, h1, h3⟩) (kk M1 p)))
end LRows