/-! THE LAW: its loop -/
theorem k_tabIn {X : gX} {D : va_G} {cy : Nat → ClassId} {I : Heap → List Loc → Prop} {Q : State → Prop} {nc ns nL pc : Nat} {L : List (Nat × Value)} {st : List Value} {cc : ByteArray} {own : String} {d : Nat} (hC : kC X D cy cc nL own d) {dflt lo hi off : Int} {offs : Array Int} {len : Nat} {x : Int32} (hd : decode cc pc = .ok (.tableswitch dflt lo hi offs, len)) (h1 : ¬ x.toInt < lo) (h2 : ¬ hi < x.toInt) (ho : offs[(x.toInt - lo).toNat]? = some off) (tgt : Nat) (ht : (pc : Int) + off = (tgt : Int)) (k : kG X I Q nc ns nL tgt L st) : kG X I Q nc ns nL pc L (.int x :: st) := fun H locs ls hI hL => lv_tableIn hC.1 hC.2.1 hd h1 h2 ho ht (k H locs ls hI hL)
theorem k_tabOut {X : gX} {D : va_G} {cy : Nat → ClassId} {I : Heap → List Loc → Prop} {Q : State → Prop} {nc ns nL pc : Nat} {L : List (Nat × Value)} {st : List Value} {cc : ByteArray} {own : String} {d : Nat} (hC : kC X D cy cc nL own d) {dflt lo hi : Int} {offs : Array Int} {len : Nat} {x : Int32} (hd : decode cc pc = .ok (.tableswitch dflt lo hi offs, len)) (h : x.toInt < lo ∨ hi < x.toInt) (tgt : Nat) (ht : (pc : Int) + dflt = (tgt : Int)) (k : kG X I Q nc ns nL tgt L st) : kG X I Q nc ns nL pc L (.int x :: st) := fun H locs ls hI hL => lv_tableOut hC.1 hC.2.1 hd h ht (k H locs ls hI hL)
theorem law_le {i L : Nat} (hi : i < 100000) (hL : L < 100000) (h : ¬ (nI L - 7 < nI i)) : i + 7 ≤ L := by
  by_cases c : 7 ≤ L
  · rw [show (7 : Int32) = nI 7 from by decide, pk_sub c] at h
    have h2 : ¬ L - 7 < i := fun z => h ((nI_ltI (by omega) (by omega)).mpr z)
    omega
  · refine absurd ?_ h
    rw [Int32.lt_iff_toInt_lt, nI_toInt (by omega)]
    have h3 : (nI L - 7).toInt < 0 := by
      rcases (show L = 0 ∨ L = 1 ∨ L = 2 ∨ L = 3 ∨ L = 4 ∨ L = 5 ∨ L = 6 by omega) with rfl | rfl | rfl | rfl | rfl | rfl | rfl <;> decide
    omega
theorem law_op (x : Int32) : ∃ k, k < 64 ∧ x &&& nI 63 = nI k := ⟨x.toBitVec.toNat % 2 ^ 6, Nat.mod_lt _ (by decide), pk_and x (m := nI 63) 6 (by decide)⟩
section Loop
variable {X : gX} {D : va_G} {cy : Nat → ClassId} {base b L : Nat} {xs : Nat → Int32} {Q : State → Prop} {MC MM : gM}
theorem law_tail (hL : lC X D cy base b L xs) {i : Nat} (k : lG X D cy base Q MC MM 18 (lL base b (i + 7)) []) : lG X D cy base Q MC MM 1489 (lL base b i) [] := by
  refine k_iinc hL.1 (gDec_at DL_law_16 7 rfl) rfl (v := nI (i + 7)) (nI_add i 7) (by decide) (L' := [(3, .int (nI (i + 7))), (0, .ref b), (1, .ref base), (2, .ref (base + 63))]) rfl ?_
  refine k_goto hL.1 (gDec_at DL_law_16 8 rfl) 18 (by decide) ?_
  exact k_sub [1, 2, 3, 0] rfl k
set_option maxRecDepth 100000 in
set_option maxHeartbeats 4000000 in
theorem law_pick (hL : lC X D cy base b L xs) {i k : Nat} (hi : i + 7 ≤ L) (hS : gSt MC MM) (hk : k < 64) (K : ∀ MC' MM' : gM, gSt MC' MM' → lG X D cy base Q MC' MM' 1489 (lL base b i) []) : lG X D cy base Q MC MM 33 (lL base b i) [.int (nI k)] := by
  by_cases h36 : k < 36
  · rcases (show k = 0 ∨ k = 1 ∨ k = 2 ∨ k = 3 ∨ k = 4 ∨ k = 5 ∨ k = 6 ∨ k = 7 ∨ k = 8 ∨ k = 9 ∨ k = 10 ∨ k = 11 ∨ k = 12 ∨ k = 13 ∨ k = 14 ∨ k = 15 ∨ k = 16 ∨ k = 17 ∨ k = 18 ∨ k = 19 ∨ k = 20 ∨ k = 21 ∨ k = 22 ∨ k = 23 ∨ k = 24 ∨ k = 25 ∨ k = 26 ∨ k = 27 ∨ k = 28 ∨ k = 29 ∨ k = 30 ∨ k = 31 ∨ k = 32 ∨ k = 33 ∨ k = 34 ∨ k = 35 by omega) with rfl | rfl | rfl | rfl | rfl | rfl | rfl | rfl | rfl | rfl | rfl | rfl | rfl | rfl | rfl | rfl | rfl | rfl | rfl | rfl | rfl | rfl | rfl | rfl | rfl | rfl | rfl | rfl | rfl | rfl | rfl | rfl | rfl | rfl | rfl | rfl
    · exact k_tabIn hL.1 (gDec_at DL_law_0 21 rfl) (by decide) (by decide) (off := 159) (by decide) 192 (by decide) (law_0 hL hi hS K)
    · exact k_tabIn hL.1 (gDec_at DL_law_0 21 rfl) (by decide) (by decide) (off := 222) (by decide) 255 (by decide) (law_1 hL hi hS K)
    · exact k_tabIn hL.1 (gDec_at DL_law_0 21 rfl) (by decide) (by decide) (off := 235) (by decide) 268 (by decide) (law_2 hL hi hS K)
    · exact k_tabIn hL.1 (gDec_at DL_law_0 21 rfl) (by decide) (by decide) (off := 248) (by decide) 281 (by decide) (law_3 hL hi hS K)
    · exact k_tabIn hL.1 (gDec_at DL_law_0 21 rfl) (by decide) (by decide) (off := 261) (by decide) 294 (by decide) (law_4 hL hi hS K)
    · exact k_tabIn hL.1 (gDec_at DL_law_0 21 rfl) (by decide) (by decide) (off := 314) (by decide) 347 (by decide) (law_5 hL hi hS K)
    · exact k_tabIn hL.1 (gDec_at DL_law_0 21 rfl) (by decide) (by decide) (off := 347) (by decide) 380 (by decide) (law_6 hL hi hS K)
    · exact k_tabIn hL.1 (gDec_at DL_law_0 21 rfl) (by decide) (by decide) (off := 396) (by decide) 429 (by decide) (law_7 hL hi hS K)
    · exact k_tabIn hL.1 (gDec_at DL_law_0 21 rfl) (by decide) (by decide) (off := 429) (by decide) 462 (by decide) (law_8 hL hi hS K)
    · exact k_tabIn hL.1 (gDec_at DL_law_0 21 rfl) (by decide) (by decide) (off := 453) (by decide) 486 (by decide) (law_9 hL hi hS K)
    · exact k_tabIn hL.1 (gDec_at DL_law_0 21 rfl) (by decide) (by decide) (off := 477) (by decide) 510 (by decide) (law_10 hL hi hS K)
    · exact k_tabIn hL.1 (gDec_at DL_law_0 21 rfl) (by decide) (by decide) (off := 490) (by decide) 523 (by decide) (law_11 hL hi hS K)
    · exact k_tabIn hL.1 (gDec_at DL_law_0 21 rfl) (by decide) (by decide) (off := 540) (by decide) 573 (by decide) (law_12 hL hi hS K)
    · exact k_tabIn hL.1 (gDec_at DL_law_0 21 rfl) (by decide) (by decide) (off := 574) (by decide) 607 (by decide) (law_13 hL hi hS K)
    · exact k_tabIn hL.1 (gDec_at DL_law_0 21 rfl) (by decide) (by decide) (off := 597) (by decide) 630 (by decide) (law_14 hL hi hS K)
    · exact k_tabIn hL.1 (gDec_at DL_law_0 21 rfl) (by decide) (by decide) (off := 610) (by decide) 643 (by decide) (law_15 hL hi hS K)
    · exact k_tabIn hL.1 (gDec_at DL_law_0 21 rfl) (by decide) (by decide) (off := 643) (by decide) 676 (by decide) (law_16 hL hi hS K)
    · exact k_tabIn hL.1 (gDec_at DL_law_0 21 rfl) (by decide) (by decide) (off := 666) (by decide) 699 (by decide) (law_17 hL hi hS K)
    · exact k_tabIn hL.1 (gDec_at DL_law_0 21 rfl) (by decide) (by decide) (off := 689) (by decide) 722 (by decide) (law_18 hL hi hS K)
    · exact k_tabIn hL.1 (gDec_at DL_law_0 21 rfl) (by decide) (by decide) (off := 712) (by decide) 745 (by decide) (law_19 hL hi hS K)
    · exact k_tabIn hL.1 (gDec_at DL_law_0 21 rfl) (by decide) (by decide) (off := 735) (by decide) 768 (by decide) (law_20 hL hi hS K)
    · exact k_tabIn hL.1 (gDec_at DL_law_0 21 rfl) (by decide) (by decide) (off := 768) (by decide) 801 (by decide) (law_21 hL hi hS K)
    · exact k_tabIn hL.1 (gDec_at DL_law_0 21 rfl) (by decide) (by decide) (off := 811) (by decide) 844 (by decide) (law_22 hL hi hS K)
    · exact k_tabIn hL.1 (gDec_at DL_law_0 21 rfl) (by decide) (by decide) (off := 864) (by decide) 897 (by decide) (law_23 hL hi hS K)
    · exact k_tabIn hL.1 (gDec_at DL_law_0 21 rfl) (by decide) (by decide) (off := 907) (by decide) 940 (by decide) (law_24 hL hi hS K)
    · exact k_tabIn hL.1 (gDec_at DL_law_0 21 rfl) (by decide) (by decide) (off := 940) (by decide) 973 (by decide) (law_25 hL hi hS K)
    · exact k_tabIn hL.1 (gDec_at DL_law_0 21 rfl) (by decide) (by decide) (off := 1000) (by decide) 1033 (by decide) (law_26 hL hi hS K)
    · exact k_tabIn hL.1 (gDec_at DL_law_0 21 rfl) (by decide) (by decide) (off := 1060) (by decide) 1093 (by decide) (law_27 hL hi hS K)
    · exact k_tabIn hL.1 (gDec_at DL_law_0 21 rfl) (by decide) (by decide) (off := 1168) (by decide) 1201 (by decide) (law_28 hL hi hS K)
    · exact k_tabIn hL.1 (gDec_at DL_law_0 21 rfl) (by decide) (by decide) (off := 1201) (by decide) 1234 (by decide) (law_29 hL hi hS K)
    · exact k_tabIn hL.1 (gDec_at DL_law_0 21 rfl) (by decide) (by decide) (off := 1224) (by decide) 1257 (by decide) (law_30 hL hi hS K)
    · exact k_tabIn hL.1 (gDec_at DL_law_0 21 rfl) (by decide) (by decide) (off := 1237) (by decide) 1270 (by decide) (law_31 hL hi hS K)
    · exact k_tabIn hL.1 (gDec_at DL_law_0 21 rfl) (by decide) (by decide) (off := 1317) (by decide) 1350 (by decide) (law_32 hL hi hS K)
    · exact k_tabIn hL.1 (gDec_at DL_law_0 21 rfl) (by decide) (by decide) (off := 1387) (by decide) 1420 (by decide) (law_33 hL hi hS K)
    · exact k_tabIn hL.1 (gDec_at DL_law_0 21 rfl) (by decide) (by decide) (off := 1410) (by decide) 1443 (by decide) (law_34 hL hi hS K)
    · exact k_tabIn hL.1 (gDec_at DL_law_0 21 rfl) (by decide) (by decide) (off := 1433) (by decide) 1466 (by decide) (law_35 hL hi hS K)
  · exact k_tabOut hL.1 (gDec_at DL_law_0 21 rfl) (Or.inr (by rw [nI_toInt (by omega)]; omega)) 1489 (by decide) (K MC MM hS)
theorem law_loop (hL : lC X D cy base b L xs) (hEnd : ∀ (MC MM : gM) (Ls : List (Nat × Value)), lG X D cy base Q MC MM 1496 Ls [.int 1]) : ∀ (n i : Nat) (MC MM : gM), L + 7 < i + n → i ≤ L + 7 → gSt MC MM → lG X D cy base Q MC MM 18 (lL base b i) []
  | 0, i, MC, MM, h1, h2, _ => absurd h1 (by omega)
  | n + 1, i, MC, MM, h1, h2, hS => by
    have h35 := hL.2.2.2.2.1
    refine k_iload_n hL.1 (gDec_at DL_law_0 10 rfl) rfl ?_
    refine k_aload_n hL.1 (gDec_at DL_law_0 11 rfl) rfl ?_
    refine l_slen hL (gDec_at DL_law_0 12 rfl) ?_
    refine k_bipush hL.1 (gDec_at DL_law_0 13 rfl) (v := 7) (by decide) ?_
    refine k_isub hL.1 (gDec_at DL_law_0 14 rfl) rfl ?_
    refine k_icmp_gt hL.1 (gDec_at DL_law_0 15 rfl) 1495 (by decide) (fun h => ?_) (fun h => ?_)
    · exact k_iconst hL.1 (gDec_at DL_law_16 9 rfl) (v := 1) (by decide) (hEnd MC MM _)
    · have hi : i + 7 ≤ L := law_le (by omega) (by omega) h
      obtain ⟨k, hk, e⟩ := law_op (xs i)
      refine k_aload_n hL.1 (gDec_at DL_law_0 16 rfl) rfl ?_
      refine k_iload_n hL.1 (gDec_at DL_law_0 17 rfl) rfl ?_
      refine l_sld hL (j := i) (by omega) (gDec_at DL_law_0 18 rfl) ?_
      refine k_bipush hL.1 (gDec_at DL_law_0 19 rfl) (v := nI 63) (by decide) ?_
      refine k_iand hL.1 (gDec_at DL_law_0 20 rfl) e ?_
      exact law_pick hL hi hS hk (fun MC' MM' hS' => law_tail hL (law_loop hL hEnd n (i + 7) MC' MM' (by omega) (by omega) hS'))
end Loop