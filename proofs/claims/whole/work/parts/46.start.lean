/-! THE START: classes, arrays, the two objects, the loop -/
theorem law_known {s : State} {b : Nat} (hts : ∀ w ∈ lw_tbl, w.before #[Value.ref b] s = true) : ∃ (D : va_G) (cy : Nat → ClassId), va_K D vwCl (gTys cy) s ∧ gN s ∧ kAO s := by
  have htg : ∀ w ∈ gTb, w.before #[Value.ref b] s = true := fun w hw => hts w (List.mem_filter.mp hw).1
  obtain ⟨c0, i0, k0⟩ := u_known (C := RX0) (T := TX0) (N := 4) (n := 4) htg wsin_0 (htg _ kin_0)
  obtain ⟨c1, i1, k1⟩ := u_known (C := RX1) (T := TX1) (N := 9) (n := 9) htg wsin_1 (htg _ kin_1)
  obtain ⟨c2, i2, k2⟩ := u_known (C := RX2) (T := TX2) (N := 7) (n := 7) htg wsin_2 (htg _ kin_2)
  obtain ⟨c3, i3, k3⟩ := u_known (C := RX3) (T := TX3) (N := 2) (n := 2) htg wsin_3 (htg _ kin_3)
  obtain ⟨c4, i4, k4⟩ := u_known (C := RX4) (T := TX4) (N := 2) (n := 2) htg wsin_4 (htg _ kin_4)
  obtain ⟨c5, i5, k5⟩ := u_known (C := RX5) (T := TX5) (N := 3) (n := 3) htg wsin_5 (htg _ kin_5)
  obtain ⟨c6, i6, k6⟩ := u_known (C := RX6) (T := TX6) (N := 4) (n := 4) htg wsin_6 (htg _ kin_6)
  obtain ⟨c7, i7, k7⟩ := u_known (C := RX7) (T := TX7) (N := 24) (n := 24) htg wsin_7 (htg _ kin_7)
  obtain ⟨a0, ka0, co0, p0, q0, r0⟩ := Cond.arrayClass_spec (htg _ kar_int)
  obtain ⟨a1, ka1, co1, p1, q1, r1⟩ := Cond.arrayClass_spec (htg _ kar_long)
  obtain ⟨a2, ka2, co2, p2, q2, r2⟩ := Cond.arrayClass_spec (htg _ kar_boolean)
  have o3 : va_AO "BowBend$Place" s := va_AO.of (hts (.arrayOver (.object "BowBend$Place")) (List.mem_of_getElem? (i := 96) (by decide +kernel)))
  obtain ⟨co3, a3, ka3, f3, -, q3, r3, p3⟩ := Cond.arrayOver_spec o3
  have o4 : va_AO "BowBend$Slot" s := va_AO.of (hts (.arrayOver (.object "BowBend$Slot")) (List.mem_of_getElem? (i := 194) (by decide +kernel)))
  obtain ⟨co4, a4, ka4, f4, -, q4, r4, p4⟩ := Cond.arrayOver_spec o4
  have o5 : va_AO "BowBend$Wood" s := va_AO.of (hts (.arrayOver (.object "BowBend$Wood")) (List.mem_of_getElem? (i := 73) (by decide +kernel)))
  obtain ⟨co5, a5, ka5, f5, -, q5, r5, p5⟩ := Cond.arrayOver_spec o5
  refine ⟨(fun k => if k = 0 then c0 else if k = 1 then c1 else if k = 2 then c2 else if k = 3 then c3 else if k = 4 then c4 else if k = 5 then c5 else if k = 6 then c6 else c7, fun k => if k = 0 then i0 else if k = 1 then i1 else if k = 2 then i2 else if k = 3 then i3 else if k = 4 then i4 else if k = 5 then i5 else if k = 6 then i6 else i7), fun k => if k = 0 then a0 else if k = 1 then a1 else if k = 2 then a2 else if k = 3 then a3 else if k = 4 then a4 else a5, ⟨fun c q hq => ?_, fun k q hq => ?_⟩, fun w hw hn => ?_, o3, o4, o5⟩
  · match c, hq with
    | 0, hq => cases hq; exact k0
    | 1, hq => cases hq; exact k1
    | 2, hq => cases hq; exact k2
    | 3, hq => cases hq; exact k3
    | 4, hq => cases hq; exact k4
    | 5, hq => cases hq; exact k5
    | 6, hq => cases hq; exact k6
    | 7, hq => cases hq; exact k7
    | c + 8, hq => simp at hq
  · match k, hq with
    | 0, hq => cases hq; exact ⟨fun n z => ⟨fun k h => (by cases h), ka0, q0, co0, r0⟩, p0⟩
    | 1, hq => cases hq; exact ⟨fun n z => ⟨fun k h => (by cases h), ka1, q1, co1, r1⟩, p1⟩
    | 2, hq => cases hq; exact ⟨fun n z => ⟨fun k h => (by cases h), ka2, q2, co2, r2⟩, p2⟩
    | 3, hq => cases hq; exact ⟨fun n z => ⟨fun k h => (by cases h), ka3, q3, co3, r3⟩, ⟨ka3, co3, q3, r3, f3, p3⟩⟩
    | 4, hq => cases hq; exact ⟨fun n z => ⟨fun k h => (by cases h), ka4, q4, co4, r4⟩, ⟨ka4, co4, q4, r4, f4, p4⟩⟩
    | 5, hq => cases hq; exact ⟨fun n z => ⟨fun k h => (by cases h), ka5, q5, co5, r5⟩, ⟨ka5, co5, q5, r5, f5, p5⟩⟩
    | k + 6, hq => simp at hq
  · have h := hts w hw
    cases w <;> first | exact absurd hn Bool.false_ne_true | exact va_tabs rfl rfl h
theorem kds_X6_init : yX6_init.cls ≠ "java/lang/invoke/MethodHandle" ∧ yX6_init.cls ≠ "java/lang/invoke/VarHandle" ∧ (parseMethodDescriptor yX6_init.desc).map (fun d => d.parameters.length) = some 0 := ⟨by decide +kernel, by decide +kernel, by decide +kernel⟩
theorem kds_X7_init : yX7_init.cls ≠ "java/lang/invoke/MethodHandle" ∧ yX7_init.cls ≠ "java/lang/invoke/VarHandle" ∧ (parseMethodDescriptor yX7_init.desc).map (fun d => d.parameters.length) = some 0 := ⟨by decide +kernel, by decide +kernel, by decide +kernel⟩
set_option maxRecDepth 100000 in
set_option maxHeartbeats 4000000 in
theorem law_made {X : gX} {D : va_G} {cy : Nat → ClassId} {base b L : Nat} {xs : Nat → Int32} {Q : State → Prop} (hL : lC X D cy base b L xs) (hEnd : ∀ (MC MM : gM) (Ls : List (Nat × Value)), lG X D cy base Q MC MM 1496 Ls [.int 1]) : kG X (kI X D base []) Q 0 0 4 0 (lv_args 0 [.ref b]) [] := by
  have hC := hL.1
  show kG X _ _ 0 0 4 0 [(0, .ref b)] []
  refine k_new hC (ci := 6) (l' := [.inr (6, [.null, .null, .null, .null])]) kcl_L_7 kin_6 (if_X6_init).2.1 wsin_6 tyX6_ok rfl kdf_6 (Nat.le_trans (Nat.le_of_ble_eq_true rfl) hL.2.2.2.2.2.1) (Nat.le_trans (Nat.le_of_ble_eq_true rfl) hL.2.2.2.2.2.2) (nc' := 1) (ns' := 4) rfl rfl (n := 0) rfl rfl (gDec_at DL_law_0 0 rfl) ?_
  refine k_dup hC (gDec_at DL_law_0 1 rfl) rfl ?_
  refine k_ctor hC (base := base) (lc := bbL cy base) (kc_X6 D cy base) if_X6_init ml_L_9 rfl kds_X6_init (by decide) (by decide) rfl (l1 := []) (k := 0) rfl rfl (l' := bbL cy base) rfl rfl rfl (Nat.le_of_ble_eq_true rfl) (Nat.le_trans (Nat.le_of_ble_eq_true rfl) hL.2.2.2.2.2.1) (Nat.le_trans (Nat.le_of_ble_eq_true rfl) hL.2.2.2.2.2.2) (nc' := 63) (ns' := 493) rfl rfl (gDec_at DL_law_0 2 rfl) ?_
  refine k_astore_n hC (gDec_at DL_law_0 3 rfl) (by decide) (L' := [(1, .ref base), (0, .ref b)]) rfl ?_
  refine k_new hC (ci := 7) (l' := bbL cy base ++ [.inr (7, [.int 0, .null, .int 0, .int 0, .int 0, .null, .null, .null, .null, .null, .null, .int 0, .int 0, .null, .null, .null, .null, .null, .null, .int 0, .int 0, .null, .null, .null])]) kcl_L_10 kin_7 (if_X7_init).2.1 wsin_7 tyX7_ok rfl kdf_7 (Nat.le_trans (Nat.le_of_ble_eq_true rfl) hL.2.2.2.2.2.1) (Nat.le_trans (Nat.le_of_ble_eq_true rfl) hL.2.2.2.2.2.2) (nc' := 64) (ns' := 517) rfl rfl (n := 63) rfl rfl (gDec_at DL_law_0 4 rfl) ?_
  refine k_dup hC (gDec_at DL_law_0 5 rfl) rfl ?_
  refine k_ctor hC (kc_X7 D cy (base + 63)) if_X7_init ml_L_12 rfl kds_X7_init (by decide) (by decide) rfl (l1 := bbL cy base) (k := 63) rfl rfl (l' := bbL cy base ++ mdL cy (base + 63)) rfl rfl rfl (Nat.le_of_ble_eq_true rfl) (Nat.le_trans (Nat.le_of_ble_eq_true rfl) hL.2.2.2.2.2.1) (Nat.le_trans (Nat.le_of_ble_eq_true rfl) hL.2.2.2.2.2.2) (nc' := 80) (ns' := 894) rfl rfl (gDec_at DL_law_0 6 rfl) ?_
  refine k_astore_n hC (gDec_at DL_law_0 7 rfl) (by decide) (L' := [(2, .ref (base + 63)), (1, .ref base), (0, .ref b)]) rfl ?_
  refine k_iconst hC (gDec_at DL_law_0 8 rfl) (v := nI 0) (by decide) ?_
  refine k_istore_n hC (gDec_at DL_law_0 9 rfl) (by decide) (L' := [(3, .int (nI 0)), (2, .ref (base + 63)), (1, .ref base), (0, .ref b)]) rfl ?_
  refine k_widen (nc' := 600000) (ns' := 7302250) (Nat.le_of_ble_eq_true rfl) (Nat.le_of_ble_eq_true rfl) ?_
  refine k_sub [3, 2, 1, 0] (L' := lL base b 0) rfl ?_
  exact k_imp (I' := lI X D cy base MC0 MM0) (fun H locs ⟨hP, hz, hS⟩ => ⟨gPic_C hP, gPic_M (kw_right hP), hS⟩) (law_loop hL hEnd (L + 8) 0 MC0 MM0 (by omega) (by omega) gSt_0)