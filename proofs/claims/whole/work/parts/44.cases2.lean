/-! THE LAW: its cases 18 .. 35 -/
set_option maxRecDepth 100000 in
set_option maxHeartbeats 4000000 in
theorem law_18 {X : gX} {D : va_G} {cy : Nat → ClassId} {base b L i : Nat} {xs : Nat → Int32} {Q : State → Prop} {MC MM : gM} (hL : lC X D cy base b L xs) (hi : i + 7 ≤ L) (hS : gSt MC MM) (K : ∀ MC' MM' : gM, gSt MC' MM' → lG X D cy base Q MC' MM' 1489 (lL base b i) []) : lG X D cy base Q MC MM 722 (lL base b i) [] := by
  obtain ⟨v, u, dC, dM, PC, PM, e1, e2, h1, h2, h3⟩ := pr_stiff (qC0 D cy base) (qM0 D cy base) hS (xs (i + 1))
  refine k_aload_n hL.1 (gDec_at DL_law_6 38 rfl) rfl ?_
  refine l_arg hL 1 (by omega) (gDec_at DL_law_6 39 rfl) (gDec_at DL_law_6 40 rfl) (gDec_at DL_law_6 41 rfl) (by decide) (gDec_at DL_law_6 42 rfl) (gDec_at DL_law_6 43 rfl) ?_
  refine l_callC hL (v := .int v) h1 vf_X6_stiff ml_L_96 e1 rfl rfl rfl (Nat.le_of_ble_eq_true rfl) (gDec_at DL_law_6 44 rfl) (fun MC' p1 => ?_)
  refine k_aload_n hL.1 (gDec_at DL_law_6 45 rfl) rfl ?_
  refine l_arg hL 1 (by omega) (gDec_at DL_law_6 46 rfl) (gDec_at DL_law_6 47 rfl) (gDec_at DL_law_6 48 rfl) (by decide) (gDec_at DL_law_6 49 rfl) (gDec_at DL_law_6 50 rfl) ?_
  refine l_callM hL (v := .int v) h2 vf_X7_stiff ml_L_99 e2 rfl rfl rfl (Nat.le_of_ble_eq_true rfl) (gDec_at DL_law_6 51 rfl) (fun MM' p2 => ?_)
  exact k_icmp_eq hL.1 (gDec_at DL_law_6 52 rfl) 1489 (by decide) (fun _ => K _ _ (h3 _ _ p1 p2)) (fun h => absurd rfl h)
set_option maxRecDepth 100000 in
set_option maxHeartbeats 4000000 in
theorem law_19 {X : gX} {D : va_G} {cy : Nat → ClassId} {base b L i : Nat} {xs : Nat → Int32} {Q : State → Prop} {MC MM : gM} (hL : lC X D cy base b L xs) (hi : i + 7 ≤ L) (hS : gSt MC MM) (K : ∀ MC' MM' : gM, gSt MC' MM' → lG X D cy base Q MC' MM' 1489 (lL base b i) []) : lG X D cy base Q MC MM 745 (lL base b i) [] := by
  obtain ⟨v, u, dC, dM, PC, PM, e1, e2, h1, h2, h3⟩ := pr_even (qC0 D cy base) (qM0 D cy base) hS (xs (i + 1))
  refine k_aload_n hL.1 (gDec_at DL_law_6 55 rfl) rfl ?_
  refine l_arg hL 1 (by omega) (gDec_at DL_law_6 56 rfl) (gDec_at DL_law_6 57 rfl) (gDec_at DL_law_6 58 rfl) (by decide) (gDec_at DL_law_6 59 rfl) (gDec_at DL_law_6 60 rfl) ?_
  refine l_callC hL (v := .int v) h1 vf_X6_even ml_L_100 e1 rfl rfl rfl (Nat.le_of_ble_eq_true rfl) (gDec_at DL_law_6 61 rfl) (fun MC' p1 => ?_)
  refine k_aload_n hL.1 (gDec_at DL_law_6 62 rfl) rfl ?_
  refine l_arg hL 1 (by omega) (gDec_at DL_law_6 63 rfl) (gDec_at DL_law_7 0 rfl) (gDec_at DL_law_7 1 rfl) (by decide) (gDec_at DL_law_7 2 rfl) (gDec_at DL_law_7 3 rfl) ?_
  refine l_callM hL (v := .int v) h2 vf_X7_even ml_L_103 e2 rfl rfl rfl (Nat.le_of_ble_eq_true rfl) (gDec_at DL_law_7 4 rfl) (fun MM' p2 => ?_)
  exact k_icmp_eq hL.1 (gDec_at DL_law_7 5 rfl) 1489 (by decide) (fun _ => K _ _ (h3 _ _ p1 p2)) (fun h => absurd rfl h)
set_option maxRecDepth 100000 in
set_option maxHeartbeats 4000000 in
theorem law_20 {X : gX} {D : va_G} {cy : Nat → ClassId} {base b L i : Nat} {xs : Nat → Int32} {Q : State → Prop} {MC MM : gM} (hL : lC X D cy base b L xs) (hi : i + 7 ≤ L) (hS : gSt MC MM) (K : ∀ MC' MM' : gM, gSt MC' MM' → lG X D cy base Q MC' MM' 1489 (lL base b i) []) : lG X D cy base Q MC MM 768 (lL base b i) [] := by
  obtain ⟨v, u, dC, dM, PC, PM, e1, e2, h1, h2, h3⟩ := pr_next (qC0 D cy base) (qM0 D cy base) hS (xs (i + 1)) (xs (i + 2))
  refine k_aload_n hL.1 (gDec_at DL_law_7 8 rfl) rfl ?_
  refine l_arg hL 1 (by omega) (gDec_at DL_law_7 9 rfl) (gDec_at DL_law_7 10 rfl) (gDec_at DL_law_7 11 rfl) (by decide) (gDec_at DL_law_7 12 rfl) (gDec_at DL_law_7 13 rfl) ?_
  refine l_arg hL 2 (by omega) (gDec_at DL_law_7 14 rfl) (gDec_at DL_law_7 15 rfl) (gDec_at DL_law_7 16 rfl) (by decide) (gDec_at DL_law_7 17 rfl) (gDec_at DL_law_7 18 rfl) ?_
  refine l_callC hL (v := .int v) h1 vf_X6_next ml_L_104 e1 rfl rfl rfl (Nat.le_of_ble_eq_true rfl) (gDec_at DL_law_7 19 rfl) (fun MC' p1 => ?_)
  refine k_aload_n hL.1 (gDec_at DL_law_7 20 rfl) rfl ?_
  refine l_arg hL 1 (by omega) (gDec_at DL_law_7 21 rfl) (gDec_at DL_law_7 22 rfl) (gDec_at DL_law_7 23 rfl) (by decide) (gDec_at DL_law_7 24 rfl) (gDec_at DL_law_7 25 rfl) ?_
  refine l_arg hL 2 (by omega) (gDec_at DL_law_7 26 rfl) (gDec_at DL_law_7 27 rfl) (gDec_at DL_law_7 28 rfl) (by decide) (gDec_at DL_law_7 29 rfl) (gDec_at DL_law_7 30 rfl) ?_
  refine l_callM hL (v := .int v) h2 vf_X7_next ml_L_107 e2 rfl rfl rfl (Nat.le_of_ble_eq_true rfl) (gDec_at DL_law_7 31 rfl) (fun MM' p2 => ?_)
  exact k_icmp_eq hL.1 (gDec_at DL_law_7 32 rfl) 1489 (by decide) (fun _ => K _ _ (h3 _ _ p1 p2)) (fun h => absurd rfl h)
set_option maxRecDepth 100000 in
set_option maxHeartbeats 4000000 in
theorem law_21 {X : gX} {D : va_G} {cy : Nat → ClassId} {base b L i : Nat} {xs : Nat → Int32} {Q : State → Prop} {MC MM : gM} (hL : lC X D cy base b L xs) (hi : i + 7 ≤ L) (hS : gSt MC MM) (K : ∀ MC' MM' : gM, gSt MC' MM' → lG X D cy base Q MC' MM' 1489 (lL base b i) []) : lG X D cy base Q MC MM 801 (lL base b i) [] := by
  obtain ⟨v, u, dC, dM, PC, PM, e1, e2, h1, h2, h3⟩ := pr_best (qC0 D cy base) (qM0 D cy base) hS (xs (i + 1)) (xs (i + 2)) (xs (i + 3))
  refine k_aload_n hL.1 (gDec_at DL_law_7 35 rfl) rfl ?_
  refine l_arg hL 1 (by omega) (gDec_at DL_law_7 36 rfl) (gDec_at DL_law_7 37 rfl) (gDec_at DL_law_7 38 rfl) (by decide) (gDec_at DL_law_7 39 rfl) (gDec_at DL_law_7 40 rfl) ?_
  refine l_arg hL 2 (by omega) (gDec_at DL_law_7 41 rfl) (gDec_at DL_law_7 42 rfl) (gDec_at DL_law_7 43 rfl) (by decide) (gDec_at DL_law_7 44 rfl) (gDec_at DL_law_7 45 rfl) ?_
  refine l_arg hL 3 (by omega) (gDec_at DL_law_7 46 rfl) (gDec_at DL_law_7 47 rfl) (gDec_at DL_law_7 48 rfl) (by decide) (gDec_at DL_law_7 49 rfl) (gDec_at DL_law_7 50 rfl) ?_
  refine l_callC hL (v := .int v) h1 vf_X6_best ml_L_108 e1 rfl rfl rfl (Nat.le_of_ble_eq_true rfl) (gDec_at DL_law_7 51 rfl) (fun MC' p1 => ?_)
  refine k_aload_n hL.1 (gDec_at DL_law_7 52 rfl) rfl ?_
  refine l_arg hL 1 (by omega) (gDec_at DL_law_7 53 rfl) (gDec_at DL_law_7 54 rfl) (gDec_at DL_law_7 55 rfl) (by decide) (gDec_at DL_law_7 56 rfl) (gDec_at DL_law_7 57 rfl) ?_
  refine l_arg hL 2 (by omega) (gDec_at DL_law_7 58 rfl) (gDec_at DL_law_7 59 rfl) (gDec_at DL_law_7 60 rfl) (by decide) (gDec_at DL_law_7 61 rfl) (gDec_at DL_law_7 62 rfl) ?_
  refine l_arg hL 3 (by omega) (gDec_at DL_law_7 63 rfl) (gDec_at DL_law_8 0 rfl) (gDec_at DL_law_8 1 rfl) (by decide) (gDec_at DL_law_8 2 rfl) (gDec_at DL_law_8 3 rfl) ?_
  refine l_callM hL (v := .int v) h2 vf_X7_best ml_L_112 e2 rfl rfl rfl (Nat.le_of_ble_eq_true rfl) (gDec_at DL_law_8 4 rfl) (fun MM' p2 => ?_)
  exact k_icmp_eq hL.1 (gDec_at DL_law_8 5 rfl) 1489 (by decide) (fun _ => K _ _ (h3 _ _ p1 p2)) (fun h => absurd rfl h)
set_option maxRecDepth 100000 in
set_option maxHeartbeats 4000000 in
theorem law_22 {X : gX} {D : va_G} {cy : Nat → ClassId} {base b L i : Nat} {xs : Nat → Int32} {Q : State → Prop} {MC MM : gM} (hL : lC X D cy base b L xs) (hi : i + 7 ≤ L) (hS : gSt MC MM) (K : ∀ MC' MM' : gM, gSt MC' MM' → lG X D cy base Q MC' MM' 1489 (lL base b i) []) : lG X D cy base Q MC MM 844 (lL base b i) [] := by
  obtain ⟨v, u, dC, dM, PC, PM, e1, e2, h1, h2, h3⟩ := pr_bestAt (qC0 D cy base) (qM0 D cy base) hS (xs (i + 1)) (xs (i + 2)) (xs (i + 3)) (xs (i + 4))
  refine k_aload_n hL.1 (gDec_at DL_law_8 8 rfl) rfl ?_
  refine l_arg hL 1 (by omega) (gDec_at DL_law_8 9 rfl) (gDec_at DL_law_8 10 rfl) (gDec_at DL_law_8 11 rfl) (by decide) (gDec_at DL_law_8 12 rfl) (gDec_at DL_law_8 13 rfl) ?_
  refine l_arg hL 2 (by omega) (gDec_at DL_law_8 14 rfl) (gDec_at DL_law_8 15 rfl) (gDec_at DL_law_8 16 rfl) (by decide) (gDec_at DL_law_8 17 rfl) (gDec_at DL_law_8 18 rfl) ?_
  refine l_arg hL 3 (by omega) (gDec_at DL_law_8 19 rfl) (gDec_at DL_law_8 20 rfl) (gDec_at DL_law_8 21 rfl) (by decide) (gDec_at DL_law_8 22 rfl) (gDec_at DL_law_8 23 rfl) ?_
  refine l_arg hL 4 (by omega) (gDec_at DL_law_8 24 rfl) (gDec_at DL_law_8 25 rfl) (gDec_at DL_law_8 26 rfl) (by decide) (gDec_at DL_law_8 27 rfl) (gDec_at DL_law_8 28 rfl) ?_
  refine l_callC hL (v := .int v) h1 vf_X6_bestAt ml_L_113 e1 rfl rfl rfl (Nat.le_of_ble_eq_true rfl) (gDec_at DL_law_8 29 rfl) (fun MC' p1 => ?_)
  refine k_aload_n hL.1 (gDec_at DL_law_8 30 rfl) rfl ?_
  refine l_arg hL 1 (by omega) (gDec_at DL_law_8 31 rfl) (gDec_at DL_law_8 32 rfl) (gDec_at DL_law_8 33 rfl) (by decide) (gDec_at DL_law_8 34 rfl) (gDec_at DL_law_8 35 rfl) ?_
  refine l_arg hL 2 (by omega) (gDec_at DL_law_8 36 rfl) (gDec_at DL_law_8 37 rfl) (gDec_at DL_law_8 38 rfl) (by decide) (gDec_at DL_law_8 39 rfl) (gDec_at DL_law_8 40 rfl) ?_
  refine l_arg hL 3 (by omega) (gDec_at DL_law_8 41 rfl) (gDec_at DL_law_8 42 rfl) (gDec_at DL_law_8 43 rfl) (by decide) (gDec_at DL_law_8 44 rfl) (gDec_at DL_law_8 45 rfl) ?_
  refine l_arg hL 4 (by omega) (gDec_at DL_law_8 46 rfl) (gDec_at DL_law_8 47 rfl) (gDec_at DL_law_8 48 rfl) (by decide) (gDec_at DL_law_8 49 rfl) (gDec_at DL_law_8 50 rfl) ?_
  refine l_callM hL (v := .int v) h2 vf_X7_bestAt ml_L_116 e2 rfl rfl rfl (Nat.le_of_ble_eq_true rfl) (gDec_at DL_law_8 51 rfl) (fun MM' p2 => ?_)
  exact k_icmp_eq hL.1 (gDec_at DL_law_8 52 rfl) 1489 (by decide) (fun _ => K _ _ (h3 _ _ p1 p2)) (fun h => absurd rfl h)
set_option maxRecDepth 100000 in
set_option maxHeartbeats 4000000 in
theorem law_23 {X : gX} {D : va_G} {cy : Nat → ClassId} {base b L i : Nat} {xs : Nat → Int32} {Q : State → Prop} {MC MM : gM} (hL : lC X D cy base b L xs) (hi : i + 7 ≤ L) (hS : gSt MC MM) (K : ∀ MC' MM' : gM, gSt MC' MM' → lG X D cy base Q MC' MM' 1489 (lL base b i) []) : lG X D cy base Q MC MM 897 (lL base b i) [] := by
  obtain ⟨v, u, dC, dM, PC, PM, e1, e2, h1, h2, h3⟩ := pr_form (qC0 D cy base) (qM0 D cy base) hS (xs (i + 1)) (xs (i + 2)) (xs (i + 3))
  refine k_aload_n hL.1 (gDec_at DL_law_8 55 rfl) rfl ?_
  refine l_arg hL 1 (by omega) (gDec_at DL_law_8 56 rfl) (gDec_at DL_law_8 57 rfl) (gDec_at DL_law_8 58 rfl) (by decide) (gDec_at DL_law_8 59 rfl) (gDec_at DL_law_8 60 rfl) ?_
  refine l_arg hL 2 (by omega) (gDec_at DL_law_8 61 rfl) (gDec_at DL_law_8 62 rfl) (gDec_at DL_law_8 63 rfl) (by decide) (gDec_at DL_law_9 0 rfl) (gDec_at DL_law_9 1 rfl) ?_
  refine l_arg hL 3 (by omega) (gDec_at DL_law_9 2 rfl) (gDec_at DL_law_9 3 rfl) (gDec_at DL_law_9 4 rfl) (by decide) (gDec_at DL_law_9 5 rfl) (gDec_at DL_law_9 6 rfl) ?_
  refine l_callC hL (v := .int v) h1 vf_X6_form ml_L_117 e1 rfl rfl rfl (Nat.le_of_ble_eq_true rfl) (gDec_at DL_law_9 7 rfl) (fun MC' p1 => ?_)
  refine k_aload_n hL.1 (gDec_at DL_law_9 8 rfl) rfl ?_
  refine l_arg hL 1 (by omega) (gDec_at DL_law_9 9 rfl) (gDec_at DL_law_9 10 rfl) (gDec_at DL_law_9 11 rfl) (by decide) (gDec_at DL_law_9 12 rfl) (gDec_at DL_law_9 13 rfl) ?_
  refine l_arg hL 2 (by omega) (gDec_at DL_law_9 14 rfl) (gDec_at DL_law_9 15 rfl) (gDec_at DL_law_9 16 rfl) (by decide) (gDec_at DL_law_9 17 rfl) (gDec_at DL_law_9 18 rfl) ?_
  refine l_arg hL 3 (by omega) (gDec_at DL_law_9 19 rfl) (gDec_at DL_law_9 20 rfl) (gDec_at DL_law_9 21 rfl) (by decide) (gDec_at DL_law_9 22 rfl) (gDec_at DL_law_9 23 rfl) ?_
  refine l_callM hL (v := .int v) h2 vf_X7_form ml_L_120 e2 rfl rfl rfl (Nat.le_of_ble_eq_true rfl) (gDec_at DL_law_9 24 rfl) (fun MM' p2 => ?_)
  exact k_icmp_eq hL.1 (gDec_at DL_law_9 25 rfl) 1489 (by decide) (fun _ => K _ _ (h3 _ _ p1 p2)) (fun h => absurd rfl h)
set_option maxRecDepth 100000 in
set_option maxHeartbeats 4000000 in
theorem law_24 {X : gX} {D : va_G} {cy : Nat → ClassId} {base b L i : Nat} {xs : Nat → Int32} {Q : State → Prop} {MC MM : gM} (hL : lC X D cy base b L xs) (hi : i + 7 ≤ L) (hS : gSt MC MM) (K : ∀ MC' MM' : gM, gSt MC' MM' → lG X D cy base Q MC' MM' 1489 (lL base b i) []) : lG X D cy base Q MC MM 940 (lL base b i) [] := by
  obtain ⟨v, u, dC, dM, PC, PM, e1, e2, h1, h2, h3⟩ := pr_shape (qC0 D cy base) (qM0 D cy base) hS (xs (i + 1)) (xs (i + 2))
  refine k_aload_n hL.1 (gDec_at DL_law_9 28 rfl) rfl ?_
  refine l_arg hL 1 (by omega) (gDec_at DL_law_9 29 rfl) (gDec_at DL_law_9 30 rfl) (gDec_at DL_law_9 31 rfl) (by decide) (gDec_at DL_law_9 32 rfl) (gDec_at DL_law_9 33 rfl) ?_
  refine l_arg hL 2 (by omega) (gDec_at DL_law_9 34 rfl) (gDec_at DL_law_9 35 rfl) (gDec_at DL_law_9 36 rfl) (by decide) (gDec_at DL_law_9 37 rfl) (gDec_at DL_law_9 38 rfl) ?_
  refine l_callC hL (v := .int v) h1 vf_X6_shape ml_L_121 e1 rfl rfl rfl (Nat.le_of_ble_eq_true rfl) (gDec_at DL_law_9 39 rfl) (fun MC' p1 => ?_)
  refine k_aload_n hL.1 (gDec_at DL_law_9 40 rfl) rfl ?_
  refine l_arg hL 1 (by omega) (gDec_at DL_law_9 41 rfl) (gDec_at DL_law_9 42 rfl) (gDec_at DL_law_9 43 rfl) (by decide) (gDec_at DL_law_9 44 rfl) (gDec_at DL_law_9 45 rfl) ?_
  refine l_arg hL 2 (by omega) (gDec_at DL_law_9 46 rfl) (gDec_at DL_law_9 47 rfl) (gDec_at DL_law_9 48 rfl) (by decide) (gDec_at DL_law_9 49 rfl) (gDec_at DL_law_9 50 rfl) ?_
  refine l_callM hL (v := .int v) h2 vf_X7_shape ml_L_124 e2 rfl rfl rfl (Nat.le_of_ble_eq_true rfl) (gDec_at DL_law_9 51 rfl) (fun MM' p2 => ?_)
  exact k_icmp_eq hL.1 (gDec_at DL_law_9 52 rfl) 1489 (by decide) (fun _ => K _ _ (h3 _ _ p1 p2)) (fun h => absurd rfl h)
set_option maxRecDepth 100000 in
set_option maxHeartbeats 4000000 in
theorem law_25 {X : gX} {D : va_G} {cy : Nat → ClassId} {base b L i : Nat} {xs : Nat → Int32} {Q : State → Prop} {MC MM : gM} (hL : lC X D cy base b L xs) (hi : i + 7 ≤ L) (hS : gSt MC MM) (K : ∀ MC' MM' : gM, gSt MC' MM' → lG X D cy base Q MC' MM' 1489 (lL base b i) []) : lG X D cy base Q MC MM 973 (lL base b i) [] := by
  obtain ⟨v, u, dC, dM, PC, PM, e1, e2, h1, h2, h3⟩ := pr_pace (qC0 D cy base) (qM0 D cy base) hS (xs (i + 1)) (xs (i + 2)) (bt_le (xs (i + 3)))
  refine k_aload_n hL.1 (gDec_at DL_law_9 55 rfl) rfl ?_
  refine l_arg hL 1 (by omega) (gDec_at DL_law_9 56 rfl) (gDec_at DL_law_9 57 rfl) (gDec_at DL_law_9 58 rfl) (by decide) (gDec_at DL_law_9 59 rfl) (gDec_at DL_law_9 60 rfl) ?_
  refine l_arg hL 2 (by omega) (gDec_at DL_law_9 61 rfl) (gDec_at DL_law_9 62 rfl) (gDec_at DL_law_9 63 rfl) (by decide) (gDec_at DL_law_10 0 rfl) (gDec_at DL_law_10 1 rfl) ?_
  refine l_arg hL 3 (by omega) (gDec_at DL_law_10 2 rfl) (gDec_at DL_law_10 3 rfl) (gDec_at DL_law_10 4 rfl) (by decide) (gDec_at DL_law_10 5 rfl) (gDec_at DL_law_10 6 rfl) ?_
  refine l_bool hL (gDec_at DL_law_10 7 rfl) (gDec_at DL_law_10 8 rfl) (gDec_at DL_law_10 9 rfl) (gDec_at DL_law_10 10 rfl) ?_
  refine l_callC hL (v := .long u) h1 vf_X6_pace ml_L_125 e1 rfl rfl rfl (Nat.le_of_ble_eq_true rfl) (gDec_at DL_law_10 11 rfl) (fun MC' p1 => ?_)
  refine k_aload_n hL.1 (gDec_at DL_law_10 12 rfl) rfl ?_
  refine l_arg hL 1 (by omega) (gDec_at DL_law_10 13 rfl) (gDec_at DL_law_10 14 rfl) (gDec_at DL_law_10 15 rfl) (by decide) (gDec_at DL_law_10 16 rfl) (gDec_at DL_law_10 17 rfl) ?_
  refine l_arg hL 2 (by omega) (gDec_at DL_law_10 18 rfl) (gDec_at DL_law_10 19 rfl) (gDec_at DL_law_10 20 rfl) (by decide) (gDec_at DL_law_10 21 rfl) (gDec_at DL_law_10 22 rfl) ?_
  refine l_arg hL 3 (by omega) (gDec_at DL_law_10 23 rfl) (gDec_at DL_law_10 24 rfl) (gDec_at DL_law_10 25 rfl) (by decide) (gDec_at DL_law_10 26 rfl) (gDec_at DL_law_10 27 rfl) ?_
  refine l_bool hL (gDec_at DL_law_10 28 rfl) (gDec_at DL_law_10 29 rfl) (gDec_at DL_law_10 30 rfl) (gDec_at DL_law_10 31 rfl) ?_
  refine l_callM hL (v := .long u) h2 vf_X7_pace ml_L_129 e2 rfl rfl rfl (Nat.le_of_ble_eq_true rfl) (gDec_at DL_law_10 32 rfl) (fun MM' p2 => ?_)
  exact k_lc_eq hL.1 (gDec_at DL_law_10 33 rfl) (gDec_at DL_law_10 34 rfl) 1489 (by decide) (fun _ => K _ _ (h3 _ _ p1 p2)) (fun h => absurd rfl h)
set_option maxRecDepth 100000 in
set_option maxHeartbeats 4000000 in
theorem law_26 {X : gX} {D : va_G} {cy : Nat → ClassId} {base b L i : Nat} {xs : Nat → Int32} {Q : State → Prop} {MC MM : gM} (hL : lC X D cy base b L xs) (hi : i + 7 ≤ L) (hS : gSt MC MM) (K : ∀ MC' MM' : gM, gSt MC' MM' → lG X D cy base Q MC' MM' 1489 (lL base b i) []) : lG X D cy base Q MC MM 1033 (lL base b i) [] := by
  obtain ⟨v, u, dC, dM, PC, PM, e1, e2, h1, h2, h3⟩ := pr_wet (qC0 D cy base) (qM0 D cy base) hS (xs (i + 1)) (xs (i + 2)) (bt_le (xs (i + 3)))
  refine k_aload_n hL.1 (gDec_at DL_law_10 37 rfl) rfl ?_
  refine l_arg hL 1 (by omega) (gDec_at DL_law_10 38 rfl) (gDec_at DL_law_10 39 rfl) (gDec_at DL_law_10 40 rfl) (by decide) (gDec_at DL_law_10 41 rfl) (gDec_at DL_law_10 42 rfl) ?_
  refine l_arg hL 2 (by omega) (gDec_at DL_law_10 43 rfl) (gDec_at DL_law_10 44 rfl) (gDec_at DL_law_10 45 rfl) (by decide) (gDec_at DL_law_10 46 rfl) (gDec_at DL_law_10 47 rfl) ?_
  refine l_arg hL 3 (by omega) (gDec_at DL_law_10 48 rfl) (gDec_at DL_law_10 49 rfl) (gDec_at DL_law_10 50 rfl) (by decide) (gDec_at DL_law_10 51 rfl) (gDec_at DL_law_10 52 rfl) ?_
  refine l_bool hL (gDec_at DL_law_10 53 rfl) (gDec_at DL_law_10 54 rfl) (gDec_at DL_law_10 55 rfl) (gDec_at DL_law_10 56 rfl) ?_
  refine l_callC hL (v := .long u) h1 vf_X6_wet ml_L_130 e1 rfl rfl rfl (Nat.le_of_ble_eq_true rfl) (gDec_at DL_law_10 57 rfl) (fun MC' p1 => ?_)
  refine k_aload_n hL.1 (gDec_at DL_law_10 58 rfl) rfl ?_
  refine l_arg hL 1 (by omega) (gDec_at DL_law_10 59 rfl) (gDec_at DL_law_10 60 rfl) (gDec_at DL_law_10 61 rfl) (by decide) (gDec_at DL_law_10 62 rfl) (gDec_at DL_law_10 63 rfl) ?_
  refine l_arg hL 2 (by omega) (gDec_at DL_law_11 0 rfl) (gDec_at DL_law_11 1 rfl) (gDec_at DL_law_11 2 rfl) (by decide) (gDec_at DL_law_11 3 rfl) (gDec_at DL_law_11 4 rfl) ?_
  refine l_arg hL 3 (by omega) (gDec_at DL_law_11 5 rfl) (gDec_at DL_law_11 6 rfl) (gDec_at DL_law_11 7 rfl) (by decide) (gDec_at DL_law_11 8 rfl) (gDec_at DL_law_11 9 rfl) ?_
  refine l_bool hL (gDec_at DL_law_11 10 rfl) (gDec_at DL_law_11 11 rfl) (gDec_at DL_law_11 12 rfl) (gDec_at DL_law_11 13 rfl) ?_
  refine l_callM hL (v := .long u) h2 vf_X7_wet ml_L_133 e2 rfl rfl rfl (Nat.le_of_ble_eq_true rfl) (gDec_at DL_law_11 14 rfl) (fun MM' p2 => ?_)
  exact k_lc_eq hL.1 (gDec_at DL_law_11 15 rfl) (gDec_at DL_law_11 16 rfl) 1489 (by decide) (fun _ => K _ _ (h3 _ _ p1 p2)) (fun h => absurd rfl h)
set_option maxRecDepth 100000 in
set_option maxHeartbeats 4000000 in
theorem law_27 {X : gX} {D : va_G} {cy : Nat → ClassId} {base b L i : Nat} {xs : Nat → Int32} {Q : State → Prop} {MC MM : gM} (hL : lC X D cy base b L xs) (hi : i + 7 ≤ L) (hS : gSt MC MM) (K : ∀ MC' MM' : gM, gSt MC' MM' → lG X D cy base Q MC' MM' 1489 (lL base b i) []) : lG X D cy base Q MC MM 1093 (lL base b i) [] := by
  obtain ⟨v, u, dC, dM, PC, PM, e1, e2, h1, h2, h3⟩ := pr_lost (qC0 D cy base) (qM0 D cy base) hS (xs (i + 1)) (xs (i + 2)) (xs (i + 3)) (xs (i + 4)) (bt_le (xs (i + 5))) (bt_le (xs (i + 6)))
  refine k_aload_n hL.1 (gDec_at DL_law_11 19 rfl) rfl ?_
  refine l_arg hL 1 (by omega) (gDec_at DL_law_11 20 rfl) (gDec_at DL_law_11 21 rfl) (gDec_at DL_law_11 22 rfl) (by decide) (gDec_at DL_law_11 23 rfl) (gDec_at DL_law_11 24 rfl) ?_
  refine l_arg hL 2 (by omega) (gDec_at DL_law_11 25 rfl) (gDec_at DL_law_11 26 rfl) (gDec_at DL_law_11 27 rfl) (by decide) (gDec_at DL_law_11 28 rfl) (gDec_at DL_law_11 29 rfl) ?_
  refine l_arg hL 3 (by omega) (gDec_at DL_law_11 30 rfl) (gDec_at DL_law_11 31 rfl) (gDec_at DL_law_11 32 rfl) (by decide) (gDec_at DL_law_11 33 rfl) (gDec_at DL_law_11 34 rfl) ?_
  refine l_arg hL 4 (by omega) (gDec_at DL_law_11 35 rfl) (gDec_at DL_law_11 36 rfl) (gDec_at DL_law_11 37 rfl) (by decide) (gDec_at DL_law_11 38 rfl) (gDec_at DL_law_11 39 rfl) ?_
  refine l_arg hL 5 (by omega) (gDec_at DL_law_11 40 rfl) (gDec_at DL_law_11 41 rfl) (gDec_at DL_law_11 42 rfl) (by decide) (gDec_at DL_law_11 43 rfl) (gDec_at DL_law_11 44 rfl) ?_
  refine l_bool hL (gDec_at DL_law_11 45 rfl) (gDec_at DL_law_11 46 rfl) (gDec_at DL_law_11 47 rfl) (gDec_at DL_law_11 48 rfl) ?_
  refine l_arg6 hL 6 (by omega) (gDec_at DL_law_11 49 rfl) (gDec_at DL_law_11 50 rfl) (gDec_at DL_law_11 51 rfl) (by decide) (gDec_at DL_law_11 52 rfl) (gDec_at DL_law_11 53 rfl) ?_
  refine l_bool hL (gDec_at DL_law_11 54 rfl) (gDec_at DL_law_11 55 rfl) (gDec_at DL_law_11 56 rfl) (gDec_at DL_law_11 57 rfl) ?_
  refine l_callC hL (v := .long u) h1 vf_X6_lost ml_L_134 e1 rfl rfl rfl (Nat.le_of_ble_eq_true rfl) (gDec_at DL_law_11 58 rfl) (fun MC' p1 => ?_)
  refine k_aload_n hL.1 (gDec_at DL_law_11 59 rfl) rfl ?_
  refine l_arg hL 1 (by omega) (gDec_at DL_law_11 60 rfl) (gDec_at DL_law_11 61 rfl) (gDec_at DL_law_11 62 rfl) (by decide) (gDec_at DL_law_11 63 rfl) (gDec_at DL_law_12 0 rfl) ?_
  refine l_arg hL 2 (by omega) (gDec_at DL_law_12 1 rfl) (gDec_at DL_law_12 2 rfl) (gDec_at DL_law_12 3 rfl) (by decide) (gDec_at DL_law_12 4 rfl) (gDec_at DL_law_12 5 rfl) ?_
  refine l_arg hL 3 (by omega) (gDec_at DL_law_12 6 rfl) (gDec_at DL_law_12 7 rfl) (gDec_at DL_law_12 8 rfl) (by decide) (gDec_at DL_law_12 9 rfl) (gDec_at DL_law_12 10 rfl) ?_
  refine l_arg hL 4 (by omega) (gDec_at DL_law_12 11 rfl) (gDec_at DL_law_12 12 rfl) (gDec_at DL_law_12 13 rfl) (by decide) (gDec_at DL_law_12 14 rfl) (gDec_at DL_law_12 15 rfl) ?_
  refine l_arg hL 5 (by omega) (gDec_at DL_law_12 16 rfl) (gDec_at DL_law_12 17 rfl) (gDec_at DL_law_12 18 rfl) (by decide) (gDec_at DL_law_12 19 rfl) (gDec_at DL_law_12 20 rfl) ?_
  refine l_bool hL (gDec_at DL_law_12 21 rfl) (gDec_at DL_law_12 22 rfl) (gDec_at DL_law_12 23 rfl) (gDec_at DL_law_12 24 rfl) ?_
  refine l_arg6 hL 6 (by omega) (gDec_at DL_law_12 25 rfl) (gDec_at DL_law_12 26 rfl) (gDec_at DL_law_12 27 rfl) (by decide) (gDec_at DL_law_12 28 rfl) (gDec_at DL_law_12 29 rfl) ?_
  refine l_bool hL (gDec_at DL_law_12 30 rfl) (gDec_at DL_law_12 31 rfl) (gDec_at DL_law_12 32 rfl) (gDec_at DL_law_12 33 rfl) ?_
  refine l_callM hL (v := .long u) h2 vf_X7_lost ml_L_138 e2 rfl rfl rfl (Nat.le_of_ble_eq_true rfl) (gDec_at DL_law_12 34 rfl) (fun MM' p2 => ?_)
  exact k_lc_eq hL.1 (gDec_at DL_law_12 35 rfl) (gDec_at DL_law_12 36 rfl) 1489 (by decide) (fun _ => K _ _ (h3 _ _ p1 p2)) (fun h => absurd rfl h)
set_option maxRecDepth 100000 in
set_option maxHeartbeats 4000000 in
theorem law_28 {X : gX} {D : va_G} {cy : Nat → ClassId} {base b L i : Nat} {xs : Nat → Int32} {Q : State → Prop} {MC MM : gM} (hL : lC X D cy base b L xs) (hi : i + 7 ≤ L) (hS : gSt MC MM) (K : ∀ MC' MM' : gM, gSt MC' MM' → lG X D cy base Q MC' MM' 1489 (lL base b i) []) : lG X D cy base Q MC MM 1201 (lL base b i) [] := by
  obtain ⟨v, u, dC, dM, PC, PM, e1, e2, h1, h2, h3⟩ := pr_see (qC0 D cy base) (qM0 D cy base) hS (xs (i + 1)) (xs (i + 2))
  refine k_aload_n hL.1 (gDec_at DL_law_12 39 rfl) rfl ?_
  refine l_arg hL 1 (by omega) (gDec_at DL_law_12 40 rfl) (gDec_at DL_law_12 41 rfl) (gDec_at DL_law_12 42 rfl) (by decide) (gDec_at DL_law_12 43 rfl) (gDec_at DL_law_12 44 rfl) ?_
  refine l_arg hL 2 (by omega) (gDec_at DL_law_12 45 rfl) (gDec_at DL_law_12 46 rfl) (gDec_at DL_law_12 47 rfl) (by decide) (gDec_at DL_law_12 48 rfl) (gDec_at DL_law_12 49 rfl) ?_
  refine l_callC hL (v := .int v) h1 vf_X6_see ml_L_139 e1 rfl rfl rfl (Nat.le_of_ble_eq_true rfl) (gDec_at DL_law_12 50 rfl) (fun MC' p1 => ?_)
  refine k_aload_n hL.1 (gDec_at DL_law_12 51 rfl) rfl ?_
  refine l_arg hL 1 (by omega) (gDec_at DL_law_12 52 rfl) (gDec_at DL_law_12 53 rfl) (gDec_at DL_law_12 54 rfl) (by decide) (gDec_at DL_law_12 55 rfl) (gDec_at DL_law_12 56 rfl) ?_
  refine l_arg hL 2 (by omega) (gDec_at DL_law_12 57 rfl) (gDec_at DL_law_12 58 rfl) (gDec_at DL_law_12 59 rfl) (by decide) (gDec_at DL_law_12 60 rfl) (gDec_at DL_law_12 61 rfl) ?_
  refine l_callM hL (v := .int v) h2 vf_X7_see ml_L_142 e2 rfl rfl rfl (Nat.le_of_ble_eq_true rfl) (gDec_at DL_law_12 62 rfl) (fun MM' p2 => ?_)
  exact k_icmp_eq hL.1 (gDec_at DL_law_12 63 rfl) 1489 (by decide) (fun _ => K _ _ (h3 _ _ p1 p2)) (fun h => absurd rfl h)
set_option maxRecDepth 100000 in
set_option maxHeartbeats 4000000 in
theorem law_29 {X : gX} {D : va_G} {cy : Nat → ClassId} {base b L i : Nat} {xs : Nat → Int32} {Q : State → Prop} {MC MM : gM} (hL : lC X D cy base b L xs) (hi : i + 7 ≤ L) (hS : gSt MC MM) (K : ∀ MC' MM' : gM, gSt MC' MM' → lG X D cy base Q MC' MM' 1489 (lL base b i) []) : lG X D cy base Q MC MM 1234 (lL base b i) [] := by
  obtain ⟨v, u, dC, dM, PC, PM, e1, e2, h1, h2, h3⟩ := pr_off (qC0 D cy base) (qM0 D cy base) hS (xs (i + 1))
  refine k_aload_n hL.1 (gDec_at DL_law_13 2 rfl) rfl ?_
  refine l_arg hL 1 (by omega) (gDec_at DL_law_13 3 rfl) (gDec_at DL_law_13 4 rfl) (gDec_at DL_law_13 5 rfl) (by decide) (gDec_at DL_law_13 6 rfl) (gDec_at DL_law_13 7 rfl) ?_
  refine l_callC hL (v := .int v) h1 vf_X6_off ml_L_143 e1 rfl rfl rfl (Nat.le_of_ble_eq_true rfl) (gDec_at DL_law_13 8 rfl) (fun MC' p1 => ?_)
  refine k_aload_n hL.1 (gDec_at DL_law_13 9 rfl) rfl ?_
  refine l_arg hL 1 (by omega) (gDec_at DL_law_13 10 rfl) (gDec_at DL_law_13 11 rfl) (gDec_at DL_law_13 12 rfl) (by decide) (gDec_at DL_law_13 13 rfl) (gDec_at DL_law_13 14 rfl) ?_
  refine l_callM hL (v := .int v) h2 vf_X7_off ml_L_146 e2 rfl rfl rfl (Nat.le_of_ble_eq_true rfl) (gDec_at DL_law_13 15 rfl) (fun MM' p2 => ?_)
  exact k_icmp_eq hL.1 (gDec_at DL_law_13 16 rfl) 1489 (by decide) (fun _ => K _ _ (h3 _ _ p1 p2)) (fun h => absurd rfl h)
set_option maxRecDepth 100000 in
set_option maxHeartbeats 4000000 in
theorem law_30 {X : gX} {D : va_G} {cy : Nat → ClassId} {base b L i : Nat} {xs : Nat → Int32} {Q : State → Prop} {MC MM : gM} (hL : lC X D cy base b L xs) (hi : i + 7 ≤ L) (hS : gSt MC MM) (K : ∀ MC' MM' : gM, gSt MC' MM' → lG X D cy base Q MC' MM' 1489 (lL base b i) []) : lG X D cy base Q MC MM 1257 (lL base b i) [] := by
  obtain ⟨v, u, dC, dM, PC, PM, e1, e2, h1, h2, h3⟩ := pr_tooStiff (qC0 D cy base) (qM0 D cy base) hS 
  refine k_aload_n hL.1 (gDec_at DL_law_13 19 rfl) rfl ?_
  refine l_callC hL (v := .int v) h1 vf_X6_tooStiff ml_L_147 e1 rfl rfl rfl (Nat.le_of_ble_eq_true rfl) (gDec_at DL_law_13 20 rfl) (fun MC' p1 => ?_)
  refine k_aload_n hL.1 (gDec_at DL_law_13 21 rfl) rfl ?_
  refine l_callM hL (v := .int v) h2 vf_X7_tooStiff ml_L_150 e2 rfl rfl rfl (Nat.le_of_ble_eq_true rfl) (gDec_at DL_law_13 22 rfl) (fun MM' p2 => ?_)
  exact k_icmp_eq hL.1 (gDec_at DL_law_13 23 rfl) 1489 (by decide) (fun _ => K _ _ (h3 _ _ p1 p2)) (fun h => absurd rfl h)
set_option maxRecDepth 100000 in
set_option maxHeartbeats 4000000 in
theorem law_31 {X : gX} {D : va_G} {cy : Nat → ClassId} {base b L i : Nat} {xs : Nat → Int32} {Q : State → Prop} {MC MM : gM} (hL : lC X D cy base b L xs) (hi : i + 7 ≤ L) (hS : gSt MC MM) (K : ∀ MC' MM' : gM, gSt MC' MM' → lG X D cy base Q MC' MM' 1489 (lL base b i) []) : lG X D cy base Q MC MM 1270 (lL base b i) [] := by
  obtain ⟨v, u, dC, dM, PC, PM, e1, e2, h1, h2, h3⟩ := pr_slips (qC0 D cy base) (qM0 D cy base) hS (xs (i + 1)) (xs (i + 2)) (xs (i + 3)) (xs (i + 4)) (bt_le (xs (i + 5)))
  refine k_aload_n hL.1 (gDec_at DL_law_13 26 rfl) rfl ?_
  refine l_arg hL 1 (by omega) (gDec_at DL_law_13 27 rfl) (gDec_at DL_law_13 28 rfl) (gDec_at DL_law_13 29 rfl) (by decide) (gDec_at DL_law_13 30 rfl) (gDec_at DL_law_13 31 rfl) ?_
  refine l_arg hL 2 (by omega) (gDec_at DL_law_13 32 rfl) (gDec_at DL_law_13 33 rfl) (gDec_at DL_law_13 34 rfl) (by decide) (gDec_at DL_law_13 35 rfl) (gDec_at DL_law_13 36 rfl) ?_
  refine l_arg hL 3 (by omega) (gDec_at DL_law_13 37 rfl) (gDec_at DL_law_13 38 rfl) (gDec_at DL_law_13 39 rfl) (by decide) (gDec_at DL_law_13 40 rfl) (gDec_at DL_law_13 41 rfl) ?_
  refine l_arg hL 4 (by omega) (gDec_at DL_law_13 42 rfl) (gDec_at DL_law_13 43 rfl) (gDec_at DL_law_13 44 rfl) (by decide) (gDec_at DL_law_13 45 rfl) (gDec_at DL_law_13 46 rfl) ?_
  refine l_arg hL 5 (by omega) (gDec_at DL_law_13 47 rfl) (gDec_at DL_law_13 48 rfl) (gDec_at DL_law_13 49 rfl) (by decide) (gDec_at DL_law_13 50 rfl) (gDec_at DL_law_13 51 rfl) ?_
  refine l_bool hL (gDec_at DL_law_13 52 rfl) (gDec_at DL_law_13 53 rfl) (gDec_at DL_law_13 54 rfl) (gDec_at DL_law_13 55 rfl) ?_
  refine l_callC hL (v := .long u) h1 vf_X6_slips ml_L_151 e1 rfl rfl rfl (Nat.le_of_ble_eq_true rfl) (gDec_at DL_law_13 56 rfl) (fun MC' p1 => ?_)
  refine k_aload_n hL.1 (gDec_at DL_law_13 57 rfl) rfl ?_
  refine l_arg hL 1 (by omega) (gDec_at DL_law_13 58 rfl) (gDec_at DL_law_13 59 rfl) (gDec_at DL_law_13 60 rfl) (by decide) (gDec_at DL_law_13 61 rfl) (gDec_at DL_law_13 62 rfl) ?_
  refine l_arg hL 2 (by omega) (gDec_at DL_law_13 63 rfl) (gDec_at DL_law_14 0 rfl) (gDec_at DL_law_14 1 rfl) (by decide) (gDec_at DL_law_14 2 rfl) (gDec_at DL_law_14 3 rfl) ?_
  refine l_arg hL 3 (by omega) (gDec_at DL_law_14 4 rfl) (gDec_at DL_law_14 5 rfl) (gDec_at DL_law_14 6 rfl) (by decide) (gDec_at DL_law_14 7 rfl) (gDec_at DL_law_14 8 rfl) ?_
  refine l_arg hL 4 (by omega) (gDec_at DL_law_14 9 rfl) (gDec_at DL_law_14 10 rfl) (gDec_at DL_law_14 11 rfl) (by decide) (gDec_at DL_law_14 12 rfl) (gDec_at DL_law_14 13 rfl) ?_
  refine l_arg hL 5 (by omega) (gDec_at DL_law_14 14 rfl) (gDec_at DL_law_14 15 rfl) (gDec_at DL_law_14 16 rfl) (by decide) (gDec_at DL_law_14 17 rfl) (gDec_at DL_law_14 18 rfl) ?_
  refine l_bool hL (gDec_at DL_law_14 19 rfl) (gDec_at DL_law_14 20 rfl) (gDec_at DL_law_14 21 rfl) (gDec_at DL_law_14 22 rfl) ?_
  refine l_callM hL (v := .long u) h2 vf_X7_slips ml_L_155 e2 rfl rfl rfl (Nat.le_of_ble_eq_true rfl) (gDec_at DL_law_14 23 rfl) (fun MM' p2 => ?_)
  exact k_lc_eq hL.1 (gDec_at DL_law_14 24 rfl) (gDec_at DL_law_14 25 rfl) 1489 (by decide) (fun _ => K _ _ (h3 _ _ p1 p2)) (fun h => absurd rfl h)
set_option maxRecDepth 100000 in
set_option maxHeartbeats 4000000 in
theorem law_32 {X : gX} {D : va_G} {cy : Nat → ClassId} {base b L i : Nat} {xs : Nat → Int32} {Q : State → Prop} {MC MM : gM} (hL : lC X D cy base b L xs) (hi : i + 7 ≤ L) (hS : gSt MC MM) (K : ∀ MC' MM' : gM, gSt MC' MM' → lG X D cy base Q MC' MM' 1489 (lL base b i) []) : lG X D cy base Q MC MM 1350 (lL base b i) [] := by
  obtain ⟨v, u, dC, dM, PC, PM, e1, e2, h1, h2, h3⟩ := pr_good (qC0 D cy base) (qM0 D cy base) hS (xs (i + 1)) (xs (i + 2)) (xs (i + 3)) (bt_le (xs (i + 4)))
  refine k_aload_n hL.1 (gDec_at DL_law_14 28 rfl) rfl ?_
  refine l_arg hL 1 (by omega) (gDec_at DL_law_14 29 rfl) (gDec_at DL_law_14 30 rfl) (gDec_at DL_law_14 31 rfl) (by decide) (gDec_at DL_law_14 32 rfl) (gDec_at DL_law_14 33 rfl) ?_
  refine l_arg hL 2 (by omega) (gDec_at DL_law_14 34 rfl) (gDec_at DL_law_14 35 rfl) (gDec_at DL_law_14 36 rfl) (by decide) (gDec_at DL_law_14 37 rfl) (gDec_at DL_law_14 38 rfl) ?_
  refine l_arg hL 3 (by omega) (gDec_at DL_law_14 39 rfl) (gDec_at DL_law_14 40 rfl) (gDec_at DL_law_14 41 rfl) (by decide) (gDec_at DL_law_14 42 rfl) (gDec_at DL_law_14 43 rfl) ?_
  refine l_arg hL 4 (by omega) (gDec_at DL_law_14 44 rfl) (gDec_at DL_law_14 45 rfl) (gDec_at DL_law_14 46 rfl) (by decide) (gDec_at DL_law_14 47 rfl) (gDec_at DL_law_14 48 rfl) ?_
  refine l_bool hL (gDec_at DL_law_14 49 rfl) (gDec_at DL_law_14 50 rfl) (gDec_at DL_law_14 51 rfl) (gDec_at DL_law_14 52 rfl) ?_
  refine l_callC hL (v := .long u) h1 vf_X6_good ml_L_156 e1 rfl rfl rfl (Nat.le_of_ble_eq_true rfl) (gDec_at DL_law_14 53 rfl) (fun MC' p1 => ?_)
  refine k_aload_n hL.1 (gDec_at DL_law_14 54 rfl) rfl ?_
  refine l_arg hL 1 (by omega) (gDec_at DL_law_14 55 rfl) (gDec_at DL_law_14 56 rfl) (gDec_at DL_law_14 57 rfl) (by decide) (gDec_at DL_law_14 58 rfl) (gDec_at DL_law_14 59 rfl) ?_
  refine l_arg hL 2 (by omega) (gDec_at DL_law_14 60 rfl) (gDec_at DL_law_14 61 rfl) (gDec_at DL_law_14 62 rfl) (by decide) (gDec_at DL_law_14 63 rfl) (gDec_at DL_law_15 0 rfl) ?_
  refine l_arg hL 3 (by omega) (gDec_at DL_law_15 1 rfl) (gDec_at DL_law_15 2 rfl) (gDec_at DL_law_15 3 rfl) (by decide) (gDec_at DL_law_15 4 rfl) (gDec_at DL_law_15 5 rfl) ?_
  refine l_arg hL 4 (by omega) (gDec_at DL_law_15 6 rfl) (gDec_at DL_law_15 7 rfl) (gDec_at DL_law_15 8 rfl) (by decide) (gDec_at DL_law_15 9 rfl) (gDec_at DL_law_15 10 rfl) ?_
  refine l_bool hL (gDec_at DL_law_15 11 rfl) (gDec_at DL_law_15 12 rfl) (gDec_at DL_law_15 13 rfl) (gDec_at DL_law_15 14 rfl) ?_
  refine l_callM hL (v := .long u) h2 vf_X7_good ml_L_160 e2 rfl rfl rfl (Nat.le_of_ble_eq_true rfl) (gDec_at DL_law_15 15 rfl) (fun MM' p2 => ?_)
  exact k_lc_eq hL.1 (gDec_at DL_law_15 16 rfl) (gDec_at DL_law_15 17 rfl) 1489 (by decide) (fun _ => K _ _ (h3 _ _ p1 p2)) (fun h => absurd rfl h)
set_option maxRecDepth 100000 in
set_option maxHeartbeats 4000000 in
theorem law_33 {X : gX} {D : va_G} {cy : Nat → ClassId} {base b L i : Nat} {xs : Nat → Int32} {Q : State → Prop} {MC MM : gM} (hL : lC X D cy base b L xs) (hi : i + 7 ≤ L) (hS : gSt MC MM) (K : ∀ MC' MM' : gM, gSt MC' MM' → lG X D cy base Q MC' MM' 1489 (lL base b i) []) : lG X D cy base Q MC MM 1420 (lL base b i) [] := by
  obtain ⟨v, u, dC, dM, PC, PM, e1, e2, h1, h2, h3⟩ := pr_keep (qC0 D cy base) (qM0 D cy base) hS (xs (i + 1))
  refine k_aload_n hL.1 (gDec_at DL_law_15 20 rfl) rfl ?_
  refine l_arg hL 1 (by omega) (gDec_at DL_law_15 21 rfl) (gDec_at DL_law_15 22 rfl) (gDec_at DL_law_15 23 rfl) (by decide) (gDec_at DL_law_15 24 rfl) (gDec_at DL_law_15 25 rfl) ?_
  refine l_callC hL (v := .int v) h1 vf_X6_keep ml_L_161 e1 rfl rfl rfl (Nat.le_of_ble_eq_true rfl) (gDec_at DL_law_15 26 rfl) (fun MC' p1 => ?_)
  refine k_aload_n hL.1 (gDec_at DL_law_15 27 rfl) rfl ?_
  refine l_arg hL 1 (by omega) (gDec_at DL_law_15 28 rfl) (gDec_at DL_law_15 29 rfl) (gDec_at DL_law_15 30 rfl) (by decide) (gDec_at DL_law_15 31 rfl) (gDec_at DL_law_15 32 rfl) ?_
  refine l_callM hL (v := .int v) h2 vf_X7_keep ml_L_164 e2 rfl rfl rfl (Nat.le_of_ble_eq_true rfl) (gDec_at DL_law_15 33 rfl) (fun MM' p2 => ?_)
  exact k_icmp_eq hL.1 (gDec_at DL_law_15 34 rfl) 1489 (by decide) (fun _ => K _ _ (h3 _ _ p1 p2)) (fun h => absurd rfl h)
set_option maxRecDepth 100000 in
set_option maxHeartbeats 4000000 in
theorem law_34 {X : gX} {D : va_G} {cy : Nat → ClassId} {base b L i : Nat} {xs : Nat → Int32} {Q : State → Prop} {MC MM : gM} (hL : lC X D cy base b L xs) (hi : i + 7 ≤ L) (hS : gSt MC MM) (K : ∀ MC' MM' : gM, gSt MC' MM' → lG X D cy base Q MC' MM' 1489 (lL base b i) []) : lG X D cy base Q MC MM 1443 (lL base b i) [] := by
  obtain ⟨v, u, dC, dM, PC, PM, e1, e2, h1, h2, h3⟩ := pr_again (qC0 D cy base) (qM0 D cy base) hS (xs (i + 1))
  refine k_aload_n hL.1 (gDec_at DL_law_15 37 rfl) rfl ?_
  refine l_arg hL 1 (by omega) (gDec_at DL_law_15 38 rfl) (gDec_at DL_law_15 39 rfl) (gDec_at DL_law_15 40 rfl) (by decide) (gDec_at DL_law_15 41 rfl) (gDec_at DL_law_15 42 rfl) ?_
  refine l_callC hL (v := .int v) h1 vf_X6_again ml_L_165 e1 rfl rfl rfl (Nat.le_of_ble_eq_true rfl) (gDec_at DL_law_15 43 rfl) (fun MC' p1 => ?_)
  refine k_aload_n hL.1 (gDec_at DL_law_15 44 rfl) rfl ?_
  refine l_arg hL 1 (by omega) (gDec_at DL_law_15 45 rfl) (gDec_at DL_law_15 46 rfl) (gDec_at DL_law_15 47 rfl) (by decide) (gDec_at DL_law_15 48 rfl) (gDec_at DL_law_15 49 rfl) ?_
  refine l_callM hL (v := .int v) h2 vf_X7_again ml_L_168 e2 rfl rfl rfl (Nat.le_of_ble_eq_true rfl) (gDec_at DL_law_15 50 rfl) (fun MM' p2 => ?_)
  exact k_icmp_eq hL.1 (gDec_at DL_law_15 51 rfl) 1489 (by decide) (fun _ => K _ _ (h3 _ _ p1 p2)) (fun h => absurd rfl h)
set_option maxRecDepth 100000 in
set_option maxHeartbeats 4000000 in
theorem law_35 {X : gX} {D : va_G} {cy : Nat → ClassId} {base b L i : Nat} {xs : Nat → Int32} {Q : State → Prop} {MC MM : gM} (hL : lC X D cy base b L xs) (hi : i + 7 ≤ L) (hS : gSt MC MM) (K : ∀ MC' MM' : gM, gSt MC' MM' → lG X D cy base Q MC' MM' 1489 (lL base b i) []) : lG X D cy base Q MC MM 1466 (lL base b i) [] := by
  obtain ⟨v, u, dC, dM, PC, PM, e1, e2, h1, h2, h3⟩ := pr_count (qC0 D cy base) (qM0 D cy base) hS (xs (i + 1))
  refine k_aload_n hL.1 (gDec_at DL_law_15 54 rfl) rfl ?_
  refine l_arg hL 1 (by omega) (gDec_at DL_law_15 55 rfl) (gDec_at DL_law_15 56 rfl) (gDec_at DL_law_15 57 rfl) (by decide) (gDec_at DL_law_15 58 rfl) (gDec_at DL_law_15 59 rfl) ?_
  refine l_callC hL (v := .int v) h1 vf_X6_count ml_L_169 e1 rfl rfl rfl (Nat.le_of_ble_eq_true rfl) (gDec_at DL_law_15 60 rfl) (fun MC' p1 => ?_)
  refine k_aload_n hL.1 (gDec_at DL_law_15 61 rfl) rfl ?_
  refine l_arg hL 1 (by omega) (gDec_at DL_law_15 62 rfl) (gDec_at DL_law_15 63 rfl) (gDec_at DL_law_16 0 rfl) (by decide) (gDec_at DL_law_16 1 rfl) (gDec_at DL_law_16 2 rfl) ?_
  refine l_callM hL (v := .int v) h2 vf_X7_count ml_L_172 e2 rfl rfl rfl (Nat.le_of_ble_eq_true rfl) (gDec_at DL_law_16 3 rfl) (fun MM' p2 => ?_)
  exact k_icmp_eq hL.1 (gDec_at DL_law_16 4 rfl) 1489 (by decide) (fun _ => K _ _ (h3 _ _ p1 p2)) (fun h => absurd rfl h)