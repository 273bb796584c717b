/-! THE LAW: its cases 0 .. 17 -/
set_option maxRecDepth 100000 in
set_option maxHeartbeats 4000000 in
theorem law_0 {X : gX} {D : va_G} {cy : Nat → ClassId} {base b L i : Nat} {xs : Nat → Int32} {Q : State → Prop} {MC MM : gM} (hL : lC X D cy base b L xs) (hi : i + 7 ≤ L) (hS : gSt MC MM) (K : ∀ MC' MM' : gM, gSt MC' MM' → lG X D cy base Q MC' MM' 1489 (lL base b i) []) : lG X D cy base Q MC MM 192 (lL base b i) [] := by
  obtain ⟨v, u, dC, dM, PC, PM, e1, e2, h1, h2, h3⟩ := pr_write (qC0 D cy base) (qM0 D cy base) hS (xs (i + 1)) (((xs (i + 2)).toInt64 <<< ((32 : Int32).toInt64 &&& 63)) ||| ((xs (i + 3)).toInt64 &&& (4294967295 : Int64)))
  refine k_aload_n hL.1 (gDec_at DL_law_0 22 rfl) rfl ?_
  refine l_arg hL 1 (by omega) (gDec_at DL_law_0 23 rfl) (gDec_at DL_law_0 24 rfl) (gDec_at DL_law_0 25 rfl) (by decide) (gDec_at DL_law_0 26 rfl) (gDec_at DL_law_0 27 rfl) ?_
  refine l_arg hL 2 (by omega) (gDec_at DL_law_0 28 rfl) (gDec_at DL_law_0 29 rfl) (gDec_at DL_law_0 30 rfl) (by decide) (gDec_at DL_law_0 31 rfl) (gDec_at DL_law_0 32 rfl) ?_
  refine k_i2l hL.1 (gDec_at DL_law_0 33 rfl) rfl ?_
  refine k_bipush hL.1 (gDec_at DL_law_0 34 rfl) (v := 32) (by decide) ?_
  refine k_lshl hL.1 (gDec_at DL_law_0 35 rfl) rfl ?_
  refine l_arg hL 3 (by omega) (gDec_at DL_law_0 36 rfl) (gDec_at DL_law_0 37 rfl) (gDec_at DL_law_0 38 rfl) (by decide) (gDec_at DL_law_0 39 rfl) (gDec_at DL_law_0 40 rfl) ?_
  refine k_i2l hL.1 (gDec_at DL_law_0 41 rfl) rfl ?_
  refine k_ldc2 hL.1 cl_L_13 (v' := (4294967295 : Int64)) rfl (gDec_at DL_law_0 42 rfl) ?_
  refine k_land hL.1 (gDec_at DL_law_0 43 rfl) ?_
  refine k_lor hL.1 (gDec_at DL_law_0 44 rfl) ?_
  refine l_callC hL (v := .int v) h1 vf_X6_write ml_L_15 e1 rfl rfl rfl (Nat.le_of_ble_eq_true rfl) (gDec_at DL_law_0 45 rfl) (fun MC' p1 => ?_)
  refine k_aload_n hL.1 (gDec_at DL_law_0 46 rfl) rfl ?_
  refine l_arg hL 1 (by omega) (gDec_at DL_law_0 47 rfl) (gDec_at DL_law_0 48 rfl) (gDec_at DL_law_0 49 rfl) (by decide) (gDec_at DL_law_0 50 rfl) (gDec_at DL_law_0 51 rfl) ?_
  refine l_arg hL 2 (by omega) (gDec_at DL_law_0 52 rfl) (gDec_at DL_law_0 53 rfl) (gDec_at DL_law_0 54 rfl) (by decide) (gDec_at DL_law_0 55 rfl) (gDec_at DL_law_0 56 rfl) ?_
  refine k_i2l hL.1 (gDec_at DL_law_0 57 rfl) rfl ?_
  refine k_bipush hL.1 (gDec_at DL_law_0 58 rfl) (v := 32) (by decide) ?_
  refine k_lshl hL.1 (gDec_at DL_law_0 59 rfl) rfl ?_
  refine l_arg hL 3 (by omega) (gDec_at DL_law_0 60 rfl) (gDec_at DL_law_0 61 rfl) (gDec_at DL_law_0 62 rfl) (by decide) (gDec_at DL_law_0 63 rfl) (gDec_at DL_law_1 0 rfl) ?_
  refine k_i2l hL.1 (gDec_at DL_law_1 1 rfl) rfl ?_
  refine k_ldc2 hL.1 cl_L_13 (v' := (4294967295 : Int64)) rfl (gDec_at DL_law_1 2 rfl) ?_
  refine k_land hL.1 (gDec_at DL_law_1 3 rfl) ?_
  refine k_lor hL.1 (gDec_at DL_law_1 4 rfl) ?_
  refine l_callM hL (v := .int v) h2 vf_X7_write ml_L_19 e2 rfl rfl rfl (Nat.le_of_ble_eq_true rfl) (gDec_at DL_law_1 5 rfl) (fun MM' p2 => ?_)
  exact k_icmp_eq hL.1 (gDec_at DL_law_1 6 rfl) 1489 (by decide) (fun _ => K _ _ (h3 _ _ p1 p2)) (fun h => absurd rfl h)
set_option maxRecDepth 100000 in
set_option maxHeartbeats 4000000 in
theorem law_1 {X : gX} {D : va_G} {cy : Nat → ClassId} {base b L i : Nat} {xs : Nat → Int32} {Q : State → Prop} {MC MM : gM} (hL : lC X D cy base b L xs) (hi : i + 7 ≤ L) (hS : gSt MC MM) (K : ∀ MC' MM' : gM, gSt MC' MM' → lG X D cy base Q MC' MM' 1489 (lL base b i) []) : lG X D cy base Q MC MM 255 (lL base b i) [] := by
  obtain ⟨v, u, dC, dM, PC, PM, e1, e2, h1, h2, h3⟩ := pr_wipe (qC0 D cy base) (qM0 D cy base) hS 
  refine k_aload_n hL.1 (gDec_at DL_law_1 9 rfl) rfl ?_
  refine l_callC hL (v := .int v) h1 vf_X6_wipe ml_L_20 e1 rfl rfl rfl (Nat.le_of_ble_eq_true rfl) (gDec_at DL_law_1 10 rfl) (fun MC' p1 => ?_)
  refine k_aload_n hL.1 (gDec_at DL_law_1 11 rfl) rfl ?_
  refine l_callM hL (v := .int v) h2 vf_X7_wipe ml_L_24 e2 rfl rfl rfl (Nat.le_of_ble_eq_true rfl) (gDec_at DL_law_1 12 rfl) (fun MM' p2 => ?_)
  exact k_icmp_eq hL.1 (gDec_at DL_law_1 13 rfl) 1489 (by decide) (fun _ => K _ _ (h3 _ _ p1 p2)) (fun h => absurd rfl h)
set_option maxRecDepth 100000 in
set_option maxHeartbeats 4000000 in
theorem law_2 {X : gX} {D : va_G} {cy : Nat → ClassId} {base b L i : Nat} {xs : Nat → Int32} {Q : State → Prop} {MC MM : gM} (hL : lC X D cy base b L xs) (hi : i + 7 ≤ L) (hS : gSt MC MM) (K : ∀ MC' MM' : gM, gSt MC' MM' → lG X D cy base Q MC' MM' 1489 (lL base b i) []) : lG X D cy base Q MC MM 268 (lL base b i) [] := by
  obtain ⟨v, u, dC, dM, PC, PM, e1, e2, h1, h2, h3⟩ := pr_fault (qC0 D cy base) (qM0 D cy base) hS 
  refine k_aload_n hL.1 (gDec_at DL_law_1 16 rfl) rfl ?_
  refine l_callC hL (v := .int v) h1 vf_X6_fault ml_L_25 e1 rfl rfl rfl (Nat.le_of_ble_eq_true rfl) (gDec_at DL_law_1 17 rfl) (fun MC' p1 => ?_)
  refine k_aload_n hL.1 (gDec_at DL_law_1 18 rfl) rfl ?_
  refine l_callM hL (v := .int v) h2 vf_X7_fault ml_L_28 e2 rfl rfl rfl (Nat.le_of_ble_eq_true rfl) (gDec_at DL_law_1 19 rfl) (fun MM' p2 => ?_)
  exact k_icmp_eq hL.1 (gDec_at DL_law_1 20 rfl) 1489 (by decide) (fun _ => K _ _ (h3 _ _ p1 p2)) (fun h => absurd rfl h)
set_option maxRecDepth 100000 in
set_option maxHeartbeats 4000000 in
theorem law_3 {X : gX} {D : va_G} {cy : Nat → ClassId} {base b L i : Nat} {xs : Nat → Int32} {Q : State → Prop} {MC MM : gM} (hL : lC X D cy base b L xs) (hi : i + 7 ≤ L) (hS : gSt MC MM) (K : ∀ MC' MM' : gM, gSt MC' MM' → lG X D cy base Q MC' MM' 1489 (lL base b i) []) : lG X D cy base Q MC MM 281 (lL base b i) [] := by
  obtain ⟨v, u, dC, dM, PC, PM, e1, e2, h1, h2, h3⟩ := pr_stave (qC0 D cy base) (qM0 D cy base) hS 
  refine k_aload_n hL.1 (gDec_at DL_law_1 23 rfl) rfl ?_
  refine l_callC hL (v := .int v) h1 vf_X6_stave ml_L_29 e1 rfl rfl rfl (Nat.le_of_ble_eq_true rfl) (gDec_at DL_law_1 24 rfl) (fun MC' p1 => ?_)
  refine k_aload_n hL.1 (gDec_at DL_law_1 25 rfl) rfl ?_
  refine l_callM hL (v := .int v) h2 vf_X7_stave ml_L_32 e2 rfl rfl rfl (Nat.le_of_ble_eq_true rfl) (gDec_at DL_law_1 26 rfl) (fun MM' p2 => ?_)
  exact k_icmp_eq hL.1 (gDec_at DL_law_1 27 rfl) 1489 (by decide) (fun _ => K _ _ (h3 _ _ p1 p2)) (fun h => absurd rfl h)
set_option maxRecDepth 100000 in
set_option maxHeartbeats 4000000 in
theorem law_4 {X : gX} {D : va_G} {cy : Nat → ClassId} {base b L i : Nat} {xs : Nat → Int32} {Q : State → Prop} {MC MM : gM} (hL : lC X D cy base b L xs) (hi : i + 7 ≤ L) (hS : gSt MC MM) (K : ∀ MC' MM' : gM, gSt MC' MM' → lG X D cy base Q MC' MM' 1489 (lL base b i) []) : lG X D cy base Q MC MM 294 (lL base b i) [] := by
  obtain ⟨v, u, dC, dM, PC, PM, e1, e2, h1, h2, h3⟩ := pr_wood (qC0 D cy base) (qM0 D cy base) hS (xs (i + 1)) (xs (i + 2)) (xs (i + 3)) (xs (i + 4))
  refine k_aload_n hL.1 (gDec_at DL_law_1 30 rfl) rfl ?_
  refine l_arg hL 1 (by omega) (gDec_at DL_law_1 31 rfl) (gDec_at DL_law_1 32 rfl) (gDec_at DL_law_1 33 rfl) (by decide) (gDec_at DL_law_1 34 rfl) (gDec_at DL_law_1 35 rfl) ?_
  refine l_arg hL 2 (by omega) (gDec_at DL_law_1 36 rfl) (gDec_at DL_law_1 37 rfl) (gDec_at DL_law_1 38 rfl) (by decide) (gDec_at DL_law_1 39 rfl) (gDec_at DL_law_1 40 rfl) ?_
  refine l_arg hL 3 (by omega) (gDec_at DL_law_1 41 rfl) (gDec_at DL_law_1 42 rfl) (gDec_at DL_law_1 43 rfl) (by decide) (gDec_at DL_law_1 44 rfl) (gDec_at DL_law_1 45 rfl) ?_
  refine l_arg hL 4 (by omega) (gDec_at DL_law_1 46 rfl) (gDec_at DL_law_1 47 rfl) (gDec_at DL_law_1 48 rfl) (by decide) (gDec_at DL_law_1 49 rfl) (gDec_at DL_law_1 50 rfl) ?_
  refine l_callC hL (v := .int v) h1 vf_X6_wood ml_L_33 e1 rfl rfl rfl (Nat.le_of_ble_eq_true rfl) (gDec_at DL_law_1 51 rfl) (fun MC' p1 => ?_)
  refine k_aload_n hL.1 (gDec_at DL_law_1 52 rfl) rfl ?_
  refine l_arg hL 1 (by omega) (gDec_at DL_law_1 53 rfl) (gDec_at DL_law_1 54 rfl) (gDec_at DL_law_1 55 rfl) (by decide) (gDec_at DL_law_1 56 rfl) (gDec_at DL_law_1 57 rfl) ?_
  refine l_arg hL 2 (by omega) (gDec_at DL_law_1 58 rfl) (gDec_at DL_law_1 59 rfl) (gDec_at DL_law_1 60 rfl) (by decide) (gDec_at DL_law_1 61 rfl) (gDec_at DL_law_1 62 rfl) ?_
  refine l_arg hL 3 (by omega) (gDec_at DL_law_1 63 rfl) (gDec_at DL_law_2 0 rfl) (gDec_at DL_law_2 1 rfl) (by decide) (gDec_at DL_law_2 2 rfl) (gDec_at DL_law_2 3 rfl) ?_
  refine l_arg hL 4 (by omega) (gDec_at DL_law_2 4 rfl) (gDec_at DL_law_2 5 rfl) (gDec_at DL_law_2 6 rfl) (by decide) (gDec_at DL_law_2 7 rfl) (gDec_at DL_law_2 8 rfl) ?_
  refine l_callM hL (v := .int v) h2 vf_X7_wood ml_L_37 e2 rfl rfl rfl (Nat.le_of_ble_eq_true rfl) (gDec_at DL_law_2 9 rfl) (fun MM' p2 => ?_)
  exact k_icmp_eq hL.1 (gDec_at DL_law_2 10 rfl) 1489 (by decide) (fun _ => K _ _ (h3 _ _ p1 p2)) (fun h => absurd rfl h)
set_option maxRecDepth 100000 in
set_option maxHeartbeats 4000000 in
theorem law_5 {X : gX} {D : va_G} {cy : Nat → ClassId} {base b L i : Nat} {xs : Nat → Int32} {Q : State → Prop} {MC MM : gM} (hL : lC X D cy base b L xs) (hi : i + 7 ≤ L) (hS : gSt MC MM) (K : ∀ MC' MM' : gM, gSt MC' MM' → lG X D cy base Q MC' MM' 1489 (lL base b i) []) : lG X D cy base Q MC MM 347 (lL base b i) [] := by
  obtain ⟨v, u, dC, dM, PC, PM, e1, e2, h1, h2, h3⟩ := pr_grown (qC0 D cy base) (qM0 D cy base) hS (xs (i + 1)) (xs (i + 2))
  refine k_aload_n hL.1 (gDec_at DL_law_2 13 rfl) rfl ?_
  refine l_arg hL 1 (by omega) (gDec_at DL_law_2 14 rfl) (gDec_at DL_law_2 15 rfl) (gDec_at DL_law_2 16 rfl) (by decide) (gDec_at DL_law_2 17 rfl) (gDec_at DL_law_2 18 rfl) ?_
  refine l_arg hL 2 (by omega) (gDec_at DL_law_2 19 rfl) (gDec_at DL_law_2 20 rfl) (gDec_at DL_law_2 21 rfl) (by decide) (gDec_at DL_law_2 22 rfl) (gDec_at DL_law_2 23 rfl) ?_
  refine l_callC hL (v := .int v) h1 vf_X6_grown ml_L_38 e1 rfl rfl rfl (Nat.le_of_ble_eq_true rfl) (gDec_at DL_law_2 24 rfl) (fun MC' p1 => ?_)
  refine k_aload_n hL.1 (gDec_at DL_law_2 25 rfl) rfl ?_
  refine l_arg hL 1 (by omega) (gDec_at DL_law_2 26 rfl) (gDec_at DL_law_2 27 rfl) (gDec_at DL_law_2 28 rfl) (by decide) (gDec_at DL_law_2 29 rfl) (gDec_at DL_law_2 30 rfl) ?_
  refine l_arg hL 2 (by omega) (gDec_at DL_law_2 31 rfl) (gDec_at DL_law_2 32 rfl) (gDec_at DL_law_2 33 rfl) (by decide) (gDec_at DL_law_2 34 rfl) (gDec_at DL_law_2 35 rfl) ?_
  refine l_callM hL (v := .int v) h2 vf_X7_grown ml_L_42 e2 rfl rfl rfl (Nat.le_of_ble_eq_true rfl) (gDec_at DL_law_2 36 rfl) (fun MM' p2 => ?_)
  exact k_icmp_eq hL.1 (gDec_at DL_law_2 37 rfl) 1489 (by decide) (fun _ => K _ _ (h3 _ _ p1 p2)) (fun h => absurd rfl h)
set_option maxRecDepth 100000 in
set_option maxHeartbeats 4000000 in
theorem law_6 {X : gX} {D : va_G} {cy : Nat → ClassId} {base b L i : Nat} {xs : Nat → Int32} {Q : State → Prop} {MC MM : gM} (hL : lC X D cy base b L xs) (hi : i + 7 ≤ L) (hS : gSt MC MM) (K : ∀ MC' MM' : gM, gSt MC' MM' → lG X D cy base Q MC' MM' 1489 (lL base b i) []) : lG X D cy base Q MC MM 380 (lL base b i) [] := by
  obtain ⟨v, u, dC, dM, PC, PM, e1, e2, h1, h2, h3⟩ := pr_knot (qC0 D cy base) (qM0 D cy base) hS (xs (i + 1)) (bt_le (xs (i + 2)))
  refine k_aload_n hL.1 (gDec_at DL_law_2 40 rfl) rfl ?_
  refine l_arg hL 1 (by omega) (gDec_at DL_law_2 41 rfl) (gDec_at DL_law_2 42 rfl) (gDec_at DL_law_2 43 rfl) (by decide) (gDec_at DL_law_2 44 rfl) (gDec_at DL_law_2 45 rfl) ?_
  refine l_arg hL 2 (by omega) (gDec_at DL_law_2 46 rfl) (gDec_at DL_law_2 47 rfl) (gDec_at DL_law_2 48 rfl) (by decide) (gDec_at DL_law_2 49 rfl) (gDec_at DL_law_2 50 rfl) ?_
  refine l_bool hL (gDec_at DL_law_2 51 rfl) (gDec_at DL_law_2 52 rfl) (gDec_at DL_law_2 53 rfl) (gDec_at DL_law_2 54 rfl) ?_
  refine l_callC hL (v := .int v) h1 vf_X6_knot ml_L_43 e1 rfl rfl rfl (Nat.le_of_ble_eq_true rfl) (gDec_at DL_law_2 55 rfl) (fun MC' p1 => ?_)
  refine k_aload_n hL.1 (gDec_at DL_law_2 56 rfl) rfl ?_
  refine l_arg hL 1 (by omega) (gDec_at DL_law_2 57 rfl) (gDec_at DL_law_2 58 rfl) (gDec_at DL_law_2 59 rfl) (by decide) (gDec_at DL_law_2 60 rfl) (gDec_at DL_law_2 61 rfl) ?_
  refine l_arg hL 2 (by omega) (gDec_at DL_law_2 62 rfl) (gDec_at DL_law_2 63 rfl) (gDec_at DL_law_3 0 rfl) (by decide) (gDec_at DL_law_3 1 rfl) (gDec_at DL_law_3 2 rfl) ?_
  refine l_bool hL (gDec_at DL_law_3 3 rfl) (gDec_at DL_law_3 4 rfl) (gDec_at DL_law_3 5 rfl) (gDec_at DL_law_3 6 rfl) ?_
  refine l_callM hL (v := .int v) h2 vf_X7_knot ml_L_47 e2 rfl rfl rfl (Nat.le_of_ble_eq_true rfl) (gDec_at DL_law_3 7 rfl) (fun MM' p2 => ?_)
  exact k_icmp_eq hL.1 (gDec_at DL_law_3 8 rfl) 1489 (by decide) (fun _ => K _ _ (h3 _ _ p1 p2)) (fun h => absurd rfl h)
set_option maxRecDepth 100000 in
set_option maxHeartbeats 4000000 in
theorem law_7 {X : gX} {D : va_G} {cy : Nat → ClassId} {base b L i : Nat} {xs : Nat → Int32} {Q : State → Prop} {MC MM : gM} (hL : lC X D cy base b L xs) (hi : i + 7 ≤ L) (hS : gSt MC MM) (K : ∀ MC' MM' : gM, gSt MC' MM' → lG X D cy base Q MC' MM' 1489 (lL base b i) []) : lG X D cy base Q MC MM 429 (lL base b i) [] := by
  obtain ⟨v, u, dC, dM, PC, PM, e1, e2, h1, h2, h3⟩ := pr_about (qC0 D cy base) (qM0 D cy base) hS (xs (i + 1)) (xs (i + 2))
  refine k_aload_n hL.1 (gDec_at DL_law_3 11 rfl) rfl ?_
  refine l_arg hL 1 (by omega) (gDec_at DL_law_3 12 rfl) (gDec_at DL_law_3 13 rfl) (gDec_at DL_law_3 14 rfl) (by decide) (gDec_at DL_law_3 15 rfl) (gDec_at DL_law_3 16 rfl) ?_
  refine l_arg hL 2 (by omega) (gDec_at DL_law_3 17 rfl) (gDec_at DL_law_3 18 rfl) (gDec_at DL_law_3 19 rfl) (by decide) (gDec_at DL_law_3 20 rfl) (gDec_at DL_law_3 21 rfl) ?_
  refine l_callC hL (v := .int v) h1 vf_X6_about ml_L_48 e1 rfl rfl rfl (Nat.le_of_ble_eq_true rfl) (gDec_at DL_law_3 22 rfl) (fun MC' p1 => ?_)
  refine k_aload_n hL.1 (gDec_at DL_law_3 23 rfl) rfl ?_
  refine l_arg hL 1 (by omega) (gDec_at DL_law_3 24 rfl) (gDec_at DL_law_3 25 rfl) (gDec_at DL_law_3 26 rfl) (by decide) (gDec_at DL_law_3 27 rfl) (gDec_at DL_law_3 28 rfl) ?_
  refine l_arg hL 2 (by omega) (gDec_at DL_law_3 29 rfl) (gDec_at DL_law_3 30 rfl) (gDec_at DL_law_3 31 rfl) (by decide) (gDec_at DL_law_3 32 rfl) (gDec_at DL_law_3 33 rfl) ?_
  refine l_callM hL (v := .int v) h2 vf_X7_about ml_L_51 e2 rfl rfl rfl (Nat.le_of_ble_eq_true rfl) (gDec_at DL_law_3 34 rfl) (fun MM' p2 => ?_)
  exact k_icmp_eq hL.1 (gDec_at DL_law_3 35 rfl) 1489 (by decide) (fun _ => K _ _ (h3 _ _ p1 p2)) (fun h => absurd rfl h)
set_option maxRecDepth 100000 in
set_option maxHeartbeats 4000000 in
theorem law_8 {X : gX} {D : va_G} {cy : Nat → ClassId} {base b L i : Nat} {xs : Nat → Int32} {Q : State → Prop} {MC MM : gM} (hL : lC X D cy base b L xs) (hi : i + 7 ≤ L) (hS : gSt MC MM) (K : ∀ MC' MM' : gM, gSt MC' MM' → lG X D cy base Q MC' MM' 1489 (lL base b i) []) : lG X D cy base Q MC MM 462 (lL base b i) [] := by
  obtain ⟨v, u, dC, dM, PC, PM, e1, e2, h1, h2, h3⟩ := pr_give (qC0 D cy base) (qM0 D cy base) hS (xs (i + 1))
  refine k_aload_n hL.1 (gDec_at DL_law_3 38 rfl) rfl ?_
  refine l_arg hL 1 (by omega) (gDec_at DL_law_3 39 rfl) (gDec_at DL_law_3 40 rfl) (gDec_at DL_law_3 41 rfl) (by decide) (gDec_at DL_law_3 42 rfl) (gDec_at DL_law_3 43 rfl) ?_
  refine l_callC hL (v := .long u) h1 vf_X6_give ml_L_52 e1 rfl rfl rfl (Nat.le_of_ble_eq_true rfl) (gDec_at DL_law_3 44 rfl) (fun MC' p1 => ?_)
  refine k_aload_n hL.1 (gDec_at DL_law_3 45 rfl) rfl ?_
  refine l_arg hL 1 (by omega) (gDec_at DL_law_3 46 rfl) (gDec_at DL_law_3 47 rfl) (gDec_at DL_law_3 48 rfl) (by decide) (gDec_at DL_law_3 49 rfl) (gDec_at DL_law_3 50 rfl) ?_
  refine l_callM hL (v := .long u) h2 vf_X7_give ml_L_56 e2 rfl rfl rfl (Nat.le_of_ble_eq_true rfl) (gDec_at DL_law_3 51 rfl) (fun MM' p2 => ?_)
  exact k_lc_eq hL.1 (gDec_at DL_law_3 52 rfl) (gDec_at DL_law_3 53 rfl) 1489 (by decide) (fun _ => K _ _ (h3 _ _ p1 p2)) (fun h => absurd rfl h)
set_option maxRecDepth 100000 in
set_option maxHeartbeats 4000000 in
theorem law_9 {X : gX} {D : va_G} {cy : Nat → ClassId} {base b L i : Nat} {xs : Nat → Int32} {Q : State → Prop} {MC MM : gM} (hL : lC X D cy base b L xs) (hi : i + 7 ≤ L) (hS : gSt MC MM) (K : ∀ MC' MM' : gM, gSt MC' MM' → lG X D cy base Q MC' MM' 1489 (lL base b i) []) : lG X D cy base Q MC MM 486 (lL base b i) [] := by
  obtain ⟨v, u, dC, dM, PC, PM, e1, e2, h1, h2, h3⟩ := pr_limb (qC0 D cy base) (qM0 D cy base) hS (xs (i + 1))
  refine k_aload_n hL.1 (gDec_at DL_law_3 56 rfl) rfl ?_
  refine l_arg hL 1 (by omega) (gDec_at DL_law_3 57 rfl) (gDec_at DL_law_3 58 rfl) (gDec_at DL_law_3 59 rfl) (by decide) (gDec_at DL_law_3 60 rfl) (gDec_at DL_law_3 61 rfl) ?_
  refine l_callC hL (v := .long u) h1 vf_X6_limb ml_L_57 e1 rfl rfl rfl (Nat.le_of_ble_eq_true rfl) (gDec_at DL_law_3 62 rfl) (fun MC' p1 => ?_)
  refine k_aload_n hL.1 (gDec_at DL_law_3 63 rfl) rfl ?_
  refine l_arg hL 1 (by omega) (gDec_at DL_law_4 0 rfl) (gDec_at DL_law_4 1 rfl) (gDec_at DL_law_4 2 rfl) (by decide) (gDec_at DL_law_4 3 rfl) (gDec_at DL_law_4 4 rfl) ?_
  refine l_callM hL (v := .long u) h2 vf_X7_limb ml_L_60 e2 rfl rfl rfl (Nat.le_of_ble_eq_true rfl) (gDec_at DL_law_4 5 rfl) (fun MM' p2 => ?_)
  exact k_lc_eq hL.1 (gDec_at DL_law_4 6 rfl) (gDec_at DL_law_4 7 rfl) 1489 (by decide) (fun _ => K _ _ (h3 _ _ p1 p2)) (fun h => absurd rfl h)
set_option maxRecDepth 100000 in
set_option maxHeartbeats 4000000 in
theorem law_10 {X : gX} {D : va_G} {cy : Nat → ClassId} {base b L i : Nat} {xs : Nat → Int32} {Q : State → Prop} {MC MM : gM} (hL : lC X D cy base b L xs) (hi : i + 7 ≤ L) (hS : gSt MC MM) (K : ∀ MC' MM' : gM, gSt MC' MM' → lG X D cy base Q MC' MM' 1489 (lL base b i) []) : lG X D cy base Q MC MM 510 (lL base b i) [] := by
  obtain ⟨v, u, dC, dM, PC, PM, e1, e2, h1, h2, h3⟩ := pr_follow (qC0 D cy base) (qM0 D cy base) hS 
  refine k_aload_n hL.1 (gDec_at DL_law_4 10 rfl) rfl ?_
  refine l_callC hL (v := .int v) h1 vf_X6_follow ml_L_61 e1 rfl rfl rfl (Nat.le_of_ble_eq_true rfl) (gDec_at DL_law_4 11 rfl) (fun MC' p1 => ?_)
  refine k_aload_n hL.1 (gDec_at DL_law_4 12 rfl) rfl ?_
  refine l_callM hL (v := .int v) h2 vf_X7_follow ml_L_64 e2 rfl rfl rfl (Nat.le_of_ble_eq_true rfl) (gDec_at DL_law_4 13 rfl) (fun MM' p2 => ?_)
  exact k_icmp_eq hL.1 (gDec_at DL_law_4 14 rfl) 1489 (by decide) (fun _ => K _ _ (h3 _ _ p1 p2)) (fun h => absurd rfl h)
set_option maxRecDepth 100000 in
set_option maxHeartbeats 4000000 in
theorem law_11 {X : gX} {D : va_G} {cy : Nat → ClassId} {base b L i : Nat} {xs : Nat → Int32} {Q : State → Prop} {MC MM : gM} (hL : lC X D cy base b L xs) (hi : i + 7 ≤ L) (hS : gSt MC MM) (K : ∀ MC' MM' : gM, gSt MC' MM' → lG X D cy base Q MC' MM' 1489 (lL base b i) []) : lG X D cy base Q MC MM 523 (lL base b i) [] := by
  obtain ⟨v, u, dC, dM, PC, PM, e1, e2, h1, h2, h3⟩ := pr_weight (qC0 D cy base) (qM0 D cy base) hS (xs (i + 1)) (bt_le (xs (i + 2)))
  refine k_aload_n hL.1 (gDec_at DL_law_4 17 rfl) rfl ?_
  refine l_arg hL 1 (by omega) (gDec_at DL_law_4 18 rfl) (gDec_at DL_law_4 19 rfl) (gDec_at DL_law_4 20 rfl) (by decide) (gDec_at DL_law_4 21 rfl) (gDec_at DL_law_4 22 rfl) ?_
  refine l_arg hL 2 (by omega) (gDec_at DL_law_4 23 rfl) (gDec_at DL_law_4 24 rfl) (gDec_at DL_law_4 25 rfl) (by decide) (gDec_at DL_law_4 26 rfl) (gDec_at DL_law_4 27 rfl) ?_
  refine l_bool hL (gDec_at DL_law_4 28 rfl) (gDec_at DL_law_4 29 rfl) (gDec_at DL_law_4 30 rfl) (gDec_at DL_law_4 31 rfl) ?_
  refine l_callC hL (v := .long u) h1 vf_X6_weight ml_L_65 e1 rfl rfl rfl (Nat.le_of_ble_eq_true rfl) (gDec_at DL_law_4 32 rfl) (fun MC' p1 => ?_)
  refine k_aload_n hL.1 (gDec_at DL_law_4 33 rfl) rfl ?_
  refine l_arg hL 1 (by omega) (gDec_at DL_law_4 34 rfl) (gDec_at DL_law_4 35 rfl) (gDec_at DL_law_4 36 rfl) (by decide) (gDec_at DL_law_4 37 rfl) (gDec_at DL_law_4 38 rfl) ?_
  refine l_arg hL 2 (by omega) (gDec_at DL_law_4 39 rfl) (gDec_at DL_law_4 40 rfl) (gDec_at DL_law_4 41 rfl) (by decide) (gDec_at DL_law_4 42 rfl) (gDec_at DL_law_4 43 rfl) ?_
  refine l_bool hL (gDec_at DL_law_4 44 rfl) (gDec_at DL_law_4 45 rfl) (gDec_at DL_law_4 46 rfl) (gDec_at DL_law_4 47 rfl) ?_
  refine l_callM hL (v := .long u) h2 vf_X7_weight ml_L_69 e2 rfl rfl rfl (Nat.le_of_ble_eq_true rfl) (gDec_at DL_law_4 48 rfl) (fun MM' p2 => ?_)
  exact k_lc_eq hL.1 (gDec_at DL_law_4 49 rfl) (gDec_at DL_law_4 50 rfl) 1489 (by decide) (fun _ => K _ _ (h3 _ _ p1 p2)) (fun h => absurd rfl h)
set_option maxRecDepth 100000 in
set_option maxHeartbeats 4000000 in
theorem law_12 {X : gX} {D : va_G} {cy : Nat → ClassId} {base b L i : Nat} {xs : Nat → Int32} {Q : State → Prop} {MC MM : gM} (hL : lC X D cy base b L xs) (hi : i + 7 ≤ L) (hS : gSt MC MM) (K : ∀ MC' MM' : gM, gSt MC' MM' → lG X D cy base Q MC' MM' 1489 (lL base b i) []) : lG X D cy base Q MC MM 573 (lL base b i) [] := by
  obtain ⟨v, u, dC, dM, PC, PM, e1, e2, h1, h2, h3⟩ := pr_strain (qC0 D cy base) (qM0 D cy base) hS (xs (i + 1)) (xs (i + 2))
  refine k_aload_n hL.1 (gDec_at DL_law_4 53 rfl) rfl ?_
  refine l_arg hL 1 (by omega) (gDec_at DL_law_4 54 rfl) (gDec_at DL_law_4 55 rfl) (gDec_at DL_law_4 56 rfl) (by decide) (gDec_at DL_law_4 57 rfl) (gDec_at DL_law_4 58 rfl) ?_
  refine l_arg hL 2 (by omega) (gDec_at DL_law_4 59 rfl) (gDec_at DL_law_4 60 rfl) (gDec_at DL_law_4 61 rfl) (by decide) (gDec_at DL_law_4 62 rfl) (gDec_at DL_law_4 63 rfl) ?_
  refine l_callC hL (v := .long u) h1 vf_X6_strain ml_L_70 e1 rfl rfl rfl (Nat.le_of_ble_eq_true rfl) (gDec_at DL_law_5 0 rfl) (fun MC' p1 => ?_)
  refine k_aload_n hL.1 (gDec_at DL_law_5 1 rfl) rfl ?_
  refine l_arg hL 1 (by omega) (gDec_at DL_law_5 2 rfl) (gDec_at DL_law_5 3 rfl) (gDec_at DL_law_5 4 rfl) (by decide) (gDec_at DL_law_5 5 rfl) (gDec_at DL_law_5 6 rfl) ?_
  refine l_arg hL 2 (by omega) (gDec_at DL_law_5 7 rfl) (gDec_at DL_law_5 8 rfl) (gDec_at DL_law_5 9 rfl) (by decide) (gDec_at DL_law_5 10 rfl) (gDec_at DL_law_5 11 rfl) ?_
  refine l_callM hL (v := .long u) h2 vf_X7_strain ml_L_74 e2 rfl rfl rfl (Nat.le_of_ble_eq_true rfl) (gDec_at DL_law_5 12 rfl) (fun MM' p2 => ?_)
  exact k_lc_eq hL.1 (gDec_at DL_law_5 13 rfl) (gDec_at DL_law_5 14 rfl) 1489 (by decide) (fun _ => K _ _ (h3 _ _ p1 p2)) (fun h => absurd rfl h)
set_option maxRecDepth 100000 in
set_option maxHeartbeats 4000000 in
theorem law_13 {X : gX} {D : va_G} {cy : Nat → ClassId} {base b L i : Nat} {xs : Nat → Int32} {Q : State → Prop} {MC MM : gM} (hL : lC X D cy base b L xs) (hi : i + 7 ≤ L) (hS : gSt MC MM) (K : ∀ MC' MM' : gM, gSt MC' MM' → lG X D cy base Q MC' MM' 1489 (lL base b i) []) : lG X D cy base Q MC MM 607 (lL base b i) [] := by
  obtain ⟨v, u, dC, dM, PC, PM, e1, e2, h1, h2, h3⟩ := pr_draw (qC0 D cy base) (qM0 D cy base) hS (xs (i + 1))
  refine k_aload_n hL.1 (gDec_at DL_law_5 17 rfl) rfl ?_
  refine l_arg hL 1 (by omega) (gDec_at DL_law_5 18 rfl) (gDec_at DL_law_5 19 rfl) (gDec_at DL_law_5 20 rfl) (by decide) (gDec_at DL_law_5 21 rfl) (gDec_at DL_law_5 22 rfl) ?_
  refine l_callC hL (v := .int v) h1 vf_X6_draw ml_L_75 e1 rfl rfl rfl (Nat.le_of_ble_eq_true rfl) (gDec_at DL_law_5 23 rfl) (fun MC' p1 => ?_)
  refine k_aload_n hL.1 (gDec_at DL_law_5 24 rfl) rfl ?_
  refine l_arg hL 1 (by omega) (gDec_at DL_law_5 25 rfl) (gDec_at DL_law_5 26 rfl) (gDec_at DL_law_5 27 rfl) (by decide) (gDec_at DL_law_5 28 rfl) (gDec_at DL_law_5 29 rfl) ?_
  refine l_callM hL (v := .int v) h2 vf_X7_draw ml_L_79 e2 rfl rfl rfl (Nat.le_of_ble_eq_true rfl) (gDec_at DL_law_5 30 rfl) (fun MM' p2 => ?_)
  exact k_icmp_eq hL.1 (gDec_at DL_law_5 31 rfl) 1489 (by decide) (fun _ => K _ _ (h3 _ _ p1 p2)) (fun h => absurd rfl h)
set_option maxRecDepth 100000 in
set_option maxHeartbeats 4000000 in
theorem law_14 {X : gX} {D : va_G} {cy : Nat → ClassId} {base b L i : Nat} {xs : Nat → Int32} {Q : State → Prop} {MC MM : gM} (hL : lC X D cy base b L xs) (hi : i + 7 ≤ L) (hS : gSt MC MM) (K : ∀ MC' MM' : gM, gSt MC' MM' → lG X D cy base Q MC' MM' 1489 (lL base b i) []) : lG X D cy base Q MC MM 630 (lL base b i) [] := by
  obtain ⟨v, u, dC, dM, PC, PM, e1, e2, h1, h2, h3⟩ := pr_broken (qC0 D cy base) (qM0 D cy base) hS 
  refine k_aload_n hL.1 (gDec_at DL_law_5 34 rfl) rfl ?_
  refine l_callC hL (v := .int v) h1 vf_X6_broken ml_L_80 e1 rfl rfl rfl (Nat.le_of_ble_eq_true rfl) (gDec_at DL_law_5 35 rfl) (fun MC' p1 => ?_)
  refine k_aload_n hL.1 (gDec_at DL_law_5 36 rfl) rfl ?_
  refine l_callM hL (v := .int v) h2 vf_X7_broken ml_L_83 e2 rfl rfl rfl (Nat.le_of_ble_eq_true rfl) (gDec_at DL_law_5 37 rfl) (fun MM' p2 => ?_)
  exact k_icmp_eq hL.1 (gDec_at DL_law_5 38 rfl) 1489 (by decide) (fun _ => K _ _ (h3 _ _ p1 p2)) (fun h => absurd rfl h)
set_option maxRecDepth 100000 in
set_option maxHeartbeats 4000000 in
theorem law_15 {X : gX} {D : va_G} {cy : Nat → ClassId} {base b L i : Nat} {xs : Nat → Int32} {Q : State → Prop} {MC MM : gM} (hL : lC X D cy base b L xs) (hi : i + 7 ≤ L) (hS : gSt MC MM) (K : ∀ MC' MM' : gM, gSt MC' MM' → lG X D cy base Q MC' MM' 1489 (lL base b i) []) : lG X D cy base Q MC MM 643 (lL base b i) [] := by
  obtain ⟨v, u, dC, dM, PC, PM, e1, e2, h1, h2, h3⟩ := pr_scrape (qC0 D cy base) (qM0 D cy base) hS (xs (i + 1)) (xs (i + 2))
  refine k_aload_n hL.1 (gDec_at DL_law_5 41 rfl) rfl ?_
  refine l_arg hL 1 (by omega) (gDec_at DL_law_5 42 rfl) (gDec_at DL_law_5 43 rfl) (gDec_at DL_law_5 44 rfl) (by decide) (gDec_at DL_law_5 45 rfl) (gDec_at DL_law_5 46 rfl) ?_
  refine l_arg hL 2 (by omega) (gDec_at DL_law_5 47 rfl) (gDec_at DL_law_5 48 rfl) (gDec_at DL_law_5 49 rfl) (by decide) (gDec_at DL_law_5 50 rfl) (gDec_at DL_law_5 51 rfl) ?_
  refine l_callC hL (v := .int v) h1 vf_X6_scrape ml_L_84 e1 rfl rfl rfl (Nat.le_of_ble_eq_true rfl) (gDec_at DL_law_5 52 rfl) (fun MC' p1 => ?_)
  refine k_aload_n hL.1 (gDec_at DL_law_5 53 rfl) rfl ?_
  refine l_arg hL 1 (by omega) (gDec_at DL_law_5 54 rfl) (gDec_at DL_law_5 55 rfl) (gDec_at DL_law_5 56 rfl) (by decide) (gDec_at DL_law_5 57 rfl) (gDec_at DL_law_5 58 rfl) ?_
  refine l_arg hL 2 (by omega) (gDec_at DL_law_5 59 rfl) (gDec_at DL_law_5 60 rfl) (gDec_at DL_law_5 61 rfl) (by decide) (gDec_at DL_law_5 62 rfl) (gDec_at DL_law_5 63 rfl) ?_
  refine l_callM hL (v := .int v) h2 vf_X7_scrape ml_L_87 e2 rfl rfl rfl (Nat.le_of_ble_eq_true rfl) (gDec_at DL_law_6 0 rfl) (fun MM' p2 => ?_)
  exact k_icmp_eq hL.1 (gDec_at DL_law_6 1 rfl) 1489 (by decide) (fun _ => K _ _ (h3 _ _ p1 p2)) (fun h => absurd rfl h)
set_option maxRecDepth 100000 in
set_option maxHeartbeats 4000000 in
theorem law_16 {X : gX} {D : va_G} {cy : Nat → ClassId} {base b L i : Nat} {xs : Nat → Int32} {Q : State → Prop} {MC MM : gM} (hL : lC X D cy base b L xs) (hi : i + 7 ≤ L) (hS : gSt MC MM) (K : ∀ MC' MM' : gM, gSt MC' MM' → lG X D cy base Q MC' MM' 1489 (lL base b i) []) : lG X D cy base Q MC MM 676 (lL base b i) [] := by
  obtain ⟨v, u, dC, dM, PC, PM, e1, e2, h1, h2, h3⟩ := pr_steam (qC0 D cy base) (qM0 D cy base) hS (xs (i + 1))
  refine k_aload_n hL.1 (gDec_at DL_law_6 4 rfl) rfl ?_
  refine l_arg hL 1 (by omega) (gDec_at DL_law_6 5 rfl) (gDec_at DL_law_6 6 rfl) (gDec_at DL_law_6 7 rfl) (by decide) (gDec_at DL_law_6 8 rfl) (gDec_at DL_law_6 9 rfl) ?_
  refine l_callC hL (v := .int v) h1 vf_X6_steam ml_L_88 e1 rfl rfl rfl (Nat.le_of_ble_eq_true rfl) (gDec_at DL_law_6 10 rfl) (fun MC' p1 => ?_)
  refine k_aload_n hL.1 (gDec_at DL_law_6 11 rfl) rfl ?_
  refine l_arg hL 1 (by omega) (gDec_at DL_law_6 12 rfl) (gDec_at DL_law_6 13 rfl) (gDec_at DL_law_6 14 rfl) (by decide) (gDec_at DL_law_6 15 rfl) (gDec_at DL_law_6 16 rfl) ?_
  refine l_callM hL (v := .int v) h2 vf_X7_steam ml_L_91 e2 rfl rfl rfl (Nat.le_of_ble_eq_true rfl) (gDec_at DL_law_6 17 rfl) (fun MM' p2 => ?_)
  exact k_icmp_eq hL.1 (gDec_at DL_law_6 18 rfl) 1489 (by decide) (fun _ => K _ _ (h3 _ _ p1 p2)) (fun h => absurd rfl h)
set_option maxRecDepth 100000 in
set_option maxHeartbeats 4000000 in
theorem law_17 {X : gX} {D : va_G} {cy : Nat → ClassId} {base b L i : Nat} {xs : Nat → Int32} {Q : State → Prop} {MC MM : gM} (hL : lC X D cy base b L xs) (hi : i + 7 ≤ L) (hS : gSt MC MM) (K : ∀ MC' MM' : gM, gSt MC' MM' → lG X D cy base Q MC' MM' 1489 (lL base b i) []) : lG X D cy base Q MC MM 699 (lL base b i) [] := by
  obtain ⟨v, u, dC, dM, PC, PM, e1, e2, h1, h2, h3⟩ := pr_hinge (qC0 D cy base) (qM0 D cy base) hS (xs (i + 1))
  refine k_aload_n hL.1 (gDec_at DL_law_6 21 rfl) rfl ?_
  refine l_arg hL 1 (by omega) (gDec_at DL_law_6 22 rfl) (gDec_at DL_law_6 23 rfl) (gDec_at DL_law_6 24 rfl) (by decide) (gDec_at DL_law_6 25 rfl) (gDec_at DL_law_6 26 rfl) ?_
  refine l_callC hL (v := .int v) h1 vf_X6_hinge ml_L_92 e1 rfl rfl rfl (Nat.le_of_ble_eq_true rfl) (gDec_at DL_law_6 27 rfl) (fun MC' p1 => ?_)
  refine k_aload_n hL.1 (gDec_at DL_law_6 28 rfl) rfl ?_
  refine l_arg hL 1 (by omega) (gDec_at DL_law_6 29 rfl) (gDec_at DL_law_6 30 rfl) (gDec_at DL_law_6 31 rfl) (by decide) (gDec_at DL_law_6 32 rfl) (gDec_at DL_law_6 33 rfl) ?_
  refine l_callM hL (v := .int v) h2 vf_X7_hinge ml_L_95 e2 rfl rfl rfl (Nat.le_of_ble_eq_true rfl) (gDec_at DL_law_6 34 rfl) (fun MM' p2 => ?_)
  exact k_icmp_eq hL.1 (gDec_at DL_law_6 35 rfl) 1489 (by decide) (fun _ => K _ _ (h3 _ _ p1 p2)) (fun h => absurd rfl h)