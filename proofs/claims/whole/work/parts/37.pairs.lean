/-! PAIRS: a method of the class and the same of the reference answer alike, and the states stay alike -/
/-- the class's method and the reference's, at the same arguments, from related states: one answer, related states -/
def gPr (F : Int32 → Int64 → Value) (ret : Option FieldType) (qC qM : gQ3) (yC : MethodName) (bC' : ByteArray) (nC : Nat) (yM : MethodName) (bM : ByteArray) (nM : Nat) (As : List Value) (MC MM : gM) : Prop :=
  ∃ (v : Int32) (u : Int64) (dC dM : Nat) (PC PM : gM → Prop), dC ≤ 10 ∧ dM ≤ 10 ∧ gCt (wC qC) yC bC' nC ret dC (.ref (qC.2.2 0) :: As) MC (fun r M' => r = some (F v u) ∧ PC M') ∧ gCt (wM qM) yM bM nM ret dM (.ref (qM.2.2 0) :: As) MM (fun r M' => r = some (F v u) ∧ PM M') ∧ ∀ MC' MM', PC MC' → PM MM' → gSt MC' MM'
abbrev FI : Int32 → Int64 → Value := fun v _ => .int v
abbrev FJ : Int32 → Int64 → Value := fun _ u => .long u
section Pairs
variable {qC qM : gQ3} {yC yM : MethodName} {bC' bM : ByteArray} {nC nM dC dM : Nat} {As : List Value} {MC MM M1 M2 : gM} {v : Int32} {u : Int64} {PC PM : gM → Prop}
theorem prI (h1 : gCt (wC qC) yC bC' nC (some .int) dC (.ref (qC.2.2 0) :: As) MC (gR (some (.int v)) M1)) (h2 : gCt (wM qM) yM bM nM (some .int) dM (.ref (qM.2.2 0) :: As) MM (gR (some (.int v)) M2)) (hS : gSt M1 M2) (e1 : dC ≤ 10 := by decide) (e2 : dM ≤ 10 := by decide) : gPr FI (some .int) qC qM yC bC' nC yM bM nM As MC MM :=
  ⟨v, 0, dC, dM, (fun M' => M' = M1), (fun M' => M' = M2), e1, e2, h1, h2, fun _ _ a b => by rw [a, b]; exact hS⟩
theorem prJ (h1 : gCt (wC qC) yC bC' nC (some .long) dC (.ref (qC.2.2 0) :: As) MC (gR (some (.long u)) M1)) (h2 : gCt (wM qM) yM bM nM (some .long) dM (.ref (qM.2.2 0) :: As) MM (gR (some (.long u)) M2)) (hS : gSt M1 M2) (e1 : dC ≤ 10 := by decide) (e2 : dM ≤ 10 := by decide) : gPr FJ (some .long) qC qM yC bC' nC yM bM nM As MC MM :=
  ⟨0, u, dC, dM, (fun M' => M' = M1), (fun M' => M' = M2), e1, e2, h1, h2, fun _ _ a b => by rw [a, b]; exact hS⟩
theorem prP (h1 : gCt (wC qC) yC bC' nC (some .int) dC (.ref (qC.2.2 0) :: As) MC (fun r M' => r = some (.int v) ∧ PC M')) (h2 : gCt (wM qM) yM bM nM (some .int) dM (.ref (qM.2.2 0) :: As) MM (fun r M' => r = some (.int v) ∧ PM M')) (hS : ∀ MC' MM', PC MC' → PM MM' → gSt MC' MM') (e1 : dC ≤ 10 := by decide) (e2 : dM ≤ 10 := by decide) : gPr FI (some .int) qC qM yC bC' nC yM bM nM As MC MM :=
  ⟨v, 0, dC, dM, PC, PM, e1, e2, h1, h2, hS⟩
end Pairs
set_option maxHeartbeats 4000000 in
theorem pr_give (qC qM : gQ3) {MC MM : gM} (hS : gSt MC MM) (x : Int32) : gPr FJ (some .long) qC qM yX6_give cX6_give 3 yX7_give cX7_give 2 [.int x] MC MM := by
  obtain ⟨B, tl, tb, hI, hT, hI2, hT2, hs⟩ := id hS
  by_cases hn : isPl B x
  · obtain ⟨j, hj, ht, rfl⟩ := hn
    exact prJ (c_X6_give_ok qC hI (by omega) (by omega)) (c_X7_give_ok qM hI2 (by omega) (by omega)) hS
  · skip
    exact prJ (c_X6_give_out qC hI hn) (c_X7_give_out qM hI2 hn) hS
set_option maxHeartbeats 4000000 in
theorem pr_limb (qC qM : gQ3) {MC MM : gM} (hS : gSt MC MM) (x : Int32) : gPr FJ (some .long) qC qM yX6_limb cX6_limb 2 yX7_limb cX7_limb 2 [.int x] MC MM := by
  obtain ⟨B, tl, tb, hI, hT, hI2, hT2, hs⟩ := id hS
  by_cases hn : gin x 0 1
  · obtain ⟨xn, xa, xb, rfl⟩ := gin_ex hn
    exact prJ (c_X6_limb_ok qC hI (by omega)) (c_X7_limb_ok qM hI2 (by omega)) hS
  · skip
    exact prJ (c_X6_limb_out qC hI hn) (c_X7_limb_out qM hI2 hn) hS
set_option maxHeartbeats 4000000 in
theorem pr_follow (qC qM : gQ3) {MC MM : gM} (hS : gSt MC MM)  : gPr FI (some .int) qC qM yX6_follow cX6_follow 1 yX7_follow cX7_follow 1 [] MC MM := by
  obtain ⟨B, tl, tb, hI, hT, hI2, hT2, hs⟩ := id hS
  exact prI (c_X6_follow_ok qC hI) (c_X7_follow_ok qM hI2) hS
set_option maxHeartbeats 4000000 in
theorem pr_weight (qC qM : gQ3) {MC MM : gM} (hS : gSt MC MM) (x : Int32) {u : Nat} (hu : u ≤ 1) : gPr FJ (some .long) qC qM yX6_weight cX6_weight 3 yX7_weight cX7_weight 3 [.int x, .int (nI u)] MC MM := by
  obtain ⟨B, tl, tb, hI, hT, hI2, hT2, hs⟩ := id hS
  by_cases hn : gin x 0 40
  · obtain ⟨xn, xa, xb, rfl⟩ := gin_ex hn
    exact prJ (c_X6_weight_ok qC hI (by omega) (by omega)) (c_X7_weight_ok qM hI2 (by omega) (by omega)) hS
  · skip
    exact prJ (c_X6_weight_out qC hI hn (by omega)) (c_X7_weight_out qM hI2 hn (by omega)) hS
set_option maxHeartbeats 4000000 in
theorem pr_strain (qC qM : gQ3) {MC MM : gM} (hS : gSt MC MM) (p x : Int32) : gPr FJ (some .long) qC qM yX6_strain cX6_strain 4 yX7_strain cX7_strain 3 [.int p, .int x] MC MM := by
  obtain ⟨B, tl, tb, hI, hT, hI2, hT2, hs⟩ := id hS
  by_cases hn : isPl B p
  · obtain ⟨j, hj, ht, rfl⟩ := hn
    by_cases hn : gin x 0 40
    · obtain ⟨xn, xa, xb, rfl⟩ := gin_ex hn
      exact prJ (c_X6_strain_ok qC hI (by omega) (by omega) (by omega)) (c_X7_strain_ok qM hI2 (by omega) (by omega) (by omega)) hS
    · skip
      exact prJ (c_X6_strain_bad qC hI (by omega) (by omega) hn) (c_X7_strain_bad qM hI2 (by omega) (by omega) hn) hS
  · skip
    exact prJ (c_X6_strain_out qC hI hn) (c_X7_strain_out qM hI2 hn) hS
set_option maxHeartbeats 4000000 in
theorem pr_hinge (qC qM : gQ3) {MC MM : gM} (hS : gSt MC MM) (x : Int32) : gPr FI (some .int) qC qM yX6_hinge cX6_hinge 2 yX7_hinge cX7_hinge 2 [.int x] MC MM := by
  obtain ⟨B, tl, tb, hI, hT, hI2, hT2, hs⟩ := id hS
  by_cases hn : gin x 0 40
  · obtain ⟨xn, xa, xb, rfl⟩ := gin_ex hn
    exact prI (c_X6_hinge_ok qC hI (by omega)) (c_X7_hinge_ok qM hI2 (by omega)) hS
  · skip
    exact prI (c_X6_hinge_out qC hI hn) (c_X7_hinge_out qM hI2 hn) hS
set_option maxHeartbeats 4000000 in
theorem pr_stiff (qC qM : gQ3) {MC MM : gM} (hS : gSt MC MM) (x : Int32) : gPr FI (some .int) qC qM yX6_stiff cX6_stiff 2 yX7_stiff cX7_stiff 2 [.int x] MC MM := by
  obtain ⟨B, tl, tb, hI, hT, hI2, hT2, hs⟩ := id hS
  by_cases hn : gin x 0 40
  · obtain ⟨xn, xa, xb, rfl⟩ := gin_ex hn
    exact prI (c_X6_stiff_ok qC hI (by omega)) (c_X7_stiff_ok qM hI2 (by omega)) hS
  · skip
    exact prI (c_X6_stiff_out qC hI hn) (c_X7_stiff_out qM hI2 hn) hS
set_option maxHeartbeats 4000000 in
theorem pr_even (qC qM : gQ3) {MC MM : gM} (hS : gSt MC MM) (x : Int32) : gPr FI (some .int) qC qM yX6_even cX6_even 2 yX7_even cX7_even 2 [.int x] MC MM := by
  obtain ⟨B, tl, tb, hI, hT, hI2, hT2, hs⟩ := id hS
  by_cases hn : gin x 0 40
  · obtain ⟨xn, xa, xb, rfl⟩ := gin_ex hn
    exact prI (c_X6_even_ok qC hI (by omega)) (c_X7_even_ok qM hI2 (by omega)) hS
  · skip
    exact prI (c_X6_even_out qC hI hn) (c_X7_even_out qM hI2 hn) hS
set_option maxHeartbeats 4000000 in
theorem pr_form (qC qM : gQ3) {MC MM : gM} (hS : gSt MC MM) (p f s : Int32) : gPr FI (some .int) qC qM yX6_form cX6_form 5 yX7_form cX7_form 4 [.int p, .int f, .int s] MC MM := by
  obtain ⟨B, tl, tb, hI, hT, hI2, hT2, hs⟩ := id hS
  by_cases hn : isPl B p
  · obtain ⟨j, hj, ht, rfl⟩ := hn
    by_cases hn : gin f 1 999
    · obtain ⟨fn, fa, fb, rfl⟩ := gin_ex hn
      by_cases hn : gin s 1 99
      · obtain ⟨sn, sa, sb, rfl⟩ := gin_ex hn
        exact prI (c_X6_form_ok qC hI (by omega) (by omega) (by omega) (by omega) (by omega) (by omega)) (c_X7_form_ok qM hI2 (by omega) (by omega) (by omega) (by omega) (by omega) (by omega)) hS
      · skip
        exact prI (c_X6_form_bads qC hI (by omega) (by omega) (by omega) (by omega) hn) (c_X7_form_bads qM hI2 (by omega) (by omega) (by omega) (by omega) hn) hS
    · skip
      exact prI (c_X6_form_badf qC hI (by omega) (by omega) hn) (c_X7_form_badf qM hI2 (by omega) (by omega) hn) hS
  · skip
    exact prI (c_X6_form_out qC hI hn) (c_X7_form_out qM hI2 hn) hS
set_option maxHeartbeats 4000000 in
theorem pr_pace (qC qM : gQ3) {MC MM : gM} (hS : gSt MC MM) (m x : Int32) {u : Nat} (hu : u ≤ 1) : gPr FJ (some .long) qC qM yX6_pace cX6_pace 4 yX7_pace cX7_pace 6 [.int m, .int x, .int (nI u)] MC MM := by
  obtain ⟨B, tl, tb, hI, hT, hI2, hT2, hs⟩ := id hS
  by_cases hn : gin m 1 99
  · obtain ⟨mn, ma, mb, rfl⟩ := gin_ex hn
    by_cases hn : gin x 0 40
    · obtain ⟨xn, xa, xb, rfl⟩ := gin_ex hn
      exact prJ (c_X6_pace_ok qC hI (by omega) (by omega) (by omega) (by omega)) (c_X7_pace_ok qM hI2 (by omega) (by omega) (by omega) (by omega)) hS
    · skip
      exact prJ (c_X6_pace_badx qC hI (by omega) (by omega) hn (by omega)) (c_X7_pace_badx qM hI2 (by omega) (by omega) hn (by omega)) hS
  · skip
    exact prJ (c_X6_pace_badm qC hI hn (by omega)) (c_X7_pace_badm qM hI2 hn (by omega)) hS
set_option maxHeartbeats 4000000 in
theorem pr_wet (qC qM : gQ3) {MC MM : gM} (hS : gSt MC MM) (m x : Int32) {u : Nat} (hu : u ≤ 1) : gPr FJ (some .long) qC qM yX6_wet cX6_wet 4 yX7_wet cX7_wet 4 [.int m, .int x, .int (nI u)] MC MM := by
  obtain ⟨B, tl, tb, hI, hT, hI2, hT2, hs⟩ := id hS
  by_cases hn : gin m 0 50
  · obtain ⟨mn, ma, mb, rfl⟩ := gin_ex hn
    by_cases hn : gin x 0 40
    · obtain ⟨xn, xa, xb, rfl⟩ := gin_ex hn
      exact prJ (c_X6_wet_ok qC hI (by omega) (by omega) (by omega) (by omega)) (c_X7_wet_ok qM hI2 (by omega) (by omega) (by omega) (by omega)) hS
    · skip
      exact prJ (c_X6_wet_badx qC hI (by omega) (by omega) hn (by omega)) (c_X7_wet_badx qM hI2 (by omega) (by omega) hn (by omega)) hS
  · skip
    exact prJ (c_X6_wet_badm qC hI hn (by omega)) (c_X7_wet_badm qM hI2 hn (by omega)) hS
set_option maxHeartbeats 4000000 in
theorem pr_lost (qC qM : gQ3) {MC MM : gM} (hS : gSt MC MM) (p a b x : Int32) {mo : Nat} (hmo : mo ≤ 1) {u : Nat} (hu : u ≤ 1) : gPr FJ (some .long) qC qM yX6_lost cX6_lost 8 yX7_lost cX7_lost 11 [.int p, .int a, .int b, .int x, .int (nI mo), .int (nI u)] MC MM := by
  obtain ⟨B, tl, tb, hI, hT, hI2, hT2, hs⟩ := id hS
  by_cases hn : isPl B p
  · obtain ⟨j, hj, ht, rfl⟩ := hn
    by_cases hn : gin a 4 40
    · obtain ⟨an, aa, ab, rfl⟩ := gin_ex hn
      by_cases hn : gin b an 40
      · obtain ⟨bn, ba, bb, rfl⟩ := gin_ex hn
        by_cases hn : gin x 0 40
        · obtain ⟨xn, xa, xb, rfl⟩ := gin_ex hn
          rcases (show mo = 0 ∨ mo = 1 by omega) with rfl | rfl
          · skip
            exact prJ (c_X6_lost_ok qC hI (by omega) (by omega) (by omega) (by omega) (by omega) (by omega) (by omega) (by omega) (by omega)) (c_X7_lost_ok0 qM hI2 (by omega) (by omega) (by omega) (by omega) (by omega) (by omega) (by omega) (by omega)) hS
          · skip
            exact prJ (c_X6_lost_ok qC hI (by omega) (by omega) (by omega) (by omega) (by omega) (by omega) (by omega) (by omega) (by omega)) (c_X7_lost_ok1 qM hI2 (by omega) (by omega) (by omega) (by omega) (by omega) (by omega) (by omega) (by omega)) hS
        · skip
          exact prJ (c_X6_lost_badx qC hI (by omega) (by omega) (by omega) (by omega) (by omega) (by omega) hn (by omega) (by omega)) (c_X7_lost_badx qM hI2 (by omega) (by omega) (by omega) (by omega) (by omega) (by omega) hn (by omega) (by omega)) hS
      · skip
        exact prJ (c_X6_lost_badb qC hI (by omega) (by omega) (by omega) (by omega) hn (by omega) (by omega)) (c_X7_lost_badb qM hI2 (by omega) (by omega) (by omega) (by omega) hn (by omega) (by omega)) hS
    · skip
      exact prJ (c_X6_lost_bada qC hI (by omega) (by omega) hn (by omega) (by omega)) (c_X7_lost_bada qM hI2 (by omega) (by omega) hn (by omega) (by omega)) hS
  · skip
    exact prJ (c_X6_lost_out qC hI hn (by omega) (by omega)) (c_X7_lost_out qM hI2 hn (by omega) (by omega)) hS
set_option maxHeartbeats 4000000 in
theorem pr_off (qC qM : gQ3) {MC MM : gM} (hS : gSt MC MM) (p : Int32) : gPr FI (some .int) qC qM yX6_off cX6_off 4 yX7_off cX7_off 2 [.int p] MC MM := by
  obtain ⟨B, tl, tb, hI, hT, hI2, hT2, hs⟩ := id hS
  by_cases hn : isPl B p
  · obtain ⟨j, hj, ht, rfl⟩ := hn
    rcases (show sSeen B = 0 ∨ 0 < sSeen B by omega) with hz | hz
    · skip
      exact prI (c_X6_off_no qC hI (by omega) (by omega) (by omega)) (c_X7_off_no qM hI2 (by omega) (by omega) (by omega)) hS
    · skip
      exact prI (c_X6_off_ok qC hI (by omega) (by omega) (by omega)) (c_X7_off_ok qM hI2 (by omega) (by omega) (by omega)) hS
  · skip
    exact prI (c_X6_off_out qC hI hn) (c_X7_off_out qM hI2 hn) hS
set_option maxHeartbeats 4000000 in
theorem pr_tooStiff (qC qM : gQ3) {MC MM : gM} (hS : gSt MC MM)  : gPr FI (some .int) qC qM yX6_tooStiff cX6_tooStiff 1 yX7_tooStiff cX7_tooStiff 3 [] MC MM := by
  obtain ⟨B, tl, tb, hI, hT, hI2, hT2, hs⟩ := id hS
  rcases (show sSeen B = 0 ∨ 0 < sSeen B by omega) with hz | hz
  · skip
    exact prI (c_X6_tooStiff_no qC hI (by omega)) (c_X7_tooStiff_no qM hI2 (by omega)) hS
  · skip
    exact prI (c_X6_tooStiff_ok qC hI (by omega)) (c_X7_tooStiff_ok qM hI2 (by omega)) hS
set_option maxHeartbeats 4000000 in
theorem pr_grown (qC qM : gQ3) {MC MM : gM} (hS : gSt MC MM) (x y : Int32) : gPr FI (some .int) qC qM yX6_grown cX6_grown 4 yX7_grown cX7_grown 3 [.int x, .int y] MC MM := by
  obtain ⟨B, tl, tb, hI, hT, hI2, hT2, hs⟩ := id hS
  by_cases hn : gin x 0 2
  · obtain ⟨xn, xa, xb, rfl⟩ := gin_ex hn
    by_cases hn : gin y 0 2
    · obtain ⟨yn, ya, yb, rfl⟩ := gin_ex hn
      rcases (show yn = 0 ∨ yn = 1 ∨ yn = 2 by omega) with rfl | rfl | rfl
      · skip
        exact prI (c_X6_grown_0 qC hI (by omega)) (c_X7_grown_0 qM hI2 (by omega)) hS
      · skip
        exact prI (c_X6_grown_1 qC hI (by omega)) (c_X7_grown_1 qM hI2 (by omega)) hS
      · skip
        exact prI (c_X6_grown_2 qC hI (by omega)) (c_X7_grown_2 qM hI2 (by omega)) hS
    · skip
      exact prI (c_X6_grown_bad qC hI (by omega) hn) (c_X7_grown_bad qM hI2 (by omega) hn) hS
  · skip
    exact prI (c_X6_grown_out qC hI hn) (c_X7_grown_out qM hI2 hn) hS
set_option maxHeartbeats 4000000 in
theorem pr_about (qC qM : gQ3) {MC MM : gM} (hS : gSt MC MM) (p y : Int32) : gPr FI (some .int) qC qM yX6_about cX6_about 4 yX7_about cX7_about 4 [.int p, .int y] MC MM := by
  obtain ⟨B, tl, tb, hI, hT, hI2, hT2, hs⟩ := id hS
  by_cases hn : isPl B p
  · obtain ⟨j, hj, ht, rfl⟩ := hn
    by_cases hn : gin y 0 5
    · obtain ⟨yn, ya, yb, rfl⟩ := gin_ex hn
      rcases (show yn = 0 ∨ yn = 1 ∨ yn = 2 ∨ yn = 3 ∨ yn = 4 ∨ yn = 5 by omega) with rfl | rfl | rfl | rfl | rfl | rfl
      · skip
        exact prI (c_X6_about_0 qC hI (by omega) (by omega)) (c_X7_about_0 qM hI2 (by omega) (by omega)) hS
      · skip
        exact prI (c_X6_about_1 qC hI (by omega) (by omega)) (c_X7_about_1 qM hI2 (by omega) (by omega)) hS
      · skip
        exact prI (c_X6_about_2 qC hI (by omega) (by omega)) (c_X7_about_2 qM hI2 (by omega) (by omega)) hS
      · skip
        exact prI (c_X6_about_3 qC hI (by omega) (by omega)) (c_X7_about_3 qM hI2 (by omega) (by omega)) hS
      · skip
        exact prI (c_X6_about_4 qC hI (by omega) (by omega)) (c_X7_about_4 qM hI2 (by omega) (by omega)) hS
      · skip
        exact prI (c_X6_about_5 qC hI (by omega) (by omega)) (c_X7_about_5 qM hI2 (by omega) (by omega)) hS
    · skip
      exact prI (c_X6_about_bad qC hI (by omega) (by omega) hn) (c_X7_about_bad qM hI2 (by omega) (by omega) hn) hS
  · skip
    exact prI (c_X6_about_out qC hI hn) (c_X7_about_out qM hI2 hn) hS
set_option maxHeartbeats 4000000 in
theorem pr_count (qC qM : gQ3) {MC MM : gM} (hS : gSt MC MM) (y : Int32) : gPr FI (some .int) qC qM yX6_count cX6_count 2 yX7_count cX7_count 4 [.int y] MC MM := by
  obtain ⟨B, tl, tb, hI, hT, hI2, hT2, hs⟩ := id hS
  by_cases hn : gin y 0 4
  · obtain ⟨yn, ya, yb, rfl⟩ := gin_ex hn
    rcases (show yn = 0 ∨ yn = 1 ∨ yn = 2 ∨ yn = 3 ∨ yn = 4 by omega) with rfl | rfl | rfl | rfl | rfl
    · skip
      exact prI (c_X6_count_0 qC hI hT) (c_X7_count_0 qM hI2 hT2) hS
    · skip
      exact prI (c_X6_count_1 qC hI hT) (c_X7_count_1 qM hI2 hT2) hS
    · skip
      exact prI (c_X6_count_2 qC hI hT) (c_X7_count_2 qM hI2 hT2) hS
    · skip
      exact prI (c_X6_count_3 qC hI hT) (c_X7_count_3 qM hI2 hT2) hS
    · skip
      exact prI (c_X6_count_4 qC hI hT) (c_X7_count_4 qM hI2 hT2) hS
  · skip
    exact prI (c_X6_count_bad qC hI hn) (c_X7_count_bad qM hI2 hn) hS
set_option maxHeartbeats 4000000 in
theorem pr_broken (qC qM : gQ3) {MC MM : gM} (hS : gSt MC MM)  : gPr FI (some .int) qC qM yX6_broken cX6_broken 1 yX7_broken cX7_broken 1 [] MC MM := by
  obtain ⟨B, tl, tb, hI, hT, hI2, hT2, hs⟩ := id hS
  exact prI (c_X6_broken_ok qC hI) (c_X7_broken_ok qM hI2) hS
set_option maxHeartbeats 4000000 in
theorem pr_slips (qC qM : gQ3) {MC MM : gM} (hS : gSt MC MM) (p n t y : Int32) {u : Nat} (hu : u ≤ 1) : gPr FJ (some .long) qC qM yX6_slips cX6_slips 7 yX7_slips cX7_slips 9 [.int p, .int n, .int t, .int y, .int (nI u)] MC MM := by
  obtain ⟨B, tl, tb, hI, hT, hI2, hT2, hs⟩ := id hS
  by_cases hn : isPl B p
  · obtain ⟨j, hj, ht, rfl⟩ := hn
    by_cases hn : gin n 1 12
    · obtain ⟨nn, na, nb, rfl⟩ := gin_ex hn
      by_cases hn : gin t 0 10
      · obtain ⟨tn, ta, tb, rfl⟩ := gin_ex hn
        by_cases hn : gin y 0 40
        · obtain ⟨yn, ya, yb, rfl⟩ := gin_ex hn
          exact prJ (c_X6_slips_ok qC hI (by omega) (by omega) (by omega) (by omega) (by omega) (by omega) (by omega) (by omega) (by omega)) (c_X7_slips_ok qM hI2 (by omega) (by omega) (by omega) (by omega) (by omega) (by omega) (by omega) (by omega) (by omega)) hS
        · skip
          exact prJ (c_X6_slips_bady qC hI (by omega) (by omega) (by omega) (by omega) (by omega) (by omega) hn (by omega)) (c_X7_slips_bady qM hI2 (by omega) (by omega) (by omega) (by omega) (by omega) (by omega) hn (by omega)) hS
      · skip
        exact prJ (c_X6_slips_badt qC hI (by omega) (by omega) (by omega) (by omega) hn (by omega)) (c_X7_slips_badt qM hI2 (by omega) (by omega) (by omega) (by omega) hn (by omega)) hS
    · skip
      exact prJ (c_X6_slips_badn qC hI (by omega) (by omega) hn (by omega)) (c_X7_slips_badn qM hI2 (by omega) (by omega) hn (by omega)) hS
  · skip
    exact prJ (c_X6_slips_out qC hI hn (by omega)) (c_X7_slips_out qM hI2 hn (by omega)) hS
set_option maxHeartbeats 4000000 in
theorem pr_good (qC qM : gQ3) {MC MM : gM} (hS : gSt MC MM) (m t k : Int32) {u : Nat} (hu : u ≤ 1) : gPr FJ (some .long) qC qM yX6_good cX6_good 5 yX7_good cX7_good 8 [.int m, .int t, .int k, .int (nI u)] MC MM := by
  obtain ⟨B, tl, tb, hI, hT, hI2, hT2, hs⟩ := id hS
  by_cases hn : gin m 1 12
  · obtain ⟨mn, ma, mb, rfl⟩ := gin_ex hn
    by_cases hn : gin t 0 10
    · obtain ⟨tn, ta, tb, rfl⟩ := gin_ex hn
      by_cases hn : gin k 0 mn
      · obtain ⟨kn, ka, kb, rfl⟩ := gin_ex hn
        exact prJ (c_X6_good_ok qC hI (by omega) (by omega) (by omega) (by omega) (by omega) (by omega)) (c_X7_good_ok qM hI2 (by omega) (by omega) (by omega) (by omega) (by omega) (by omega)) hS
      · skip
        exact prJ (c_X6_good_badk qC hI (by omega) (by omega) (by omega) (by omega) hn (by omega)) (c_X7_good_badk qM hI2 (by omega) (by omega) (by omega) (by omega) hn (by omega)) hS
    · skip
      exact prJ (c_X6_good_badt qC hI (by omega) (by omega) hn (by omega)) (c_X7_good_badt qM hI2 (by omega) (by omega) hn (by omega)) hS
  · skip
    exact prJ (c_X6_good_badm qC hI hn (by omega)) (c_X7_good_badm qM hI2 hn (by omega)) hS
set_option maxHeartbeats 4000000 in
theorem pr_next (qC qM : gQ3) {MC MM : gM} (hS : gSt MC MM) (x f : Int32) : gPr FI (some .int) qC qM yX6_next cX6_next 3 yX7_next cX7_next 7 [.int x, .int f] MC MM := by
  obtain ⟨B, tl, tb, hI, hT, hI2, hT2, hs⟩ := id hS
  by_cases hn : gin x 0 40
  · obtain ⟨xn, xa, xb, rfl⟩ := gin_ex hn
    by_cases hn : gin f 0 999
    · obtain ⟨fn, fa, fb, rfl⟩ := gin_ex hn
      exact prI (c_X6_next_ok qC hI (by omega) (by omega) (by omega)) (c_X7_next_ok qM hI2 (by omega) (by omega) (by omega)) hS
    · skip
      exact prI (c_X6_next_badf qC hI (by omega) hn) (c_X7_next_badf qM hI2 (by omega) hn) hS
  · skip
    exact prI (c_X6_next_badx qC hI hn) (c_X7_next_badx qM hI2 hn) hS
set_option maxHeartbeats 4000000 in
theorem pr_scrape (qC qM : gQ3) {MC MM : gM} (hS : gSt MC MM) (p s : Int32) : gPr FI (some .int) qC qM yX6_scrape cX6_scrape 4 yX7_scrape cX7_scrape 3 [.int p, .int s] MC MM := by
  obtain ⟨B, tl, tb, hI, hT, hI2, hT2, hs⟩ := id hS
  by_cases hn : isPl B p
  · obtain ⟨j, hj, ht, rfl⟩ := hn
    by_cases hn : gin s 1 9
    · obtain ⟨sn, sa, sb, rfl⟩ := gin_ex hn
      rcases (show 0 < B 9 1 ∨ B 9 1 = 0 by omega) with hz | hz
      · exact prI (c_X6_scrape_brk qC hI hj ht (by omega) (by omega) hz) (c_X7_scrape_brk qM hI2 hj ht (by omega) (by omega) hz) hS
      · rcases (show B 1 j < sn + 4 ∨ sn + 4 ≤ B 1 j by omega) with hy | hy
        · exact prI (c_X6_scrape_less qC hI hj ht (by omega) (by omega) hz hy) (c_X7_scrape_less qM hI2 hj ht (by omega) (by omega) hz hy) hS
        · have h40 := (bv_f1 hI.2.2 hj ht).2
          exact prI (c_X6_scrape_ok qC hI hj ht (by omega) (by omega) hz hy) (c_X7_scrape_ok qM hI2 hj ht (by omega) (by omega) hz hy) (gSt_set hI hT hI2 hT2 hs (f := 1) (k := 4) (Or.inr (Or.inl ⟨rfl, rfl⟩)) hj (bV_up hI.2.2 (by omega) (by omega) (by omega) (by omega) (by omega) (by omega) (by omega)) (by omega))
    · skip
      exact prI (c_X6_scrape_bads qC hI (by omega) (by omega) hn) (c_X7_scrape_bads qM hI2 (by omega) (by omega) hn) hS
  · skip
    exact prI (c_X6_scrape_out qC hI hn) (c_X7_scrape_out qM hI2 hn) hS
set_option maxHeartbeats 4000000 in
theorem pr_steam (qC qM : gQ3) {MC MM : gM} (hS : gSt MC MM) (p : Int32) : gPr FI (some .int) qC qM yX6_steam cX6_steam 3 yX7_steam cX7_steam 2 [.int p] MC MM := by
  obtain ⟨B, tl, tb, hI, hT, hI2, hT2, hs⟩ := id hS
  by_cases hn : isPl B p
  · obtain ⟨j, hj, ht, rfl⟩ := hn
    rcases (show 0 < B 9 1 ∨ B 9 1 = 0 by omega) with hz | hz
    · exact prI (c_X6_steam_brk qC hI hj ht hz) (c_X7_steam_brk qM hI2 hj ht hz) hS
    · have h99 := bv_f3 hI.2.2 hj ht
      exact prI (c_X6_steam_ok qC hI hj ht hz) (c_X7_steam_ok qM hI2 hj ht hz) (gSt_set hI hT hI2 hT2 hs (f := 3) (k := 6) (Or.inr (Or.inr (Or.inr (Or.inl ⟨rfl, rfl⟩)))) hj (bV_up hI.2.2 (by omega) (by omega) (by omega) (by omega) (by omega) (by omega) (by omega)) (by omega))
  · skip
    exact prI (c_X6_steam_out qC hI hn) (c_X7_steam_out qM hI2 hn) hS
set_option maxHeartbeats 4000000 in
theorem pr_see (qC qM : gQ3) {MC MM : gM} (hS : gSt MC MM) (p y : Int32) : gPr FI (some .int) qC qM yX6_see cX6_see 5 yX7_see cX7_see 4 [.int p, .int y] MC MM := by
  obtain ⟨B, tl, tb, hI, hT, hI2, hT2, hs⟩ := id hS
  by_cases hn : isPl B p
  · obtain ⟨j, hj, ht, rfl⟩ := hn
    by_cases hn : gin y 0 99
    · obtain ⟨yn, ya, yb, rfl⟩ := gin_ex hn
      exact prI (c_X6_see_ok qC hI hj ht (by omega) (by omega)) (c_X7_see_ok qM hI2 hj ht (by omega) (by omega)) (gSt_set hI hT hI2 hT2 hs (f := 5) (k := 7) (Or.inr (Or.inr (Or.inr (Or.inr (Or.inr ⟨rfl, rfl⟩))))) hj (bV_up hI.2.2 (by omega) (by omega) (by omega) (by omega) (by omega) (by omega) (by omega)) (by omega))
    · skip
      exact prI (c_X6_see_bad qC hI (by omega) (by omega) hn) (c_X7_see_bad qM hI2 (by omega) (by omega) hn) hS
  · skip
    exact prI (c_X6_see_out qC hI hn) (c_X7_see_out qM hI2 hn) hS
set_option maxHeartbeats 4000000 in
theorem pr_knot (qC qM : gQ3) {MC MM : gM} (hS : gSt MC MM) (p : Int32) {y : Nat} (hy : y ≤ 1) : gPr FI (some .int) qC qM yX6_knot cX6_knot 5 yX7_knot cX7_knot 4 [.int p, .int (nI y)] MC MM := by
  obtain ⟨B, tl, tb, hI, hT, hI2, hT2, hs⟩ := id hS
  by_cases hn : isPl B p
  · obtain ⟨j, hj, ht, rfl⟩ := hn
    exact prI (c_X6_knot_ok qC hI hj ht hy) (c_X7_knot_ok qM hI2 hj ht hy) (gSt_set hI hT hI2 hT2 hs (f := 4) (k := 8) (Or.inr (Or.inr (Or.inr (Or.inr (Or.inl ⟨rfl, rfl⟩))))) hj (bV_up hI.2.2 (by omega) (by omega) (by omega) (by omega) (by omega) (by omega) (by omega)) (by omega))
  · skip
    exact prI (c_X6_knot_out qC hI hn (by omega)) (c_X7_knot_out qM hI2 hn (by omega)) hS
set_option maxHeartbeats 4000000 in
theorem pr_wood (qC qM : gQ3) {MC MM : gM} (hS : gSt MC MM) (k e p r : Int32) : gPr FI (some .int) qC qM yX6_wood cX6_wood 7 yX7_wood cX7_wood 6 [.int k, .int e, .int p, .int r] MC MM := by
  obtain ⟨B, tl, tb, hI, hT, hI2, hT2, hs⟩ := id hS
  by_cases hn : gin k 0 2
  · obtain ⟨kn, ka, kb, rfl⟩ := gin_ex hn
    by_cases hn : gin e 1 9
    · obtain ⟨en, ea, eb, rfl⟩ := gin_ex hn
      by_cases hn : gin p 1 99
      · obtain ⟨pn, pa, pb, rfl⟩ := gin_ex hn
        by_cases hn : gin r 1 99
        · obtain ⟨rn, ra, rb, rfl⟩ := gin_ex hn
          have hV : bV (wdB B kn en pn rn) := wdB_V hI.2.2 ⟨ea, eb⟩ ⟨pa, pb⟩ ⟨ra, rb⟩
          exact prI (c_X6_wood_ok qC hI (by omega) (by omega) (by omega) (by omega) (by omega) (by omega) (by omega)) (c_X7_wood_ok qM hI2 (by omega) (by omega) (by omega) (by omega) (by omega) (by omega) (by omega)) (gSt_to hs (cI_wd hI (by omega) hV) (cT_up (cT_up (cT_up hT (by omega)) (by omega)) (by omega)) (mI_wd hI2 (by omega) hV) (mT_up (mT_up (mT_up hT2 (by omega)) (by omega)) (by omega)) (cK_tr (cK_up (by omega)) (cK_tr (cK_up (by omega)) (cK_up (by omega)))) (mK_tr (mK_up (by omega)) (mK_tr (mK_up (by omega)) (mK_up (by omega)))))
        · skip
          exact prI (c_X6_wood_badr qC hI (by omega) (by omega) (by omega) (by omega) (by omega) hn) (c_X7_wood_badr qM hI2 (by omega) (by omega) (by omega) (by omega) (by omega) hn) hS
      · skip
        exact prI (c_X6_wood_badp qC hI (by omega) (by omega) (by omega) hn) (c_X7_wood_badp qM hI2 (by omega) (by omega) (by omega) hn) hS
    · skip
      exact prI (c_X6_wood_bade qC hI (by omega) hn) (c_X7_wood_bade qM hI2 (by omega) hn) hS
  · skip
    exact prI (c_X6_wood_out qC hI hn) (c_X7_wood_out qM hI2 hn) hS
set_option maxHeartbeats 4000000 in
theorem pr_wipe (qC qM : gQ3) {MC MM : gM} (hS : gSt MC MM)  : gPr FI (some .int) qC qM yX6_wipe cX6_wipe 2 yX7_wipe cX7_wipe 2 [] MC MM := by
  obtain ⟨B, tl, tb, hI, hT, hI2, hT2, hs⟩ := id hS
  exact prI (c_X6_wipe_ok qC hI hT) (c_X7_wipe_ok qM hI2 hT2) (gSt_to (B := B) (tl := 0) (tb := tb) hs (cI_keep hI (fun c h1 h2 => by funext z; rw [gupd_get, if_neg (by omega)])) ⟨by rw [gupd_get, if_pos ⟨rfl, rfl⟩], by omega, fun i hi => absurd hi (Nat.not_lt_zero i)⟩ (mI_W hI2 (mW_s mW_rf)) ⟨by rw [gupd_get, if_pos ⟨rfl, rfl⟩], by omega, fun i hi => absurd hi (Nat.not_lt_zero i)⟩ (cK_up (by omega)) (mK_up (by omega)))
set_option maxHeartbeats 4000000 in
theorem pr_write (qC qM : gQ3) {MC MM : gM} (hS : gSt MC MM) (n : Int32) (w : Int64) : gPr FI (some .int) qC qM yX6_write cX6_write 5 yX7_write cX7_write 5 [.int n, .long w] MC MM := by
  obtain ⟨B, tl, tb, hI, hT, hI2, hT2, hs⟩ := id hS
  by_cases hn : gin n 1 8
  · obtain ⟨nn, na, nb, rfl⟩ := gin_ex hn
    rcases (show 60 < tl + nn ∨ tl + nn ≤ 60 by omega) with hz | hz
    · exact prI (c_X6_write_full qC hI hT (by omega) (by omega) hz) (c_X7_write_full qM hI2 hT2 (by omega) (by omega) hz) hS
    · exact prP (c_X6_write_ok qC hI hT (by omega) (by omega) hz) (c_X7_write_ok qM hI2 hT2 (by omega) (by omega) hz) (fun _ _ h1 h2 => gSt_to hs (cI_keep hI (fun c a b => h1.2 c (by omega))) h1.1 (mI_W hI2 h2.2) h2.1 (cK_o h1.2 (by omega)) ⟨h2.2.1 12 (by omega) (by omega), h2.2.1 13 (by omega) (by omega)⟩)
  · skip
    exact prI (c_X6_write_badn qC hI hT hn) (c_X7_write_badn qM hI2 hT2 hn) hS
set_option maxHeartbeats 4000000 in
theorem pr_draw (qC qM : gQ3) {MC MM : gM} (hS : gSt MC MM) (x : Int32) : gPr FI (some .int) qC qM yX6_draw cX6_draw 7 yX7_draw cX7_draw 8 [.int x] MC MM := by
  obtain ⟨B, tl, tb, hI, hT, hI2, hT2, hs⟩ := id hS
  by_cases hn : gin x 0 40
  · obtain ⟨xn, xa, xb, rfl⟩ := gin_ex hn
    rcases (show 0 < B 9 1 ∨ B 9 1 = 0 by omega) with hz | hz
    · exact prI (c_X6_draw_brk qC hI (by omega) hz) (c_X7_draw_brk qM hI2 (by omega) hz) hS
    · rcases (show (sBk B (sAb B (sPl B) (sPull B xn) (sAll B)) 12).1 = 0 ∨ ∃ j, (sBk B (sAb B (sPl B) (sPull B xn) (sAll B)) 12).1 = j + 1 from by cases (sBk B (sAb B (sPl B) (sPull B xn) (sAll B)) 12).1 with | zero => exact Or.inl rfl | succ j => exact Or.inr ⟨j, rfl⟩) with hk | ⟨j, hk⟩
      · exact prP (c_X6_draw_sets qC hI (by omega) hz hk) (c_X7_draw_sets qM hI2 (by omega) hz hk) (fun _ _ h1 h2 => gSt_to hs h1.1 (cT_o hT h1.2 (by omega) (by omega)) h2.1 (mT_o hT2 h2.2 (by omega) (by omega)) (cK_o h1.2 (by omega)) (mK_o h2.2 (by omega) (by omega)))
      · have hj : j + 1 ≤ 12 := by rw [← hk]; exact sBk_le 12
        have hm := mI_br hI2 (r := j + 1) hj
        have hn : nxV (j + 1) = nI (sTold j) := by unfold nxV; rw [if_neg (by omega), Nat.add_sub_cancel]
        rw [hn] at hm
        exact prI (c_X6_draw_breaks qC hI (by omega) hz hk) (c_X7_draw_breaks qM hI2 (by omega) hz hk) (gSt_to hs (cI_br hI hm.2.2) (cT_up hT (by omega)) hm (mT_up hT2 (by omega)) (cK_up (by omega)) (mK_up (by omega)))
  · skip
    exact prI (c_X6_draw_bad qC hI hn) (c_X7_draw_bad qM hI2 hn) hS
set_option maxHeartbeats 4000000 in
theorem pr_shape (qC qM : gQ3) {MC MM : gM} (hS : gSt MC MM) (f s : Int32) : gPr FI (some .int) qC qM yX6_shape cX6_shape 3 yX7_shape cX7_shape 5 [.int f, .int s] MC MM := by
  obtain ⟨B, tl, tb, hI, hT, hI2, hT2, hs⟩ := id hS
  by_cases hn : gin f 1 999
  · obtain ⟨fn, fa, fb, rfl⟩ := gin_ex hn
    by_cases hn : gin s 1 99
    · obtain ⟨sn, sa, sb, rfl⟩ := gin_ex hn
      by_cases hh : sHas B fn sn
      · exact prP (c_X6_shape_ok qC hI (by omega) (by omega) (by omega) (by omega) hh) (c_X7_shape_ok qM hI2 (by omega) (by omega) (by omega) (by omega) hh) (fun _ _ h1 h2 => gSt_to hs h1.1 (cT_o hT h1.2 (by omega) (by omega)) h2.1 (mT_o hT2 h2.2 (by omega) (by omega)) (cK_o h1.2 (by omega)) (mK_o h2.2 (by omega) (by omega)))
      · exact prI (c_X6_shape_no qC hI (by omega) (by omega) (by omega) (by omega) hh) (c_X7_shape_no qM hI2 (by omega) (by omega) (by omega) (by omega) hh) hS
    · skip
      exact prI (c_X6_shape_bads qC hI (by omega) (by omega) hn) (c_X7_shape_bads qM hI2 (by omega) (by omega) hn) hS
  · skip
    exact prI (c_X6_shape_badf qC hI hn) (c_X7_shape_badf qM hI2 hn) hS
set_option maxHeartbeats 4000000 in
theorem pr_best (qC qM : gQ3) {MC MM : gM} (hS : gSt MC MM) (x f n : Int32) : gPr FI (some .int) qC qM yX6_best cX6_best 4 yX7_best cX7_best 4 [.int x, .int f, .int n] MC MM := by
  obtain ⟨B, tl, tb, hI, hT, hI2, hT2, hs⟩ := id hS
  by_cases hn : gin x 0 40
  · obtain ⟨xn, xa, xb, rfl⟩ := gin_ex hn
    by_cases hn : gin f 0 999
    · obtain ⟨fn, fa, fb, rfl⟩ := gin_ex hn
      by_cases hn : gin n 1 3
      · obtain ⟨nn, na, nb, rfl⟩ := gin_ex hn
        have eb := best_same B xn fn (n := nn) na nb
        have h7 := c_X7_best_ok qM hI2 (x := xn) (f := fn) (n := nn) (by omega) (by omega) (by omega) (by omega)
        rw [← eb] at h7
        exact prP (c_X6_best_ok qC hI (by omega) (by omega) (by omega) (by omega)) h7 (fun _ _ h1 h2 => gSt_to hs (cI_q hI h1) (by unfold cT; rw [h1 1 (by omega) (by omega) (by omega), h1 2 (by omega) (by omega) (by omega)]; exact hT) (mI_Q hI2 h2) (by unfold mT; rw [h2.2 2 (by omega) (by omega), h2.1 1 (by omega) (by omega) (by omega)]; exact hT2) (fun c hc => h1 c (by omega) (by omega) (by omega)) ⟨h2.1 12 (by omega) (by omega) (by omega), h2.1 13 (by omega) (by omega) (by omega)⟩)
      · skip
        exact prI (c_X6_best_badn qC hI (by omega) (by omega) (by omega) hn) (c_X7_best_badn qM hI2 (by omega) (by omega) (by omega) hn) hS
    · skip
      exact prI (c_X6_best_badf qC hI (by omega) hn) (c_X7_best_badf qM hI2 (by omega) hn) hS
  · skip
    exact prI (c_X6_best_badx qC hI hn) (c_X7_best_badx qM hI2 hn) hS
set_option maxHeartbeats 4000000 in
theorem pr_bestAt (qC qM : gQ3) {MC MM : gM} (hS : gSt MC MM) (x f n y : Int32) : gPr FI (some .int) qC qM yX6_bestAt cX6_bestAt 5 yX7_bestAt cX7_bestAt 5 [.int x, .int f, .int n, .int y] MC MM := by
  obtain ⟨B, tl, tb, hI, hT, hI2, hT2, hs⟩ := id hS
  by_cases hn : gin x 0 40
  · obtain ⟨xn, xa, xb, rfl⟩ := gin_ex hn
    by_cases hn : gin f 0 999
    · obtain ⟨fn, fa, fb, rfl⟩ := gin_ex hn
      by_cases hn : gin n 1 3
      · obtain ⟨nn, na, nb, rfl⟩ := gin_ex hn
        have eb := best_same B xn fn (n := nn) na nb
        by_cases hy : ginl y (sBest B xn fn nn).2.1
        · obtain ⟨i, hi, rfl⟩ := ginl_ex hy
          have h7 := c_X7_bestAt_in qM hI2 (x := xn) (f := fn) (n := nn) (by omega) (by omega) (by omega) (by omega) (i := i) (by rw [← eb]; exact hi)
          rw [← eb] at h7
          exact prP (c_X6_bestAt_in qC hI (by omega) (by omega) (by omega) (by omega) hi) h7 (fun _ _ h1 h2 => gSt_to hs (cI_q hI h1) (by unfold cT; rw [h1 1 (by omega) (by omega) (by omega), h1 2 (by omega) (by omega) (by omega)]; exact hT) (mI_Q hI2 h2) (by unfold mT; rw [h2.2 2 (by omega) (by omega), h2.1 1 (by omega) (by omega) (by omega)]; exact hT2) (fun c hc => h1 c (by omega) (by omega) (by omega)) ⟨h2.1 12 (by omega) (by omega) (by omega), h2.1 13 (by omega) (by omega) (by omega)⟩)
        · have h7 := c_X7_bestAt_none qM hI2 (x := xn) (f := fn) (n := nn) (by omega) (by omega) (by omega) (by omega) (y := y) (by rw [← eb]; exact hy)
          exact prP (c_X6_bestAt_none qC hI (by omega) (by omega) (by omega) (by omega) hy) h7 (fun _ _ h1 h2 => gSt_to hs (cI_q hI h1) (by unfold cT; rw [h1 1 (by omega) (by omega) (by omega), h1 2 (by omega) (by omega) (by omega)]; exact hT) (mI_Q hI2 h2) (by unfold mT; rw [h2.2 2 (by omega) (by omega), h2.1 1 (by omega) (by omega) (by omega)]; exact hT2) (fun c hc => h1 c (by omega) (by omega) (by omega)) ⟨h2.1 12 (by omega) (by omega) (by omega), h2.1 13 (by omega) (by omega) (by omega)⟩)
      · skip
        exact prI (c_X6_bestAt_badn qC hI (by omega) (by omega) (by omega) hn) (c_X7_bestAt_badn qM hI2 (by omega) (by omega) (by omega) hn) hS
    · skip
      exact prI (c_X6_bestAt_badf qC hI (by omega) hn) (c_X7_bestAt_badf qM hI2 (by omega) hn) hS
  · skip
    exact prI (c_X6_bestAt_badx qC hI hn) (c_X7_bestAt_badx qM hI2 hn) hS
set_option maxHeartbeats 4000000 in
theorem pr_keep (qC qM : gQ3) {MC MM : gM} (hS : gSt MC MM) (x : Int32) : gPr FI (some .int) qC qM yX6_keep cX6_keep 3 yX7_keep cX7_keep 3 [.int x] MC MM := by
  obtain ⟨B, tl, tb, hI, hT, hI2, hT2, hs⟩ := id hS
  by_cases hn : gin x 0 1
  · obtain ⟨xn, xa, xb, rfl⟩ := gin_ex hn
    rcases (show xn = 0 ∨ xn = 1 by omega) with rfl | rfl
    · exact prP (c_X6_keep_0 qC hI) (c_X7_keep_ok qM hI2 (k := 0) (by omega)) (fun _ _ h1 h2 => by obtain ⟨M1, a1, rfl⟩ := h1; obtain ⟨M2, a2, rfl⟩ := h2; exact gSt_keep hI hT hI2 hT2 hs (k := 0) (by omega) a1 a2)
    · exact prP (c_X6_keep_1 qC hI) (c_X7_keep_ok qM hI2 (k := 1) (by omega)) (fun _ _ h1 h2 => by obtain ⟨M1, a1, rfl⟩ := h1; obtain ⟨M2, a2, rfl⟩ := h2; exact gSt_keep hI hT hI2 hT2 hs (k := 1) (by omega) a1 a2)
  · skip
    exact prI (c_X6_keep_out qC hI hn) (c_X7_keep_out qM hI2 hn) hS
set_option maxHeartbeats 4000000 in
theorem pr_again (qC qM : gQ3) {MC MM : gM} (hS : gSt MC MM) (x : Int32) : gPr FI (some .int) qC qM yX6_again cX6_again 3 yX7_again cX7_again 3 [.int x] MC MM := by
  obtain ⟨B, tl, tb, hI, hT, hI2, hT2, hs⟩ := id hS
  by_cases hn : gin x 0 1
  · obtain ⟨xn, xa, xb, rfl⟩ := gin_ex hn
    rcases (show xn = 0 ∨ xn = 1 by omega) with rfl | rfl
    · rcases hs 0 (by omega) with ⟨a, b⟩ | ⟨a, b, K, hB, hV, hp⟩
      · exact prI (c_X6_again_0_no qC hI a) (c_X7_again_no qM hI2 (k := 0) (by omega) b) hS
      · have h7 := c_X7_again_ok qM hI2 (k := 0) (by omega) b
        rw [show MM.1 12 (90 * 0 + 81) = nI (K 9 0) from hp.1] at h7
        exact prP (c_X6_again_0_ok qC hI a hB) h7 (fun _ _ h1 h2 => by obtain ⟨M2, a2, rfl⟩ := h2; have h9 := gSt_again hI hT hI2 hT2 hs (k := 0) (by omega) hB hV hp h1 a2; rw [show MM.1 12 (90 * 0 + 81) = nI (K 9 0) from hp.1] at h9; exact h9)
    · rcases hs 1 (by omega) with ⟨a, b⟩ | ⟨a, b, K, hB, hV, hp⟩
      · exact prI (c_X6_again_1_no qC hI a) (c_X7_again_no qM hI2 (k := 1) (by omega) b) hS
      · have h7 := c_X7_again_ok qM hI2 (k := 1) (by omega) b
        rw [show MM.1 12 (90 * 1 + 81) = nI (K 9 0) from hp.1] at h7
        exact prP (c_X6_again_1_ok qC hI a hB) h7 (fun _ _ h1 h2 => by obtain ⟨M2, a2, rfl⟩ := h2; have h9 := gSt_again hI hT hI2 hT2 hs (k := 1) (by omega) hB hV hp h1 a2; rw [show MM.1 12 (90 * 1 + 81) = nI (K 9 0) from hp.1] at h9; exact h9)
  · skip
    exact prI (c_X6_again_out qC hI hn) (c_X7_again_out qM hI2 hn) hS
set_option maxHeartbeats 4000000 in
theorem pr_fault (qC qM : gQ3) {MC MM : gM} (hS : gSt MC MM)  : gPr FI (some .int) qC qM yX6_fault cX6_fault 1 yX7_fault cX7_fault 1 [] MC MM := by
  obtain ⟨B, tl, tb, hI, hT, hI2, hT2, hs⟩ := id hS
  rcases slashes tl tb with hsl | ⟨sl, h0, h6, hsl, hmin⟩
  · obtain ⟨K, hKt, hall, hx⟩ := firstNot (fun i => sfit tb 0 i) tl
    have hall7 : ∀ i, i < K → i < 24 ∧ ffit (i % 4) (tb (i - 1)) (tb i) := fun i hi => sfit_0.mp (hall i hi)
    have hx7 : K < tl → K < 24 → ¬ ffit (K % 4) (tb (K - 1)) (tb K) := fun h1 h2 h3 => hx h1 (sfit_0.mpr ⟨h2, h3⟩)
    by_cases e : K < tl
    · exact prP (c_X6_fault_noat qC hI hT hsl e (hx e) hall) (c_X7_fault_no qM hI2 hT2 hKt hall7 hx7 hsl) (fun _ _ h1 h2 => by rw [h1]; exact gSt_to hs hI hT (mI_R hI2 h2) (mT_R hT2 h2) (fun _ _ => rfl) ⟨h2.1 12 (by omega) (by omega), h2.1 13 (by omega) (by omega)⟩)
    · have e2 : K = tl := by omega
      subst e2
      exact prP (c_X6_fault_noend qC hI hT hsl hall) (c_X7_fault_no qM hI2 hT2 hKt hall7 hx7 hsl) (fun _ _ h1 h2 => by rw [h1]; exact gSt_to hs hI hT (mI_R hI2 h2) (mT_R hT2 h2) (fun _ _ => rfl) ⟨h2.1 12 (by omega) (by omega), h2.1 13 (by omega) (by omega)⟩)
  · obtain ⟨K, hKt, hall, hx⟩ := firstNot (fun i => sfit tb sl i) tl
    by_cases e : K < tl
    · exact prP (c_X6_fault_at qC hI hT h0 h6 hsl hmin e (hx e) hall) (c_X7_fault_sl qM hI2 hT2 h0 h6 hsl hmin hKt hall hx (by omega)) (fun _ _ h1 h2 => by rw [h1]; exact gSt_to hs hI hT (mI_R hI2 h2) (mT_R hT2 h2) (fun _ _ => rfl) ⟨h2.1 12 (by omega) (by omega), h2.1 13 (by omega) (by omega)⟩)
    · have e2 : K = tl := by omega
      subst e2
      by_cases e3 : K = 8 * sl + 1
      · exact prP (c_X6_fault_good qC hI hT h0 h6 hsl hmin hall e3) (c_X7_fault_good qM hI2 hT2 h0 h6 hsl hmin hKt hall hx ⟨rfl, e3⟩) (fun _ _ h1 h2 => by rw [h1]; exact gSt_to hs hI hT (mI_R hI2 h2) (mT_R hT2 h2) (fun _ _ => rfl) ⟨h2.1 12 (by omega) (by omega), h2.1 13 (by omega) (by omega)⟩)
      · exact prP (c_X6_fault_short qC hI hT h0 h6 hsl hmin hall e3) (c_X7_fault_sl qM hI2 hT2 h0 h6 hsl hmin hKt hall hx (fun z => e3 z.2)) (fun _ _ h1 h2 => by rw [h1]; exact gSt_to hs hI hT (mI_R hI2 h2) (mT_R hT2 h2) (fun _ _ => rfl) ⟨h2.1 12 (by omega) (by omega), h2.1 13 (by omega) (by omega)⟩)
set_option maxHeartbeats 4000000 in
theorem pr_stave (qC qM : gQ3) {MC MM : gM} (hS : gSt MC MM)  : gPr FI (some .int) qC qM yX6_stave cX6_stave 1 yX7_stave cX7_stave 2 [] MC MM := by
  obtain ⟨B, tl, tb, hI, hT, hI2, hT2, hs⟩ := id hS
  rcases slashes tl tb with hsl | ⟨sl, h0, h6, hsl, hmin⟩
  · obtain ⟨K, hKt, hall, hx⟩ := firstNot (fun i => sfit tb 0 i) tl
    have hall7 : ∀ i, i < K → i < 24 ∧ ffit (i % 4) (tb (i - 1)) (tb i) := fun i hi => sfit_0.mp (hall i hi)
    have hx7 : K < tl → K < 24 → ¬ ffit (K % 4) (tb (K - 1)) (tb K) := fun h1 h2 h3 => hx h1 (sfit_0.mpr ⟨h2, h3⟩)
    by_cases e : K < tl
    · exact prP (c_X6_stave_noat qC hI hT hsl e (hx e) hall) (c_X7_stave_no qM hI2 hT2 hKt hall7 hx7 hsl) (fun _ _ h1 h2 => by rw [h1]; exact gSt_to hs hI hT (mI_R hI2 h2) (mT_R hT2 h2) (fun _ _ => rfl) ⟨h2.1 12 (by omega) (by omega), h2.1 13 (by omega) (by omega)⟩)
    · have e2 : K = tl := by omega
      subst e2
      exact prP (c_X6_stave_noend qC hI hT hsl hall) (c_X7_stave_no qM hI2 hT2 hKt hall7 hx7 hsl) (fun _ _ h1 h2 => by rw [h1]; exact gSt_to hs hI hT (mI_R hI2 h2) (mT_R hT2 h2) (fun _ _ => rfl) ⟨h2.1 12 (by omega) (by omega), h2.1 13 (by omega) (by omega)⟩)
  · obtain ⟨K, hKt, hall, hx⟩ := firstNot (fun i => sfit tb sl i) tl
    by_cases e : K < tl
    · exact prP (c_X6_stave_at qC hI hT h0 h6 hsl hmin e (hx e) hall) (c_X7_stave_sl qM hI2 hT2 h0 h6 hsl hmin hKt hall hx (by omega)) (fun _ _ h1 h2 => by rw [h1]; exact gSt_to hs hI hT (mI_R hI2 h2) (mT_R hT2 h2) (fun _ _ => rfl) ⟨h2.1 12 (by omega) (by omega), h2.1 13 (by omega) (by omega)⟩)
    · have e2 : K = tl := by omega
      subst e2
      by_cases e3 : K = 8 * sl + 1
      · exact prP (c_X6_stave_good qC hI hT h0 h6 hsl hmin hall e3) (c_X7_stave_good qM hI2 hT2 h0 h6 hsl hmin hKt hall hx ⟨rfl, e3⟩) (fun _ _ h1 h2 => gSt_to hs h1.1 (cT_o hT h1.2 (by omega) (by omega)) h2.1 (by obtain ⟨t1, t2, -⟩ := h2.2; unfold mT; rw [t1, t2]; exact hT2) (cK_o h1.2 (by omega)) ⟨h2.2.2.2.1, h2.2.2.2.2⟩)
      · exact prP (c_X6_stave_short qC hI hT h0 h6 hsl hmin hall e3) (c_X7_stave_sl qM hI2 hT2 h0 h6 hsl hmin hKt hall hx (fun z => e3 z.2)) (fun _ _ h1 h2 => by rw [h1]; exact gSt_to hs hI hT (mI_R hI2 h2) (mT_R hT2 h2) (fun _ _ => rfl) ⟨h2.1 12 (by omega) (by omega), h2.1 13 (by omega) (by omega)⟩)