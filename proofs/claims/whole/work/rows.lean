section
-- ===== PART A: goes FIRST, ahead of the names: the tables' words, and 'selects' of the private methods out of them =====
/-- a private method of a class that the tables say can be made, by its rows of tables_1 -/
def lw_okq (q : MethodName × Nat) : Prop := (q.1.cls ≠ "java/lang/invoke/MethodHandle" ∧ q.1.cls ≠ "java/lang/invoke/VarHandle") ∧ Cond.instantiable q.1.cls q.2 ∈ tables_1 ∧ Cond.privateMethod q.1 ∈ tables_1 ∧ Cond.instanceMethod q.1 ∈ tables_1
theorem lw_p0 : lw_okq (⟨"BowBend$Text", "fits", "(II)Z"⟩, 2) := ⟨⟨by decide +kernel, by decide +kernel⟩, List.mem_of_getElem? (i := 20) (by decide +kernel), List.mem_of_getElem? (i := 221) (by decide +kernel), List.mem_of_getElem? (i := 222) (by decide +kernel)⟩
theorem lw_p1 : lw_okq (⟨"BowBend$Text", "figureFits", "(II)Z"⟩, 2) := ⟨⟨by decide +kernel, by decide +kernel⟩, List.mem_of_getElem? (i := 20) (by decide +kernel), List.mem_of_getElem? (i := 225) (by decide +kernel), List.mem_of_getElem? (i := 226) (by decide +kernel)⟩
theorem lw_p2 : lw_okq (⟨"BowBend$Text", "depthFits", "(I)Z"⟩, 2) := ⟨⟨by decide +kernel, by decide +kernel⟩, List.mem_of_getElem? (i := 20) (by decide +kernel), List.mem_of_getElem? (i := 233) (by decide +kernel), List.mem_of_getElem? (i := 234) (by decide +kernel)⟩
theorem lw_p3 : lw_okq (⟨"BowBend$Bow", "giveAtDepth", "(LBowBend$Place;J)J"⟩, 4) := ⟨⟨by decide +kernel, by decide +kernel⟩, List.mem_of_getElem? (i := 35) (by decide +kernel), List.mem_of_getElem? (i := 295) (by decide +kernel), List.mem_of_getElem? (i := 296) (by decide +kernel)⟩
theorem lw_p4 : lw_okq (⟨"BowBend$Bow", "eOf", "(LBowBend$Place;)J"⟩, 4) := ⟨⟨by decide +kernel, by decide +kernel⟩, List.mem_of_getElem? (i := 35) (by decide +kernel), List.mem_of_getElem? (i := 300) (by decide +kernel), List.mem_of_getElem? (i := 301) (by decide +kernel)⟩
theorem lw_p5 : lw_okq (⟨"BowBend$Bow", "pullLineOf", "(LBowBend$Place;)J"⟩, 4) := ⟨⟨by decide +kernel, by decide +kernel⟩, List.mem_of_getElem? (i := 35) (by decide +kernel), List.mem_of_getElem? (i := 376) (by decide +kernel), List.mem_of_getElem? (i := 377) (by decide +kernel)⟩
theorem lw_p6 : lw_okq (⟨"BowBend$Bow", "pressLineOf", "(LBowBend$Place;)J"⟩, 4) := ⟨⟨by decide +kernel, by decide +kernel⟩, List.mem_of_getElem? (i := 35) (by decide +kernel), List.mem_of_getElem? (i := 385) (by decide +kernel), List.mem_of_getElem? (i := 386) (by decide +kernel)⟩
theorem lw_p7 : lw_okq (⟨"BowBend$Search", "judge", "(LBowBend$Bow;IJ)V"⟩, 7) := ⟨⟨by decide +kernel, by decide +kernel⟩, List.mem_of_getElem? (i := 133) (by decide +kernel), List.mem_of_getElem? (i := 462) (by decide +kernel), List.mem_of_getElem? (i := 463) (by decide +kernel)⟩
theorem lw_p8 : lw_okq (⟨"BowBend", "slotNumbered", "(I)LBowBend$Slot;"⟩, 4) := ⟨⟨by decide +kernel, by decide +kernel⟩, List.mem_of_getElem? (i := 12) (by decide +kernel), List.mem_of_getElem? (i := 572) (by decide +kernel), List.mem_of_getElem? (i := 573) (by decide +kernel)⟩
theorem lw_p9 : lw_okq (⟨"BowBendModel", "readStave", "()I"⟩, 24) := ⟨⟨by decide +kernel, by decide +kernel⟩, List.mem_of_getElem? (i := 598) (by decide +kernel), List.mem_of_getElem? (i := 695) (by decide +kernel), List.mem_of_getElem? (i := 696) (by decide +kernel)⟩
theorem lw_p10 : lw_okq (⟨"BowBendModel", "readPlace", "(I)Z"⟩, 24) := ⟨⟨by decide +kernel, by decide +kernel⟩, List.mem_of_getElem? (i := 598) (by decide +kernel), List.mem_of_getElem? (i := 699) (by decide +kernel), List.mem_of_getElem? (i := 700) (by decide +kernel)⟩
theorem lw_p11 : lw_okq (⟨"BowBendModel", "figure", "(II)I"⟩, 24) := ⟨⟨by decide +kernel, by decide +kernel⟩, List.mem_of_getElem? (i := 598) (by decide +kernel), List.mem_of_getElem? (i := 703) (by decide +kernel), List.mem_of_getElem? (i := 704) (by decide +kernel)⟩
theorem lw_p12 : lw_okq (⟨"BowBendModel", "noPlace", "(I)Z"⟩, 24) := ⟨⟨by decide +kernel, by decide +kernel⟩, List.mem_of_getElem? (i := 598) (by decide +kernel), List.mem_of_getElem? (i := 729) (by decide +kernel), List.mem_of_getElem? (i := 730) (by decide +kernel)⟩
theorem lw_p13 : lw_okq (⟨"BowBendModel", "giveOf", "(I)J"⟩, 24) := ⟨⟨by decide +kernel, by decide +kernel⟩, List.mem_of_getElem? (i := 598) (by decide +kernel), List.mem_of_getElem? (i := 745) (by decide +kernel), List.mem_of_getElem? (i := 746) (by decide +kernel)⟩
theorem lw_p14 : lw_okq (⟨"BowBendModel", "giveBy", "(IJ)J"⟩, 24) := ⟨⟨by decide +kernel, by decide +kernel⟩, List.mem_of_getElem? (i := 598) (by decide +kernel), List.mem_of_getElem? (i := 749) (by decide +kernel), List.mem_of_getElem? (i := 750) (by decide +kernel)⟩
theorem lw_p15 : lw_okq (⟨"BowBendModel", "limbOf", "(I)J"⟩, 24) := ⟨⟨by decide +kernel, by decide +kernel⟩, List.mem_of_getElem? (i := 598) (by decide +kernel), List.mem_of_getElem? (i := 758) (by decide +kernel), List.mem_of_getElem? (i := 759) (by decide +kernel)⟩
def lw_privs_1 : List (MethodName × Nat) := [(⟨"BowBend$Text", "fits", "(II)Z"⟩, 2), (⟨"BowBend$Text", "figureFits", "(II)Z"⟩, 2), (⟨"BowBend$Text", "depthFits", "(I)Z"⟩, 2), (⟨"BowBend$Bow", "giveAtDepth", "(LBowBend$Place;J)J"⟩, 4), (⟨"BowBend$Bow", "eOf", "(LBowBend$Place;)J"⟩, 4), (⟨"BowBend$Bow", "pullLineOf", "(LBowBend$Place;)J"⟩, 4), (⟨"BowBend$Bow", "pressLineOf", "(LBowBend$Place;)J"⟩, 4), (⟨"BowBend$Search", "judge", "(LBowBend$Bow;IJ)V"⟩, 7), (⟨"BowBend", "slotNumbered", "(I)LBowBend$Slot;"⟩, 4), (⟨"BowBendModel", "readStave", "()I"⟩, 24), (⟨"BowBendModel", "readPlace", "(I)Z"⟩, 24), (⟨"BowBendModel", "figure", "(II)I"⟩, 24), (⟨"BowBendModel", "noPlace", "(I)Z"⟩, 24), (⟨"BowBendModel", "giveOf", "(I)J"⟩, 24), (⟨"BowBendModel", "giveBy", "(IJ)J"⟩, 24), (⟨"BowBendModel", "limbOf", "(I)J"⟩, 24)]
theorem lw_r1 : ∀ q ∈ lw_privs_1, lw_okq q := List.forall_mem_cons.mpr ⟨lw_p0, List.forall_mem_cons.mpr ⟨lw_p1, List.forall_mem_cons.mpr ⟨lw_p2, List.forall_mem_cons.mpr ⟨lw_p3, List.forall_mem_cons.mpr ⟨lw_p4, List.forall_mem_cons.mpr ⟨lw_p5, List.forall_mem_cons.mpr ⟨lw_p6, List.forall_mem_cons.mpr ⟨lw_p7, List.forall_mem_cons.mpr ⟨lw_p8, List.forall_mem_cons.mpr ⟨lw_p9, List.forall_mem_cons.mpr ⟨lw_p10, List.forall_mem_cons.mpr ⟨lw_p11, List.forall_mem_cons.mpr ⟨lw_p12, List.forall_mem_cons.mpr ⟨lw_p13, List.forall_mem_cons.mpr ⟨lw_p14, List.forall_mem_cons.mpr ⟨lw_p15, fun _ h => absurd h List.not_mem_nil⟩⟩⟩⟩⟩⟩⟩⟩⟩⟩⟩⟩⟩⟩⟩⟩
theorem lw_p16 : lw_okq (⟨"BowBendModel", "allSets", "()I"⟩, 24) := ⟨⟨by decide +kernel, by decide +kernel⟩, List.mem_of_getElem? (i := 598) (by decide +kernel), List.mem_of_getElem? (i := 766) (by decide +kernel), List.mem_of_getElem? (i := 767) (by decide +kernel)⟩
theorem lw_p17 : lw_okq (⟨"BowBendModel", "isThere", "(I)Z"⟩, 24) := ⟨⟨by decide +kernel, by decide +kernel⟩, List.mem_of_getElem? (i := 598) (by decide +kernel), List.mem_of_getElem? (i := 770) (by decide +kernel), List.mem_of_getElem? (i := 771) (by decide +kernel)⟩
theorem lw_p18 : lw_okq (⟨"BowBendModel", "pull", "(I)J"⟩, 24) := ⟨⟨by decide +kernel, by decide +kernel⟩, List.mem_of_getElem? (i := 598) (by decide +kernel), List.mem_of_getElem? (i := 783) (by decide +kernel), List.mem_of_getElem? (i := 784) (by decide +kernel)⟩
theorem lw_p19 : lw_okq (⟨"BowBendModel", "allGive", "()J"⟩, 24) := ⟨⟨by decide +kernel, by decide +kernel⟩, List.mem_of_getElem? (i := 598) (by decide +kernel), List.mem_of_getElem? (i := 788) (by decide +kernel), List.mem_of_getElem? (i := 789) (by decide +kernel)⟩
theorem lw_p20 : lw_okq (⟨"BowBendModel", "strainOf", "(II)J"⟩, 24) := ⟨⟨by decide +kernel, by decide +kernel⟩, List.mem_of_getElem? (i := 598) (by decide +kernel), List.mem_of_getElem? (i := 799) (by decide +kernel), List.mem_of_getElem? (i := 800) (by decide +kernel)⟩
theorem lw_p21 : lw_okq (⟨"BowBendModel", "pullLine", "(I)J"⟩, 24) := ⟨⟨by decide +kernel, by decide +kernel⟩, List.mem_of_getElem? (i := 598) (by decide +kernel), List.mem_of_getElem? (i := 808) (by decide +kernel), List.mem_of_getElem? (i := 809) (by decide +kernel)⟩
theorem lw_p22 : lw_okq (⟨"BowBendModel", "extreme", "(IZ)I"⟩, 24) := ⟨⟨by decide +kernel, by decide +kernel⟩, List.mem_of_getElem? (i := 598) (by decide +kernel), List.mem_of_getElem? (i := 833) (by decide +kernel), List.mem_of_getElem? (i := 834) (by decide +kernel)⟩
theorem lw_p23 : lw_okq (⟨"BowBendModel", "evenOf", "(I)I"⟩, 24) := ⟨⟨by decide +kernel, by decide +kernel⟩, List.mem_of_getElem? (i := 598) (by decide +kernel), List.mem_of_getElem? (i := 845) (by decide +kernel), List.mem_of_getElem? (i := 846) (by decide +kernel)⟩
theorem lw_p24 : lw_okq (⟨"BowBendModel", "isHeavy", "(II)Z"⟩, 24) := ⟨⟨by decide +kernel, by decide +kernel⟩, List.mem_of_getElem? (i := 598) (by decide +kernel), List.mem_of_getElem? (i := 853) (by decide +kernel), List.mem_of_getElem? (i := 854) (by decide +kernel)⟩
theorem lw_p25 : lw_okq (⟨"BowBendModel", "findBest", "(III)V"⟩, 24) := ⟨⟨by decide +kernel, by decide +kernel⟩, List.mem_of_getElem? (i := 598) (by decide +kernel), List.mem_of_getElem? (i := 865) (by decide +kernel), List.mem_of_getElem? (i := 866) (by decide +kernel)⟩
theorem lw_p26 : lw_okq (⟨"BowBendModel", "weigh", "(III)V"⟩, 24) := ⟨⟨by decide +kernel, by decide +kernel⟩, List.mem_of_getElem? (i := 598) (by decide +kernel), List.mem_of_getElem? (i := 869) (by decide +kernel), List.mem_of_getElem? (i := 870) (by decide +kernel)⟩
theorem lw_p27 : lw_okq (⟨"BowBendModel", "lay", "(II)Z"⟩, 24) := ⟨⟨by decide +kernel, by decide +kernel⟩, List.mem_of_getElem? (i := 598) (by decide +kernel), List.mem_of_getElem? (i := 873) (by decide +kernel), List.mem_of_getElem? (i := 874) (by decide +kernel)⟩
theorem lw_p28 : lw_okq (⟨"BowBendModel", "findThird", "(III)V"⟩, 24) := ⟨⟨by decide +kernel, by decide +kernel⟩, List.mem_of_getElem? (i := 598) (by decide +kernel), List.mem_of_getElem? (i := 877) (by decide +kernel), List.mem_of_getElem? (i := 878) (by decide +kernel)⟩
theorem lw_p29 : lw_okq (⟨"BowBendModel", "formOf", "(III)I"⟩, 24) := ⟨⟨by decide +kernel, by decide +kernel⟩, List.mem_of_getElem? (i := 598) (by decide +kernel), List.mem_of_getElem? (i := 892) (by decide +kernel), List.mem_of_getElem? (i := 893) (by decide +kernel)⟩
theorem lw_p30 : lw_okq (⟨"BowBendModel", "allSeen", "()I"⟩, 24) := ⟨⟨by decide +kernel, by decide +kernel⟩, List.mem_of_getElem? (i := 598) (by decide +kernel), List.mem_of_getElem? (i := 923) (by decide +kernel), List.mem_of_getElem? (i := 924) (by decide +kernel)⟩
theorem lw_p31 : lw_okq (⟨"BowBendModel", "offOf", "(I)I"⟩, 24) := ⟨⟨by decide +kernel, by decide +kernel⟩, List.mem_of_getElem? (i := 598) (by decide +kernel), List.mem_of_getElem? (i := 927) (by decide +kernel), List.mem_of_getElem? (i := 928) (by decide +kernel)⟩
def lw_privs_2 : List (MethodName × Nat) := [(⟨"BowBendModel", "allSets", "()I"⟩, 24), (⟨"BowBendModel", "isThere", "(I)Z"⟩, 24), (⟨"BowBendModel", "pull", "(I)J"⟩, 24), (⟨"BowBendModel", "allGive", "()J"⟩, 24), (⟨"BowBendModel", "strainOf", "(II)J"⟩, 24), (⟨"BowBendModel", "pullLine", "(I)J"⟩, 24), (⟨"BowBendModel", "extreme", "(IZ)I"⟩, 24), (⟨"BowBendModel", "evenOf", "(I)I"⟩, 24), (⟨"BowBendModel", "isHeavy", "(II)Z"⟩, 24), (⟨"BowBendModel", "findBest", "(III)V"⟩, 24), (⟨"BowBendModel", "weigh", "(III)V"⟩, 24), (⟨"BowBendModel", "lay", "(II)Z"⟩, 24), (⟨"BowBendModel", "findThird", "(III)V"⟩, 24), (⟨"BowBendModel", "formOf", "(III)I"⟩, 24), (⟨"BowBendModel", "allSeen", "()I"⟩, 24), (⟨"BowBendModel", "offOf", "(I)I"⟩, 24)]
theorem lw_r2 : ∀ q ∈ lw_privs_2, lw_okq q := List.forall_mem_cons.mpr ⟨lw_p16, List.forall_mem_cons.mpr ⟨lw_p17, List.forall_mem_cons.mpr ⟨lw_p18, List.forall_mem_cons.mpr ⟨lw_p19, List.forall_mem_cons.mpr ⟨lw_p20, List.forall_mem_cons.mpr ⟨lw_p21, List.forall_mem_cons.mpr ⟨lw_p22, List.forall_mem_cons.mpr ⟨lw_p23, List.forall_mem_cons.mpr ⟨lw_p24, List.forall_mem_cons.mpr ⟨lw_p25, List.forall_mem_cons.mpr ⟨lw_p26, List.forall_mem_cons.mpr ⟨lw_p27, List.forall_mem_cons.mpr ⟨lw_p28, List.forall_mem_cons.mpr ⟨lw_p29, List.forall_mem_cons.mpr ⟨lw_p30, List.forall_mem_cons.mpr ⟨lw_p31, fun _ h => absurd h List.not_mem_nil⟩⟩⟩⟩⟩⟩⟩⟩⟩⟩⟩⟩⟩⟩⟩⟩
def lw_privs : List (MethodName × Nat) := lw_privs_1 ++ (lw_privs_2)
def lw_tbl : List Cond := k2_sels lw_privs ++ tables_1
theorem lw_privs_ok : ∀ q ∈ lw_privs, lw_okq q := by
  show ∀ q ∈ lw_privs_1 ++ (lw_privs_2), lw_okq q
  exact List.forall_mem_append.mpr ⟨lw_r1, lw_r2⟩
end
section
def RX0 : String := "BowBend$Bow"
def TX0 : u_T := fun k => match k with
  | 0 => ("BowBend$Bow", "woods", "[LBowBend$Wood;", true)
  | 1 => ("BowBend$Bow", "places", "[LBowBend$Place;", true)
  | 2 => ("BowBend$Bow", "size", "I", false)
  | _ => ("BowBend$Bow", "brokenAt", "I", false)
def tyX0 : Nat → FieldType := fun k => match k with
  | 0 => .array (.object "BowBend$Wood")
  | 1 => .array (.object "BowBend$Place")
  | 2 => .int
  | _ => .int
abbrev wsX00 : List Cond := u_ws RX0 TX0 4
theorem nmX0 : ∀ a, a < 4 → ∀ b, b < 4 → a ≠ b → (TX0 a).2.1 ≠ (TX0 b).2.1 := by decide +kernel
theorem tyX0_ok : ∀ k, k < 4 → parseFieldDescriptor (TX0 k).2.2.1 = some (tyX0 k) := by decide +kernel
abbrev cX0_init : ByteArray := prog_2_method_1_code
def yX0_init : MethodName := ⟨RX0, "<init>", "()V"⟩
abbrev cX0_makeAnew : ByteArray := prog_2_method_2_code
def yX0_makeAnew : MethodName := ⟨RX0, "makeAnew", "(LBowBend$Text;)V"⟩
abbrev cX0_copyFrom : ByteArray := prog_2_method_3_code
def yX0_copyFrom : MethodName := ⟨RX0, "copyFrom", "(LBowBend$Bow;)V"⟩
abbrev cX0_has : ByteArray := prog_2_method_4_code
def yX0_has : MethodName := ⟨RX0, "has", "(LBowBend$Place;)Z"⟩
abbrev cX0_placeTold : ByteArray := prog_2_method_5_code
def yX0_placeTold : MethodName := ⟨RX0, "placeTold", "(I)LBowBend$Place;"⟩
abbrev cX0_woodNumbered : ByteArray := prog_2_method_6_code
def yX0_woodNumbered : MethodName := ⟨RX0, "woodNumbered", "(I)LBowBend$Wood;"⟩
abbrev cX0_eOf : ByteArray := prog_2_method_7_code
def yX0_eOf : MethodName := ⟨RX0, "eOf", "(LBowBend$Place;)J"⟩
abbrev cX0_pullLineOf : ByteArray := prog_2_method_8_code
def yX0_pullLineOf : MethodName := ⟨RX0, "pullLineOf", "(LBowBend$Place;)J"⟩
abbrev cX0_pressLineOf : ByteArray := prog_2_method_9_code
def yX0_pressLineOf : MethodName := ⟨RX0, "pressLineOf", "(LBowBend$Place;)J"⟩
abbrev cX0_giveOf : ByteArray := prog_2_method_10_code
def yX0_giveOf : MethodName := ⟨RX0, "giveOf", "(LBowBend$Place;)J"⟩
abbrev cX0_giveAtDepth : ByteArray := prog_2_method_11_code
def yX0_giveAtDepth : MethodName := ⟨RX0, "giveAtDepth", "(LBowBend$Place;J)J"⟩
abbrev cX0_limbGives : ByteArray := prog_2_method_12_code
def yX0_limbGives : MethodName := ⟨RX0, "limbGives", "(I)J"⟩
abbrev cX0_allGives : ByteArray := prog_2_method_13_code
def yX0_allGives : MethodName := ⟨RX0, "allGives", "()J"⟩
abbrev cX0_givesIfLost : ByteArray := prog_2_method_14_code
def yX0_givesIfLost : MethodName := ⟨RX0, "givesIfLost", "(LBowBend$Place;I)J"⟩
abbrev cX0_followed : ByteArray := prog_2_method_15_code
def yX0_followed : MethodName := ⟨RX0, "followed", "()I"⟩
abbrev cX0_pullAt : ByteArray := prog_2_method_16_code
def yX0_pullAt : MethodName := ⟨RX0, "pullAt", "(I)J"⟩
abbrev cX0_weighs : ByteArray := prog_2_method_17_code
def yX0_weighs : MethodName := ⟨RX0, "weighs", "(IJJ)Z"⟩
abbrev cX0_strainOf : ByteArray := prog_2_method_18_code
def yX0_strainOf : MethodName := ⟨RX0, "strainOf", "(LBowBend$Place;JJ)J"⟩
abbrev cX0_breakingPlace : ByteArray := prog_2_method_19_code
def yX0_breakingPlace : MethodName := ⟨RX0, "breakingPlace", "(JJ)LBowBend$Place;"⟩
abbrev cX0_takeSets : ByteArray := prog_2_method_20_code
def yX0_takeSets : MethodName := ⟨RX0, "takeSets", "(JJ)I"⟩
abbrev cX0_extremePlace : ByteArray := prog_2_method_21_code
def yX0_extremePlace : MethodName := ⟨RX0, "extremePlace", "(IZ)I"⟩
abbrev cX0_evenness : ByteArray := prog_2_method_22_code
def yX0_evenness : MethodName := ⟨RX0, "evenness", "(JJ)I"⟩
abbrev cX0_formDepth : ByteArray := prog_2_method_23_code
def yX0_formDepth : MethodName := ⟨RX0, "formDepth", "(LBowBend$Place;II)I"⟩
abbrev cX0_hasForm : ByteArray := prog_2_method_24_code
def yX0_hasForm : MethodName := ⟨RX0, "hasForm", "(II)Z"⟩
abbrev cX0_takeForm : ByteArray := prog_2_method_25_code
def yX0_takeForm : MethodName := ⟨RX0, "takeForm", "(II)I"⟩
abbrev cX0_load : ByteArray := prog_2_method_26_code
def yX0_load : MethodName := ⟨RX0, "load", "()J"⟩
abbrev cX0_offBy : ByteArray := prog_2_method_27_code
def yX0_offBy : MethodName := ⟨RX0, "offBy", "(LBowBend$Place;IJ)I"⟩
abbrev cX0_leastOffPlace : ByteArray := prog_2_method_28_code
def yX0_leastOffPlace : MethodName := ⟨RX0, "leastOffPlace", "()I"⟩
abbrev cX0_allKnots : ByteArray := prog_2_method_29_code
def yX0_allKnots : MethodName := ⟨RX0, "allKnots", "()I"⟩
abbrev cX0_allSets : ByteArray := prog_2_method_30_code
def yX0_allSets : MethodName := ⟨RX0, "allSets", "()I"⟩
abbrev cX0_allSeen : ByteArray := prog_2_method_31_code
def yX0_allSeen : MethodName := ⟨RX0, "allSeen", "()I"⟩
def RX1 : String := "BowBend$Place"
def TX1 : u_T := fun k => match k with
  | 0 => ("BowBend$Place", "side", "I", true)
  | 1 => ("BowBend$Place", "arm", "I", true)
  | 2 => ("BowBend$Place", "told", "I", true)
  | 3 => ("BowBend$Place", "width", "I", false)
  | 4 => ("BowBend$Place", "depth", "I", false)
  | 5 => ("BowBend$Place", "wood", "I", false)
  | 6 => ("BowBend$Place", "sets", "I", false)
  | 7 => ("BowBend$Place", "seen", "I", false)
  | _ => ("BowBend$Place", "knotted", "Z", false)
def tyX1 : Nat → FieldType := fun k => match k with
  | 0 => .int
  | 1 => .int
  | 2 => .int
  | 3 => .int
  | 4 => .int
  | 5 => .int
  | 6 => .int
  | 7 => .int
  | _ => .boolean
abbrev wsX10 : List Cond := u_ws RX1 TX1 9
theorem nmX1 : ∀ a, a < 9 → ∀ b, b < 9 → a ≠ b → (TX1 a).2.1 ≠ (TX1 b).2.1 := by decide +kernel
theorem tyX1_ok : ∀ k, k < 9 → parseFieldDescriptor (TX1 k).2.2.1 = some (tyX1 k) := by decide +kernel
abbrev cX1_init : ByteArray := prog_3_method_1_code
def yX1_init : MethodName := ⟨RX1, "<init>", "(II)V"⟩
abbrev cX1_makeAnew : ByteArray := prog_3_method_2_code
def yX1_makeAnew : MethodName := ⟨RX1, "makeAnew", "(III)V"⟩
abbrev cX1_copyFrom : ByteArray := prog_3_method_3_code
def yX1_copyFrom : MethodName := ⟨RX1, "copyFrom", "(LBowBend$Place;)V"⟩
def RX2 : String := "BowBend$Search"
def TX2 : u_T := fun k => match k with
  | 0 => ("BowBend$Search", "way", "[I", true)
  | 1 => ("BowBend$Search", "found", "[I", true)
  | 2 => ("BowBend$Search", "foundCount", "I", false)
  | 3 => ("BowBend$Search", "foundEven", "I", false)
  | 4 => ("BowBend$Search", "pull", "J", false)
  | 5 => ("BowBend$Search", "leastWeight", "I", false)
  | _ => ("BowBend$Search", "most", "I", false)
def tyX2 : Nat → FieldType := fun k => match k with
  | 0 => .array .int
  | 1 => .array .int
  | 2 => .int
  | 3 => .int
  | 4 => .long
  | 5 => .int
  | _ => .int
abbrev wsX20 : List Cond := u_ws RX2 TX2 7
theorem nmX2 : ∀ a, a < 7 → ∀ b, b < 7 → a ≠ b → (TX2 a).2.1 ≠ (TX2 b).2.1 := by decide +kernel
theorem tyX2_ok : ∀ k, k < 7 → parseFieldDescriptor (TX2 k).2.2.1 = some (tyX2 k) := by decide +kernel
abbrev cX2_init : ByteArray := prog_4_method_1_code
def yX2_init : MethodName := ⟨RX2, "<init>", "()V"⟩
abbrev cX2_nextPlace : ByteArray := prog_4_method_2_code
def yX2_nextPlace : MethodName := ⟨RX2, "nextPlace", "(LBowBend$Bow;II)I"⟩
abbrev cX2_seek : ByteArray := prog_4_method_3_code
def yX2_seek : MethodName := ⟨RX2, "seek", "(LBowBend$Bow;III)V"⟩
abbrev cX2_foundPlace : ByteArray := prog_4_method_4_code
def yX2_foundPlace : MethodName := ⟨RX2, "foundPlace", "(I)I"⟩
abbrev cX2_tryWays : ByteArray := prog_4_method_5_code
def yX2_tryWays : MethodName := ⟨RX2, "tryWays", "(LBowBend$Search;LBowBend$Bow;IIJ)V"⟩
abbrev cX2_judge : ByteArray := prog_4_method_6_code
def yX2_judge : MethodName := ⟨RX2, "judge", "(LBowBend$Bow;IJ)V"⟩
def RX3 : String := "BowBend$Slot"
def TX3 : u_T := fun k => match k with
  | 0 => ("BowBend$Slot", "bow", "LBowBend$Bow;", true)
  | _ => ("BowBend$Slot", "filled", "Z", false)
def tyX3 : Nat → FieldType := fun k => match k with
  | 0 => .object "BowBend$Bow"
  | _ => .boolean
abbrev wsX30 : List Cond := u_ws RX3 TX3 2
theorem nmX3 : ∀ a, a < 2 → ∀ b, b < 2 → a ≠ b → (TX3 a).2.1 ≠ (TX3 b).2.1 := by decide +kernel
theorem tyX3_ok : ∀ k, k < 2 → parseFieldDescriptor (TX3 k).2.2.1 = some (tyX3 k) := by decide +kernel
abbrev cX3_init : ByteArray := prog_5_method_1_code
def yX3_init : MethodName := ⟨RX3, "<init>", "()V"⟩
def RX4 : String := "BowBend$Text"
def TX4 : u_T := fun k => match k with
  | 0 => ("BowBend$Text", "bytes", "[I", true)
  | _ => ("BowBend$Text", "length", "I", false)
def tyX4 : Nat → FieldType := fun k => match k with
  | 0 => .array .int
  | _ => .int
abbrev wsX40 : List Cond := u_ws RX4 TX4 2
theorem nmX4 : ∀ a, a < 2 → ∀ b, b < 2 → a ≠ b → (TX4 a).2.1 ≠ (TX4 b).2.1 := by decide +kernel
theorem tyX4_ok : ∀ k, k < 2 → parseFieldDescriptor (TX4 k).2.2.1 = some (tyX4 k) := by decide +kernel
abbrev cX4_init : ByteArray := prog_6_method_1_code
def yX4_init : MethodName := ⟨RX4, "<init>", "()V"⟩
abbrev cX4_append : ByteArray := prog_6_method_2_code
def yX4_append : MethodName := ⟨RX4, "append", "(I)V"⟩
abbrev cX4_signAt : ByteArray := prog_6_method_3_code
def yX4_signAt : MethodName := ⟨RX4, "signAt", "(I)I"⟩
abbrev cX4_figureAt : ByteArray := prog_6_method_4_code
def yX4_figureAt : MethodName := ⟨RX4, "figureAt", "(I)I"⟩
abbrev cX4_firstFault : ByteArray := prog_6_method_5_code
def yX4_firstFault : MethodName := ⟨RX4, "firstFault", "()I"⟩
abbrev cX4_slashAt : ByteArray := prog_6_method_6_code
def yX4_slashAt : MethodName := ⟨RX4, "slashAt", "()I"⟩
abbrev cX4_fits : ByteArray := prog_6_method_7_code
def yX4_fits : MethodName := ⟨RX4, "fits", "(II)Z"⟩
abbrev cX4_figureFits : ByteArray := prog_6_method_8_code
def yX4_figureFits : MethodName := ⟨RX4, "figureFits", "(II)Z"⟩
abbrev cX4_depthFits : ByteArray := prog_6_method_9_code
def yX4_depthFits : MethodName := ⟨RX4, "depthFits", "(I)Z"⟩
def RX5 : String := "BowBend$Wood"
def TX5 : u_T := fun k => match k with
  | 0 => ("BowBend$Wood", "e", "I", false)
  | 1 => ("BowBend$Wood", "pull", "I", false)
  | _ => ("BowBend$Wood", "press", "I", false)
def tyX5 : Nat → FieldType := fun k => match k with
  | 0 => .int
  | 1 => .int
  | _ => .int
abbrev wsX50 : List Cond := u_ws RX5 TX5 3
theorem nmX5 : ∀ a, a < 3 → ∀ b, b < 3 → a ≠ b → (TX5 a).2.1 ≠ (TX5 b).2.1 := by decide +kernel
theorem tyX5_ok : ∀ k, k < 3 → parseFieldDescriptor (TX5 k).2.2.1 = some (tyX5 k) := by decide +kernel
abbrev cX5_init : ByteArray := prog_7_method_1_code
def yX5_init : MethodName := ⟨RX5, "<init>", "(III)V"⟩
abbrev cX5_become : ByteArray := prog_7_method_2_code
def yX5_become : MethodName := ⟨RX5, "become", "(III)V"⟩
def RX6 : String := "BowBend"
def TX6 : u_T := fun k => match k with
  | 0 => ("BowBend", "text", "LBowBend$Text;", true)
  | 1 => ("BowBend", "bow", "LBowBend$Bow;", true)
  | 2 => ("BowBend", "search", "LBowBend$Search;", true)
  | _ => ("BowBend", "slots", "[LBowBend$Slot;", true)
def tyX6 : Nat → FieldType := fun k => match k with
  | 0 => .object "BowBend$Text"
  | 1 => .object "BowBend$Bow"
  | 2 => .object "BowBend$Search"
  | _ => .array (.object "BowBend$Slot")
abbrev wsX60 : List Cond := u_ws RX6 TX6 4
theorem nmX6 : ∀ a, a < 4 → ∀ b, b < 4 → a ≠ b → (TX6 a).2.1 ≠ (TX6 b).2.1 := by decide +kernel
theorem tyX6_ok : ∀ k, k < 4 → parseFieldDescriptor (TX6 k).2.2.1 = some (tyX6 k) := by decide +kernel
abbrev cX6_init : ByteArray := prog_1_method_1_code
def yX6_init : MethodName := ⟨RX6, "<init>", "()V"⟩
abbrev cX6_write : ByteArray := prog_1_method_2_code
def yX6_write : MethodName := ⟨RX6, "write", "(IJ)I"⟩
abbrev cX6_wipe : ByteArray := prog_1_method_3_code
def yX6_wipe : MethodName := ⟨RX6, "wipe", "()I"⟩
abbrev cX6_fault : ByteArray := prog_1_method_4_code
def yX6_fault : MethodName := ⟨RX6, "fault", "()I"⟩
abbrev cX6_stave : ByteArray := prog_1_method_5_code
def yX6_stave : MethodName := ⟨RX6, "stave", "()I"⟩
abbrev cX6_wood : ByteArray := prog_1_method_6_code
def yX6_wood : MethodName := ⟨RX6, "wood", "(IIII)I"⟩
abbrev cX6_grown : ByteArray := prog_1_method_7_code
def yX6_grown : MethodName := ⟨RX6, "grown", "(II)I"⟩
abbrev cX6_knot : ByteArray := prog_1_method_8_code
def yX6_knot : MethodName := ⟨RX6, "knot", "(IZ)I"⟩
abbrev cX6_about : ByteArray := prog_1_method_9_code
def yX6_about : MethodName := ⟨RX6, "about", "(II)I"⟩
abbrev cX6_give : ByteArray := prog_1_method_10_code
def yX6_give : MethodName := ⟨RX6, "give", "(I)J"⟩
abbrev cX6_limb : ByteArray := prog_1_method_11_code
def yX6_limb : MethodName := ⟨RX6, "limb", "(I)J"⟩
abbrev cX6_follow : ByteArray := prog_1_method_12_code
def yX6_follow : MethodName := ⟨RX6, "follow", "()I"⟩
abbrev cX6_weight : ByteArray := prog_1_method_13_code
def yX6_weight : MethodName := ⟨RX6, "weight", "(IZ)J"⟩
abbrev cX6_strain : ByteArray := prog_1_method_14_code
def yX6_strain : MethodName := ⟨RX6, "strain", "(II)J"⟩
abbrev cX6_draw : ByteArray := prog_1_method_15_code
def yX6_draw : MethodName := ⟨RX6, "draw", "(I)I"⟩
abbrev cX6_broken : ByteArray := prog_1_method_16_code
def yX6_broken : MethodName := ⟨RX6, "broken", "()I"⟩
abbrev cX6_scrape : ByteArray := prog_1_method_17_code
def yX6_scrape : MethodName := ⟨RX6, "scrape", "(II)I"⟩
abbrev cX6_steam : ByteArray := prog_1_method_18_code
def yX6_steam : MethodName := ⟨RX6, "steam", "(I)I"⟩
abbrev cX6_hinge : ByteArray := prog_1_method_19_code
def yX6_hinge : MethodName := ⟨RX6, "hinge", "(I)I"⟩
abbrev cX6_stiff : ByteArray := prog_1_method_20_code
def yX6_stiff : MethodName := ⟨RX6, "stiff", "(I)I"⟩
abbrev cX6_even : ByteArray := prog_1_method_21_code
def yX6_even : MethodName := ⟨RX6, "even", "(I)I"⟩
abbrev cX6_next : ByteArray := prog_1_method_22_code
def yX6_next : MethodName := ⟨RX6, "next", "(II)I"⟩
abbrev cX6_best : ByteArray := prog_1_method_23_code
def yX6_best : MethodName := ⟨RX6, "best", "(III)I"⟩
abbrev cX6_bestAt : ByteArray := prog_1_method_24_code
def yX6_bestAt : MethodName := ⟨RX6, "bestAt", "(IIII)I"⟩
abbrev cX6_form : ByteArray := prog_1_method_25_code
def yX6_form : MethodName := ⟨RX6, "form", "(III)I"⟩
abbrev cX6_shape : ByteArray := prog_1_method_26_code
def yX6_shape : MethodName := ⟨RX6, "shape", "(II)I"⟩
abbrev cX6_pace : ByteArray := prog_1_method_27_code
def yX6_pace : MethodName := ⟨RX6, "pace", "(IIZ)J"⟩
abbrev cX6_wet : ByteArray := prog_1_method_28_code
def yX6_wet : MethodName := ⟨RX6, "wet", "(IIZ)J"⟩
abbrev cX6_lost : ByteArray := prog_1_method_29_code
def yX6_lost : MethodName := ⟨RX6, "lost", "(IIIIZZ)J"⟩
abbrev cX6_see : ByteArray := prog_1_method_30_code
def yX6_see : MethodName := ⟨RX6, "see", "(II)I"⟩
abbrev cX6_off : ByteArray := prog_1_method_31_code
def yX6_off : MethodName := ⟨RX6, "off", "(I)I"⟩
abbrev cX6_tooStiff : ByteArray := prog_1_method_32_code
def yX6_tooStiff : MethodName := ⟨RX6, "tooStiff", "()I"⟩
abbrev cX6_slips : ByteArray := prog_1_method_33_code
def yX6_slips : MethodName := ⟨RX6, "slips", "(IIIIZ)J"⟩
abbrev cX6_good : ByteArray := prog_1_method_34_code
def yX6_good : MethodName := ⟨RX6, "good", "(IIIZ)J"⟩
abbrev cX6_keep : ByteArray := prog_1_method_35_code
def yX6_keep : MethodName := ⟨RX6, "keep", "(I)I"⟩
abbrev cX6_again : ByteArray := prog_1_method_36_code
def yX6_again : MethodName := ⟨RX6, "again", "(I)I"⟩
abbrev cX6_count : ByteArray := prog_1_method_37_code
def yX6_count : MethodName := ⟨RX6, "count", "(I)I"⟩
abbrev cX6_slotNumbered : ByteArray := prog_1_method_38_code
def yX6_slotNumbered : MethodName := ⟨RX6, "slotNumbered", "(I)LBowBend$Slot;"⟩
abbrev cX6_isOutside : ByteArray := prog_1_method_39_code
def yX6_isOutside : MethodName := ⟨RX6, "isOutside", "(III)Z"⟩
abbrev cX6_isBadDraw : ByteArray := prog_1_method_40_code
def yX6_isBadDraw : MethodName := ⟨RX6, "isBadDraw", "(I)Z"⟩
abbrev cX6_isBadSearch : ByteArray := prog_1_method_41_code
def yX6_isBadSearch : MethodName := ⟨RX6, "isBadSearch", "(III)Z"⟩
abbrev cX6_isBadForm : ByteArray := prog_1_method_42_code
def yX6_isBadForm : MethodName := ⟨RX6, "isBadForm", "(II)Z"⟩
abbrev cX6_quotient : ByteArray := prog_1_method_43_code
def yX6_quotient : MethodName := ⟨RX6, "quotient", "(JJ)J"⟩
abbrev cX6_fractionPart : ByteArray := prog_1_method_44_code
def yX6_fractionPart : MethodName := ⟨RX6, "fractionPart", "(JJZ)J"⟩
abbrev cX6_commonDivisor : ByteArray := prog_1_method_45_code
def yX6_commonDivisor : MethodName := ⟨RX6, "commonDivisor", "(JJ)J"⟩
abbrev cX6_power : ByteArray := prog_1_method_46_code
def yX6_power : MethodName := ⟨RX6, "power", "(JI)J"⟩
abbrev cX6_waysBetween : ByteArray := prog_1_method_47_code
def yX6_waysBetween : MethodName := ⟨RX6, "waysBetween", "(IIII)J"⟩
def RX7 : String := "BowBendModel"
def TX7 : u_T := fun k => match k with
  | 0 => ("BowBendModel", "thrown", "I", false)
  | 1 => ("BowBendModel", "text", "[I", true)
  | 2 => ("BowBendModel", "textSize", "I", false)
  | 3 => ("BowBendModel", "place", "I", false)
  | 4 => ("BowBendModel", "many", "I", false)
  | 5 => ("BowBendModel", "width", "[I", true)
  | 6 => ("BowBendModel", "depth", "[I", true)
  | 7 => ("BowBendModel", "wood", "[I", true)
  | 8 => ("BowBendModel", "sets", "[I", true)
  | 9 => ("BowBendModel", "knots", "[I", true)
  | 10 => ("BowBendModel", "seen", "[I", true)
  | 11 => ("BowBendModel", "broken", "I", false)
  | 12 => ("BowBendModel", "readMany", "I", false)
  | 13 => ("BowBendModel", "readWidth", "[I", true)
  | 14 => ("BowBendModel", "readDepth", "[I", true)
  | 15 => ("BowBendModel", "readWood", "[I", true)
  | 16 => ("BowBendModel", "woods", "[I", true)
  | 17 => ("BowBendModel", "kept", "[I", true)
  | 18 => ("BowBendModel", "isKept", "[Z", true)
  | 19 => ("BowBendModel", "best", "I", false)
  | 20 => ("BowBendModel", "bestMany", "I", false)
  | 21 => ("BowBendModel", "bestAt", "[I", true)
  | 22 => ("BowBendModel", "tried", "[I", true)
  | _ => ("BowBendModel", "gained", "[J", true)
def tyX7 : Nat → FieldType := fun k => match k with
  | 0 => .int
  | 1 => .array .int
  | 2 => .int
  | 3 => .int
  | 4 => .int
  | 5 => .array .int
  | 6 => .array .int
  | 7 => .array .int
  | 8 => .array .int
  | 9 => .array .int
  | 10 => .array .int
  | 11 => .int
  | 12 => .int
  | 13 => .array .int
  | 14 => .array .int
  | 15 => .array .int
  | 16 => .array .int
  | 17 => .array .int
  | 18 => .array .boolean
  | 19 => .int
  | 20 => .int
  | 21 => .array .int
  | 22 => .array .int
  | _ => .array .long
abbrev wsX70 : List Cond := u_ws RX7 TX7 24
theorem nmX7 : ∀ a, a < 24 → ∀ b, b < 24 → a ≠ b → (TX7 a).2.1 ≠ (TX7 b).2.1 := by decide +kernel
theorem tyX7_ok : ∀ k, k < 24 → parseFieldDescriptor (TX7 k).2.2.1 = some (tyX7 k) := by decide +kernel
abbrev cX7_init : ByteArray := prog_9_method_1_code
def yX7_init : MethodName := ⟨RX7, "<init>", "()V"⟩
abbrev cX7_in : ByteArray := prog_9_method_3_code
def yX7_in : MethodName := ⟨RX7, "in", "(JJJ)Z"⟩
abbrev cX7_noPlace : ByteArray := prog_9_method_4_code
def yX7_noPlace : MethodName := ⟨RX7, "noPlace", "(I)Z"⟩
abbrev cX7_index : ByteArray := prog_9_method_5_code
def yX7_index : MethodName := ⟨RX7, "index", "(I)I"⟩
abbrev cX7_code : ByteArray := prog_9_method_6_code
def yX7_code : MethodName := ⟨RX7, "code", "(I)I"⟩
abbrev cX7_isThere : ByteArray := prog_9_method_7_code
def yX7_isThere : MethodName := ⟨RX7, "isThere", "(I)Z"⟩
abbrev cX7_noInches : ByteArray := prog_9_method_8_code
def yX7_noInches : MethodName := ⟨RX7, "noInches", "(I)Z"⟩
abbrev cX7_noWood : ByteArray := prog_9_method_9_code
def yX7_noWood : MethodName := ⟨RX7, "noWood", "(I)Z"⟩
abbrev cX7_write : ByteArray := prog_9_method_10_code
def yX7_write : MethodName := ⟨RX7, "write", "(IJ)I"⟩
abbrev cX7_wipe : ByteArray := prog_9_method_11_code
def yX7_wipe : MethodName := ⟨RX7, "wipe", "()I"⟩
abbrev cX7_figure : ByteArray := prog_9_method_12_code
def yX7_figure : MethodName := ⟨RX7, "figure", "(II)I"⟩
abbrev cX7_readPlace : ByteArray := prog_9_method_13_code
def yX7_readPlace : MethodName := ⟨RX7, "readPlace", "(I)Z"⟩
abbrev cX7_readStave : ByteArray := prog_9_method_14_code
def yX7_readStave : MethodName := ⟨RX7, "readStave", "()I"⟩
abbrev cX7_fault : ByteArray := prog_9_method_15_code
def yX7_fault : MethodName := ⟨RX7, "fault", "()I"⟩
abbrev cX7_stave : ByteArray := prog_9_method_16_code
def yX7_stave : MethodName := ⟨RX7, "stave", "()I"⟩
abbrev cX7_wood : ByteArray := prog_9_method_17_code
def yX7_wood : MethodName := ⟨RX7, "wood", "(IIII)I"⟩
abbrev cX7_grown : ByteArray := prog_9_method_18_code
def yX7_grown : MethodName := ⟨RX7, "grown", "(II)I"⟩
abbrev cX7_knot : ByteArray := prog_9_method_19_code
def yX7_knot : MethodName := ⟨RX7, "knot", "(IZ)I"⟩
abbrev cX7_about : ByteArray := prog_9_method_20_code
def yX7_about : MethodName := ⟨RX7, "about", "(II)I"⟩
abbrev cX7_giveBy : ByteArray := prog_9_method_21_code
def yX7_giveBy : MethodName := ⟨RX7, "giveBy", "(IJ)J"⟩
abbrev cX7_giveOf : ByteArray := prog_9_method_22_code
def yX7_giveOf : MethodName := ⟨RX7, "giveOf", "(I)J"⟩
abbrev cX7_limbOf : ByteArray := prog_9_method_23_code
def yX7_limbOf : MethodName := ⟨RX7, "limbOf", "(I)J"⟩
abbrev cX7_allGive : ByteArray := prog_9_method_24_code
def yX7_allGive : MethodName := ⟨RX7, "allGive", "()J"⟩
abbrev cX7_allSets : ByteArray := prog_9_method_25_code
def yX7_allSets : MethodName := ⟨RX7, "allSets", "()I"⟩
abbrev cX7_pull : ByteArray := prog_9_method_26_code
def yX7_pull : MethodName := ⟨RX7, "pull", "(I)J"⟩
abbrev cX7_told : ByteArray := prog_9_method_27_code
def yX7_told : MethodName := ⟨RX7, "told", "(JJZ)J"⟩
abbrev cX7_strainOf : ByteArray := prog_9_method_28_code
def yX7_strainOf : MethodName := ⟨RX7, "strainOf", "(II)J"⟩
abbrev cX7_give : ByteArray := prog_9_method_29_code
def yX7_give : MethodName := ⟨RX7, "give", "(I)J"⟩
abbrev cX7_limb : ByteArray := prog_9_method_30_code
def yX7_limb : MethodName := ⟨RX7, "limb", "(I)J"⟩
abbrev cX7_follow : ByteArray := prog_9_method_31_code
def yX7_follow : MethodName := ⟨RX7, "follow", "()I"⟩
abbrev cX7_weight : ByteArray := prog_9_method_32_code
def yX7_weight : MethodName := ⟨RX7, "weight", "(IZ)J"⟩
abbrev cX7_strain : ByteArray := prog_9_method_33_code
def yX7_strain : MethodName := ⟨RX7, "strain", "(II)J"⟩
abbrev cX7_pullLine : ByteArray := prog_9_method_34_code
def yX7_pullLine : MethodName := ⟨RX7, "pullLine", "(I)J"⟩
abbrev cX7_draw : ByteArray := prog_9_method_35_code
def yX7_draw : MethodName := ⟨RX7, "draw", "(I)I"⟩
abbrev cX7_broken : ByteArray := prog_9_method_36_code
def yX7_broken : MethodName := ⟨RX7, "broken", "()I"⟩
abbrev cX7_scrape : ByteArray := prog_9_method_37_code
def yX7_scrape : MethodName := ⟨RX7, "scrape", "(II)I"⟩
abbrev cX7_steam : ByteArray := prog_9_method_38_code
def yX7_steam : MethodName := ⟨RX7, "steam", "(I)I"⟩
abbrev cX7_extreme : ByteArray := prog_9_method_39_code
def yX7_extreme : MethodName := ⟨RX7, "extreme", "(IZ)I"⟩
abbrev cX7_evenOf : ByteArray := prog_9_method_40_code
def yX7_evenOf : MethodName := ⟨RX7, "evenOf", "(I)I"⟩
abbrev cX7_hinge : ByteArray := prog_9_method_41_code
def yX7_hinge : MethodName := ⟨RX7, "hinge", "(I)I"⟩
abbrev cX7_stiff : ByteArray := prog_9_method_42_code
def yX7_stiff : MethodName := ⟨RX7, "stiff", "(I)I"⟩
abbrev cX7_even : ByteArray := prog_9_method_43_code
def yX7_even : MethodName := ⟨RX7, "even", "(I)I"⟩
abbrev cX7_isHeavy : ByteArray := prog_9_method_44_code
def yX7_isHeavy : MethodName := ⟨RX7, "isHeavy", "(II)Z"⟩
abbrev cX7_next : ByteArray := prog_9_method_45_code
def yX7_next : MethodName := ⟨RX7, "next", "(II)I"⟩
abbrev cX7_weigh : ByteArray := prog_9_method_46_code
def yX7_weigh : MethodName := ⟨RX7, "weigh", "(III)V"⟩
abbrev cX7_lay : ByteArray := prog_9_method_47_code
def yX7_lay : MethodName := ⟨RX7, "lay", "(II)Z"⟩
abbrev cX7_findBest : ByteArray := prog_9_method_48_code
def yX7_findBest : MethodName := ⟨RX7, "findBest", "(III)V"⟩
abbrev cX7_findThird : ByteArray := prog_9_method_49_code
def yX7_findThird : MethodName := ⟨RX7, "findThird", "(III)V"⟩
abbrev cX7_noSearch : ByteArray := prog_9_method_50_code
def yX7_noSearch : MethodName := ⟨RX7, "noSearch", "(III)Z"⟩
abbrev cX7_best : ByteArray := prog_9_method_51_code
def yX7_best : MethodName := ⟨RX7, "best", "(III)I"⟩
abbrev cX7_bestAt : ByteArray := prog_9_method_52_code
def yX7_bestAt : MethodName := ⟨RX7, "bestAt", "(IIII)I"⟩
abbrev cX7_formOf : ByteArray := prog_9_method_53_code
def yX7_formOf : MethodName := ⟨RX7, "formOf", "(III)I"⟩
abbrev cX7_noForm : ByteArray := prog_9_method_54_code
def yX7_noForm : MethodName := ⟨RX7, "noForm", "(II)Z"⟩
abbrev cX7_form : ByteArray := prog_9_method_55_code
def yX7_form : MethodName := ⟨RX7, "form", "(III)I"⟩
abbrev cX7_shape : ByteArray := prog_9_method_56_code
def yX7_shape : MethodName := ⟨RX7, "shape", "(II)I"⟩
abbrev cX7_pace : ByteArray := prog_9_method_57_code
def yX7_pace : MethodName := ⟨RX7, "pace", "(IIZ)J"⟩
abbrev cX7_wet : ByteArray := prog_9_method_58_code
def yX7_wet : MethodName := ⟨RX7, "wet", "(IIZ)J"⟩
abbrev cX7_lost : ByteArray := prog_9_method_59_code
def yX7_lost : MethodName := ⟨RX7, "lost", "(IIIIZZ)J"⟩
abbrev cX7_see : ByteArray := prog_9_method_60_code
def yX7_see : MethodName := ⟨RX7, "see", "(II)I"⟩
abbrev cX7_allSeen : ByteArray := prog_9_method_61_code
def yX7_allSeen : MethodName := ⟨RX7, "allSeen", "()I"⟩
abbrev cX7_offOf : ByteArray := prog_9_method_62_code
def yX7_offOf : MethodName := ⟨RX7, "offOf", "(I)I"⟩
abbrev cX7_off : ByteArray := prog_9_method_63_code
def yX7_off : MethodName := ⟨RX7, "off", "(I)I"⟩
abbrev cX7_tooStiff : ByteArray := prog_9_method_64_code
def yX7_tooStiff : MethodName := ⟨RX7, "tooStiff", "()I"⟩
abbrev cX7_power : ByteArray := prog_9_method_65_code
def yX7_power : MethodName := ⟨RX7, "power", "(JI)J"⟩
abbrev cX7_just : ByteArray := prog_9_method_66_code
def yX7_just : MethodName := ⟨RX7, "just", "(III)J"⟩
abbrev cX7_slips : ByteArray := prog_9_method_67_code
def yX7_slips : MethodName := ⟨RX7, "slips", "(IIIIZ)J"⟩
abbrev cX7_good : ByteArray := prog_9_method_68_code
def yX7_good : MethodName := ⟨RX7, "good", "(IIIZ)J"⟩
abbrev cX7_keep : ByteArray := prog_9_method_69_code
def yX7_keep : MethodName := ⟨RX7, "keep", "(I)I"⟩
abbrev cX7_again : ByteArray := prog_9_method_70_code
def yX7_again : MethodName := ⟨RX7, "again", "(I)I"⟩
abbrev cX7_count : ByteArray := prog_9_method_71_code
def yX7_count : MethodName := ⟨RX7, "count", "(I)I"⟩
def RL : String := "BowBendLaw"
abbrev cL_law : ByteArray := code
def yL_law : MethodName := ⟨RL, "law", "([I)Z"⟩
abbrev vwCl : List vw_C := [(RX0, TX0, 4), (RX1, TX1, 9), (RX2, TX2, 7), (RX3, TX3, 2), (RX4, TX4, 2), (RX5, TX5, 3), (RX6, TX6, 4), (RX7, TX7, 24)]
/-- the decode rows of a stretch of a method at once -/
def gDec (cc : ByteArray) (l : List (Nat × (Instr × Nat))) : Bool := l.all fun q => decide (decode cc q.1 = .ok q.2)
theorem gDec_at {cc : ByteArray} {l : List (Nat × (Instr × Nat))} (h : gDec cc l = true) (k : Nat) {pc : Nat} {i : Instr} {n : Nat} (hk : l[k]? = some (pc, (i, n))) : decode cc pc = .ok (i, n) := by
  have h2 : decide (decode cc (pc, (i, n)).1 = .ok (pc, (i, n)).2) = true := List.all_eq_true.mp h _ (List.mem_of_getElem? hk)
  show decode cc (pc, (i, n)).1 = .ok (pc, (i, n)).2
  exact of_decide_eq_true h2
theorem DX0_init_0 : gDec cX0_init [(0, (.aload_n 0, 1)), (1, (.invokespecial 3, 3)), (4, (.aload_n 0, 1)), (5, (.iconst 3, 1)), (6, (.anewarray 9, 3)), (9, (.dup, 1)), (10, (.iconst 0, 1)), (11, (.new 9, 3)), (14, (.dup, 1)), (15, (.iconst 5, 1)), (16, (.bipush 60, 2)), (18, (.bipush 40, 2)), (20, (.invokespecial 11, 3)), (23, (.aastore, 1)), (24, (.dup, 1)), (25, (.iconst 1, 1)), (26, (.new 9, 3)), (29, (.dup, 1)), (30, (.bipush 7, 2)), (32, (.bipush 80, 2)), (34, (.bipush 50, 2)), (36, (.invokespecial 11, 3)), (39, (.aastore, 1)), (40, (.dup, 1)), (41, (.iconst 2, 1)), (42, (.new 9, 3)), (45, (.dup, 1)), (46, (.iconst 3, 1)), (47, (.bipush 40, 2)), (49, (.bipush 20, 2)), (51, (.invokespecial 11, 3)), (54, (.aastore, 1)), (55, (.putfield 14, 3)), (58, (.aload_n 0, 1)), (59, (.bipush 12, 2)), (61, (.anewarray 20, 3)), (64, (.putfield 22, 3)), (67, (.iconst 0, 1)), (68, (.istore_n 1, 1)), (69, (.iload_n 1, 1)), (70, (.aload_n 0, 1)), (71, (.getfield 22, 3)), (74, (.arraylength, 1)), (75, (.if_icmp .ge 30, 3)), (78, (.aload_n 0, 1)), (79, (.getfield 22, 3)), (82, (.iload_n 1, 1)), (83, (.new 20, 3)), (86, (.dup, 1)), (87, (.iload_n 1, 1)), (88, (.bipush 6, 2)), (90, (.idiv, 1)), (91, (.iload_n 1, 1)), (92, (.bipush 6, 2)), (94, (.irem, 1)), (95, (.invokespecial 26, 3)), (98, (.aastore, 1)), (99, (.iinc 1 1, 3)), (102, (.goto (-33), 3)), (105, (.aload_n 0, 1)), (106, (.iconst 1, 1)), (107, (.putfield 29, 3)), (110, (.aload_n 0, 1)), (111, (.bipush (-9), 2))] = true := by decide +kernel
theorem DX0_init_1 : gDec cX0_init [(113, (.putfield 33, 3)), (116, (.return_, 1))] = true := by decide +kernel
theorem DX0_makeAnew_0 : gDec cX0_makeAnew [(0, (.aload_n 1, 1)), (1, (.invokevirtual 36, 3)), (4, (.istore_n 2, 1)), (5, (.aload_n 0, 1)), (6, (.iload_n 2, 1)), (7, (.iconst 4, 1)), (8, (.idiv, 1)), (9, (.putfield 29, 3)), (12, (.aload_n 0, 1)), (13, (.bipush (-9), 2)), (15, (.putfield 33, 3)), (18, (.aload_n 0, 1)), (19, (.getfield 22, 3)), (22, (.astore_n 3, 1)), (23, (.aload_n 3, 1)), (24, (.arraylength, 1)), (25, (.istore 4, 2)), (27, (.iconst 0, 1)), (28, (.istore 5, 2)), (30, (.iload 5, 2)), (32, (.iload 4, 2)), (34, (.if_icmp .ge 88, 3)), (37, (.aload_n 3, 1)), (38, (.iload 5, 2)), (40, (.aaload, 1)), (41, (.astore 6, 2)), (43, (.aload_n 0, 1)), (44, (.aload 6, 2)), (46, (.invokevirtual 42, 3)), (49, (.ifCond .eq 67, 3)), (52, (.aload 6, 2)), (54, (.getfield 46, 3)), (57, (.iload_n 2, 1)), (58, (.iconst 1, 1)), (59, (.iadd, 1)), (60, (.imul, 1)), (61, (.iconst 4, 1)), (62, (.aload 6, 2)), (64, (.getfield 49, 3)), (67, (.iconst 1, 1)), (68, (.isub, 1)), (69, (.imul, 1)), (70, (.iadd, 1)), (71, (.istore 7, 2)), (73, (.bipush 10, 2)), (75, (.aload_n 1, 1)), (76, (.iload 7, 2)), (78, (.iconst 1, 1)), (79, (.iadd, 1)), (80, (.invokevirtual 52, 3)), (83, (.imul, 1)), (84, (.aload_n 1, 1)), (85, (.iload 7, 2)), (87, (.iconst 2, 1)), (88, (.iadd, 1)), (89, (.invokevirtual 52, 3)), (92, (.iadd, 1)), (93, (.istore 8, 2)), (95, (.aload 6, 2)), (97, (.aload_n 1, 1)), (98, (.iload 7, 2)), (100, (.invokevirtual 52, 3)), (103, (.iload 8, 2)), (105, (.aload_n 1, 1))] = true := by decide +kernel
theorem DX0_makeAnew_1 : gDec cX0_makeAnew [(106, (.iload 7, 2)), (108, (.iconst 3, 1)), (109, (.iadd, 1)), (110, (.invokevirtual 52, 3)), (113, (.invokevirtual 56, 3)), (116, (.iinc 5 1, 3)), (119, (.goto (-89), 3)), (122, (.return_, 1))] = true := by decide +kernel
theorem DX0_copyFrom_0 : gDec cX0_copyFrom [(0, (.aload_n 0, 1)), (1, (.aload_n 1, 1)), (2, (.getfield 29, 3)), (5, (.putfield 29, 3)), (8, (.aload_n 0, 1)), (9, (.aload_n 1, 1)), (10, (.getfield 33, 3)), (13, (.putfield 33, 3)), (16, (.iconst 0, 1)), (17, (.istore_n 2, 1)), (18, (.iload_n 2, 1)), (19, (.aload_n 0, 1)), (20, (.getfield 14, 3)), (23, (.arraylength, 1)), (24, (.if_icmp .ge 54, 3)), (27, (.iload_n 2, 1)), (28, (.aload_n 1, 1)), (29, (.getfield 14, 3)), (32, (.arraylength, 1)), (33, (.if_icmp .ge 45, 3)), (36, (.aload_n 0, 1)), (37, (.getfield 14, 3)), (40, (.iload_n 2, 1)), (41, (.aaload, 1)), (42, (.aload_n 1, 1)), (43, (.getfield 14, 3)), (46, (.iload_n 2, 1)), (47, (.aaload, 1)), (48, (.getfield 59, 3)), (51, (.aload_n 1, 1)), (52, (.getfield 14, 3)), (55, (.iload_n 2, 1)), (56, (.aaload, 1)), (57, (.getfield 62, 3)), (60, (.aload_n 1, 1)), (61, (.getfield 14, 3)), (64, (.iload_n 2, 1)), (65, (.aaload, 1)), (66, (.getfield 65, 3)), (69, (.invokevirtual 68, 3)), (72, (.iinc 2 1, 3)), (75, (.goto (-57), 3)), (78, (.iconst 0, 1)), (79, (.istore_n 2, 1)), (80, (.iload_n 2, 1)), (81, (.aload_n 0, 1)), (82, (.getfield 22, 3)), (85, (.arraylength, 1)), (86, (.if_icmp .ge 33, 3)), (89, (.iload_n 2, 1)), (90, (.aload_n 1, 1)), (91, (.getfield 22, 3)), (94, (.arraylength, 1)), (95, (.if_icmp .ge 24, 3)), (98, (.aload_n 0, 1)), (99, (.getfield 22, 3)), (102, (.iload_n 2, 1)), (103, (.aaload, 1)), (104, (.aload_n 1, 1)), (105, (.getfield 22, 3)), (108, (.iload_n 2, 1)), (109, (.aaload, 1)), (110, (.invokevirtual 71, 3)), (113, (.iinc 2 1, 3))] = true := by decide +kernel
theorem DX0_copyFrom_1 : gDec cX0_copyFrom [(116, (.goto (-36), 3)), (119, (.return_, 1))] = true := by decide +kernel
theorem DX0_has_0 : gDec cX0_has [(0, (.aload_n 1, 1)), (1, (.getfield 49, 3)), (4, (.aload_n 0, 1)), (5, (.getfield 29, 3)), (8, (.if_icmp .gt 7, 3)), (11, (.iconst 1, 1)), (12, (.goto 4, 3)), (15, (.iconst 0, 1)), (16, (.ireturn, 1))] = true := by decide +kernel
theorem DX0_placeTold_0 : gDec cX0_placeTold [(0, (.aload_n 0, 1)), (1, (.getfield 22, 3)), (4, (.astore_n 2, 1)), (5, (.aload_n 2, 1)), (6, (.arraylength, 1)), (7, (.istore_n 3, 1)), (8, (.iconst 0, 1)), (9, (.istore 4, 2)), (11, (.iload 4, 2)), (13, (.iload_n 3, 1)), (14, (.if_icmp .ge 36, 3)), (17, (.aload_n 2, 1)), (18, (.iload 4, 2)), (20, (.aaload, 1)), (21, (.astore 5, 2)), (23, (.aload 5, 2)), (25, (.getfield 75, 3)), (28, (.iload_n 1, 1)), (29, (.if_icmp .ne 15, 3)), (32, (.aload_n 0, 1)), (33, (.aload 5, 2)), (35, (.invokevirtual 42, 3)), (38, (.ifCond .eq 6, 3)), (41, (.aload 5, 2)), (43, (.areturn, 1)), (44, (.iinc 4 1, 3)), (47, (.goto (-36), 3)), (50, (.aconst_null, 1)), (51, (.areturn, 1))] = true := by decide +kernel
theorem DX0_woodNumbered_0 : gDec cX0_woodNumbered [(0, (.iload_n 1, 1)), (1, (.ifCond .lt 21, 3)), (4, (.iload_n 1, 1)), (5, (.aload_n 0, 1)), (6, (.getfield 14, 3)), (9, (.arraylength, 1)), (10, (.if_icmp .ge 12, 3)), (13, (.aload_n 0, 1)), (14, (.getfield 14, 3)), (17, (.iload_n 1, 1)), (18, (.aaload, 1)), (19, (.goto 4, 3)), (22, (.aconst_null, 1)), (23, (.areturn, 1))] = true := by decide +kernel
theorem DX0_eOf_0 : gDec cX0_eOf [(0, (.aload_n 1, 1)), (1, (.getfield 78, 3)), (4, (.ifCond .lt 31, 3)), (7, (.aload_n 1, 1)), (8, (.getfield 78, 3)), (11, (.aload_n 0, 1)), (12, (.getfield 14, 3)), (15, (.arraylength, 1)), (16, (.if_icmp .ge 19, 3)), (19, (.aload_n 0, 1)), (20, (.getfield 14, 3)), (23, (.aload_n 1, 1)), (24, (.getfield 78, 3)), (27, (.aaload, 1)), (28, (.getfield 59, 3)), (31, (.i2l, 1)), (32, (.goto 4, 3)), (35, (.lconst 1, 1)), (36, (.lreturn, 1))] = true := by decide +kernel
theorem DX0_pullLineOf_0 : gDec cX0_pullLineOf [(0, (.aload_n 0, 1)), (1, (.aload_n 1, 1)), (2, (.getfield 78, 3)), (5, (.invokevirtual 81, 3)), (8, (.astore_n 2, 1)), (9, (.aload_n 2, 1)), (10, (.ifnonnull 5, 3)), (13, (.lconst 0, 1)), (14, (.lreturn, 1)), (15, (.aload_n 1, 1)), (16, (.getfield 85, 3)), (19, (.ifCond .eq 13, 3)), (22, (.aload_n 2, 1)), (23, (.getfield 62, 3)), (26, (.iconst 2, 1)), (27, (.idiv, 1)), (28, (.i2l, 1)), (29, (.goto 8, 3)), (32, (.aload_n 2, 1)), (33, (.getfield 62, 3)), (36, (.i2l, 1)), (37, (.lreturn, 1))] = true := by decide +kernel
theorem DX0_pressLineOf_0 : gDec cX0_pressLineOf [(0, (.aload_n 0, 1)), (1, (.aload_n 1, 1)), (2, (.getfield 78, 3)), (5, (.invokevirtual 81, 3)), (8, (.astore_n 2, 1)), (9, (.aload_n 2, 1)), (10, (.ifnonnull 7, 3)), (13, (.lconst 0, 1)), (14, (.goto 8, 3)), (17, (.aload_n 2, 1)), (18, (.getfield 65, 3)), (21, (.i2l, 1)), (22, (.lreturn, 1))] = true := by decide +kernel
theorem DX0_giveOf_0 : gDec cX0_giveOf [(0, (.aload_n 0, 1)), (1, (.aload_n 1, 1)), (2, (.aload_n 1, 1)), (3, (.getfield 89, 3)), (6, (.i2l, 1)), (7, (.invokevirtual 92, 3)), (10, (.lreturn, 1))] = true := by decide +kernel
theorem DX0_giveAtDepth_0 : gDec cX0_giveAtDepth [(0, (.ldc2_w 96, 3)), (3, (.aload_n 1, 1)), (4, (.getfield 49, 3)), (7, (.i2l, 1)), (8, (.lmul, 1)), (9, (.aload_n 1, 1)), (10, (.getfield 49, 3)), (13, (.i2l, 1)), (14, (.lmul, 1)), (15, (.aload_n 0, 1)), (16, (.aload_n 1, 1)), (17, (.invokevirtual 98, 3)), (20, (.aload_n 1, 1)), (21, (.getfield 102, 3)), (24, (.i2l, 1)), (25, (.lmul, 1)), (26, (.lload_n 2, 1)), (27, (.lmul, 1)), (28, (.lload_n 2, 1)), (29, (.lmul, 1)), (30, (.lload_n 2, 1)), (31, (.lmul, 1)), (32, (.invokestatic 105, 3)), (35, (.lreturn, 1))] = true := by decide +kernel
theorem DX0_limbGives_0 : gDec cX0_limbGives [(0, (.lconst 0, 1)), (1, (.lstore_n 2, 1)), (2, (.aload_n 0, 1)), (3, (.getfield 22, 3)), (6, (.astore 4, 2)), (8, (.aload 4, 2)), (10, (.arraylength, 1)), (11, (.istore 5, 2)), (13, (.iconst 0, 1)), (14, (.istore 6, 2)), (16, (.iload 6, 2)), (18, (.iload 5, 2)), (20, (.if_icmp .ge 43, 3)), (23, (.aload 4, 2)), (25, (.iload 6, 2)), (27, (.aaload, 1)), (28, (.astore 7, 2)), (30, (.aload_n 0, 1)), (31, (.aload 7, 2)), (33, (.invokevirtual 42, 3)), (36, (.ifCond .eq 21, 3)), (39, (.aload 7, 2)), (41, (.getfield 46, 3)), (44, (.iload_n 1, 1)), (45, (.if_icmp .ne 12, 3)), (48, (.lload_n 2, 1)), (49, (.aload_n 0, 1)), (50, (.aload 7, 2)), (52, (.invokevirtual 109, 3)), (55, (.ladd, 1)), (56, (.lstore_n 2, 1)), (57, (.iinc 6 1, 3)), (60, (.goto (-44), 3)), (63, (.lload_n 2, 1)), (64, (.lreturn, 1))] = true := by decide +kernel
theorem DX0_allGives_0 : gDec cX0_allGives [(0, (.aload_n 0, 1)), (1, (.iconst 0, 1)), (2, (.invokevirtual 112, 3)), (5, (.aload_n 0, 1)), (6, (.iconst 1, 1)), (7, (.invokevirtual 112, 3)), (10, (.ladd, 1)), (11, (.lreturn, 1))] = true := by decide +kernel
theorem DX0_givesIfLost_0 : gDec cX0_givesIfLost [(0, (.lconst 0, 1)), (1, (.lstore_n 3, 1)), (2, (.aload_n 0, 1)), (3, (.getfield 22, 3)), (6, (.astore 5, 2)), (8, (.aload 5, 2)), (10, (.arraylength, 1)), (11, (.istore 6, 2)), (13, (.iconst 0, 1)), (14, (.istore 7, 2)), (16, (.iload 7, 2)), (18, (.iload 6, 2)), (20, (.if_icmp .ge 81, 3)), (23, (.aload 5, 2)), (25, (.iload 7, 2)), (27, (.aaload, 1)), (28, (.astore 8, 2)), (30, (.aload_n 0, 1)), (31, (.aload 8, 2)), (33, (.invokevirtual 42, 3)), (36, (.ifCond .eq 59, 3)), (39, (.aload 8, 2)), (41, (.getfield 46, 3)), (44, (.aload_n 1, 1)), (45, (.getfield 46, 3)), (48, (.if_icmp .ne 19, 3)), (51, (.aload 8, 2)), (53, (.getfield 49, 3)), (56, (.aload_n 1, 1)), (57, (.getfield 49, 3)), (60, (.if_icmp .gt 7, 3)), (63, (.iconst 1, 1)), (64, (.goto 4, 3)), (67, (.iconst 0, 1)), (68, (.istore 9, 2)), (70, (.lload_n 3, 1)), (71, (.aload_n 0, 1)), (72, (.aload 8, 2)), (74, (.iload 9, 2)), (76, (.ifCond .eq 8, 3)), (79, (.iload_n 2, 1)), (80, (.i2l, 1)), (81, (.goto 9, 3)), (84, (.aload 8, 2)), (86, (.getfield 89, 3)), (89, (.i2l, 1)), (90, (.invokevirtual 92, 3)), (93, (.ladd, 1)), (94, (.lstore_n 3, 1)), (95, (.iinc 7 1, 3)), (98, (.goto (-82), 3)), (101, (.lload_n 3, 1)), (102, (.lreturn, 1))] = true := by decide +kernel
theorem DX0_followed_0 : gDec cX0_followed [(0, (.aload_n 0, 1)), (1, (.invokevirtual 116, 3)), (4, (.bipush 10, 2)), (6, (.idiv, 1)), (7, (.ireturn, 1))] = true := by decide +kernel
theorem DX0_pullAt_0 : gDec cX0_pullAt [(0, (.ldc2_w 119, 3)), (3, (.iconst 0, 1)), (4, (.iload_n 1, 1)), (5, (.aload_n 0, 1)), (6, (.invokevirtual 121, 3)), (9, (.isub, 1)), (10, (.invokestatic 124, 3)), (13, (.i2l, 1)), (14, (.lmul, 1)), (15, (.lreturn, 1))] = true := by decide +kernel
theorem DX0_weighs_0 : gDec cX0_weighs [(0, (.lload_n 2, 1)), (1, (.iload_n 1, 1)), (2, (.i2l, 1)), (3, (.lload 4, 2)), (5, (.lmul, 1)), (6, (.lcmp, 1)), (7, (.ifCond .lt 7, 3)), (10, (.iconst 1, 1)), (11, (.goto 4, 3)), (14, (.iconst 0, 1)), (15, (.ireturn, 1))] = true := by decide +kernel
theorem DX0_strainOf_0 : gDec cX0_strainOf [(0, (.aload_n 0, 1)), (1, (.aload_n 1, 1)), (2, (.invokevirtual 98, 3)), (5, (.aload_n 1, 1)), (6, (.getfield 102, 3)), (9, (.i2l, 1)), (10, (.lmul, 1)), (11, (.aload_n 1, 1)), (12, (.getfield 89, 3)), (15, (.i2l, 1)), (16, (.lmul, 1)), (17, (.aload_n 1, 1)), (18, (.getfield 89, 3)), (21, (.i2l, 1)), (22, (.lmul, 1)), (23, (.lstore 6, 2)), (25, (.lload_n 2, 1)), (26, (.aload_n 1, 1)), (27, (.getfield 49, 3)), (30, (.i2l, 1)), (31, (.lmul, 1)), (32, (.ldc2_w 130, 3)), (35, (.lmul, 1)), (36, (.lload 4, 2)), (38, (.lload 6, 2)), (40, (.lmul, 1)), (41, (.invokestatic 105, 3)), (44, (.lreturn, 1))] = true := by decide +kernel
theorem DX0_breakingPlace_0 : gDec cX0_breakingPlace [(0, (.aconst_null, 1)), (1, (.astore 5, 2)), (3, (.lconst 0, 1)), (4, (.lstore 6, 2)), (6, (.aload_n 0, 1)), (7, (.getfield 22, 3)), (10, (.astore 8, 2)), (12, (.aload 8, 2)), (14, (.arraylength, 1)), (15, (.istore 9, 2)), (17, (.iconst 0, 1)), (18, (.istore 10, 2)), (20, (.iload 10, 2)), (22, (.iload 9, 2)), (24, (.if_icmp .ge 62, 3)), (27, (.aload 8, 2)), (29, (.iload 10, 2)), (31, (.aaload, 1)), (32, (.astore 11, 2)), (34, (.aload_n 0, 1)), (35, (.aload 11, 2)), (37, (.invokevirtual 42, 3)), (40, (.ifCond .eq 40, 3)), (43, (.aload_n 0, 1)), (44, (.aload 11, 2)), (46, (.lload_n 1, 1)), (47, (.lload_n 3, 1)), (48, (.invokevirtual 132, 3)), (51, (.ldc2_w 136, 3)), (54, (.aload_n 0, 1)), (55, (.aload 11, 2)), (57, (.invokevirtual 138, 3)), (60, (.lmul, 1)), (61, (.lsub, 1)), (62, (.lstore 12, 2)), (64, (.lload 12, 2)), (66, (.lload 6, 2)), (68, (.lcmp, 1)), (69, (.ifCond .le 11, 3)), (72, (.lload 12, 2)), (74, (.lstore 6, 2)), (76, (.aload 11, 2)), (78, (.astore 5, 2)), (80, (.iinc 10 1, 3)), (83, (.goto (-63), 3)), (86, (.aload 5, 2)), (88, (.areturn, 1))] = true := by decide +kernel
theorem DX0_takeSets_0 : gDec cX0_takeSets [(0, (.iconst 0, 1)), (1, (.istore 5, 2)), (3, (.aload_n 0, 1)), (4, (.getfield 22, 3)), (7, (.astore 6, 2)), (9, (.aload 6, 2)), (11, (.arraylength, 1)), (12, (.istore 7, 2)), (14, (.iconst 0, 1)), (15, (.istore 8, 2)), (17, (.iload 8, 2)), (19, (.iload 7, 2)), (21, (.if_icmp .ge 85, 3)), (24, (.aload 6, 2)), (26, (.iload 8, 2)), (28, (.aaload, 1)), (29, (.astore 9, 2)), (31, (.aload_n 0, 1)), (32, (.aload 9, 2)), (34, (.invokevirtual 42, 3)), (37, (.ifCond .eq 63, 3)), (40, (.aload_n 0, 1)), (41, (.aload 9, 2)), (43, (.lload_n 1, 1)), (44, (.lload_n 3, 1)), (45, (.invokevirtual 132, 3)), (48, (.ldc2_w 136, 3)), (51, (.aload_n 0, 1)), (52, (.aload 9, 2)), (54, (.invokevirtual 141, 3)), (57, (.lmul, 1)), (58, (.lsub, 1)), (59, (.lstore 10, 2)), (61, (.lload 10, 2)), (63, (.lconst 0, 1)), (64, (.lcmp, 1)), (65, (.ifCond .le 35, 3)), (68, (.aload 9, 2)), (70, (.ldc2_w 144, 3)), (73, (.aload 9, 2)), (75, (.getfield 146, 3)), (78, (.i2l, 1)), (79, (.lload 10, 2)), (81, (.ldc2_w 149, 3)), (84, (.ladd, 1)), (85, (.ldc2_w 136, 3)), (88, (.ldiv, 1)), (89, (.ladd, 1)), (90, (.invokestatic 151, 3)), (93, (.l2i, 1)), (94, (.putfield 146, 3)), (97, (.iinc 5 1, 3)), (100, (.iinc 8 1, 3)), (103, (.goto (-86), 3)), (106, (.iload 5, 2)), (108, (.ireturn, 1))] = true := by decide +kernel
theorem DX0_extremePlace_0 : gDec cX0_extremePlace [(0, (.aload_n 0, 1)), (1, (.iload_n 1, 1)), (2, (.invokevirtual 154, 3)), (5, (.lstore_n 3, 1)), (6, (.aload_n 0, 1)), (7, (.invokevirtual 157, 3)), (10, (.lstore 5, 2)), (12, (.bipush (-9), 2)), (14, (.istore 7, 2)), (16, (.lconst 0, 1)), (17, (.lstore 8, 2)), (19, (.aload_n 0, 1)), (20, (.getfield 22, 3)), (23, (.astore 10, 2)), (25, (.aload 10, 2)), (27, (.arraylength, 1)), (28, (.istore 11, 2)), (30, (.iconst 0, 1)), (31, (.istore 12, 2)), (33, (.iload 12, 2)), (35, (.iload 11, 2)), (37, (.if_icmp .ge 94, 3)), (40, (.aload 10, 2)), (42, (.iload 12, 2)), (44, (.aaload, 1)), (45, (.astore 13, 2)), (47, (.aload_n 0, 1)), (48, (.aload 13, 2)), (50, (.invokevirtual 42, 3)), (53, (.ifCond .eq 72, 3)), (56, (.aload_n 0, 1)), (57, (.aload 13, 2)), (59, (.lload_n 3, 1)), (60, (.lload 5, 2)), (62, (.invokevirtual 132, 3)), (65, (.lstore 14, 2)), (67, (.iload_n 2, 1)), (68, (.ifCond .eq 19, 3)), (71, (.lload 14, 2)), (73, (.lload 8, 2)), (75, (.lcmp, 1)), (76, (.ifCond .le 7, 3)), (79, (.iconst 1, 1)), (80, (.goto 20, 3)), (83, (.iconst 0, 1)), (84, (.goto 16, 3)), (87, (.lload 14, 2)), (89, (.lload 8, 2)), (91, (.lcmp, 1)), (92, (.ifCond .ge 7, 3)), (95, (.iconst 1, 1)), (96, (.goto 4, 3)), (99, (.iconst 0, 1)), (100, (.istore 16, 2)), (102, (.iload 7, 2)), (104, (.bipush (-9), 2)), (106, (.if_icmp .eq 8, 3)), (109, (.iload 16, 2)), (111, (.ifCond .eq 14, 3)), (114, (.aload 13, 2)), (116, (.getfield 75, 3)), (119, (.istore 7, 2)), (121, (.lload 14, 2)), (123, (.lstore 8, 2))] = true := by decide +kernel
theorem DX0_extremePlace_1 : gDec cX0_extremePlace [(125, (.iinc 12 1, 3)), (128, (.goto (-95), 3)), (131, (.iload 7, 2)), (133, (.ireturn, 1))] = true := by decide +kernel
theorem DX0_evenness_0 : gDec cX0_evenness [(0, (.ldc2_w 163, 3)), (3, (.lstore 5, 2)), (5, (.lconst 0, 1)), (6, (.lstore 7, 2)), (8, (.aload_n 0, 1)), (9, (.getfield 22, 3)), (12, (.astore 9, 2)), (14, (.aload 9, 2)), (16, (.arraylength, 1)), (17, (.istore 10, 2)), (19, (.iconst 0, 1)), (20, (.istore 11, 2)), (22, (.iload 11, 2)), (24, (.iload 10, 2)), (26, (.if_icmp .ge 53, 3)), (29, (.aload 9, 2)), (31, (.iload 11, 2)), (33, (.aaload, 1)), (34, (.astore 12, 2)), (36, (.aload_n 0, 1)), (37, (.aload 12, 2)), (39, (.invokevirtual 42, 3)), (42, (.ifCond .eq 31, 3)), (45, (.aload_n 0, 1)), (46, (.aload 12, 2)), (48, (.lload_n 1, 1)), (49, (.lload_n 3, 1)), (50, (.invokevirtual 132, 3)), (53, (.lstore 13, 2)), (55, (.lload 5, 2)), (57, (.lload 13, 2)), (59, (.invokestatic 151, 3)), (62, (.lstore 5, 2)), (64, (.lload 7, 2)), (66, (.lload 13, 2)), (68, (.invokestatic 165, 3)), (71, (.lstore 7, 2)), (73, (.iinc 11 1, 3)), (76, (.goto (-54), 3)), (79, (.lload 7, 2)), (81, (.lconst 0, 1)), (82, (.lcmp, 1)), (83, (.ifCond .ne 9, 3)), (86, (.sipush 1000, 3)), (89, (.goto 15, 3)), (92, (.ldc2_w 136, 3)), (95, (.lload 5, 2)), (97, (.lmul, 1)), (98, (.lload 7, 2)), (100, (.invokestatic 105, 3)), (103, (.l2i, 1)), (104, (.ireturn, 1))] = true := by decide +kernel
theorem DX0_formDepth_0 : gDec cX0_formDepth [(0, (.ldc2_w 136, 3)), (3, (.iload_n 2, 1)), (4, (.i2l, 1)), (5, (.lmul, 1)), (6, (.aload_n 1, 1)), (7, (.getfield 49, 3)), (10, (.i2l, 1)), (11, (.lmul, 1)), (12, (.lstore 4, 2)), (14, (.iconst 4, 1)), (15, (.istore 6, 2)), (17, (.iload 6, 2)), (19, (.bipush 40, 2)), (21, (.if_icmp .gt 40, 3)), (24, (.lload 4, 2)), (26, (.iload_n 3, 1)), (27, (.i2l, 1)), (28, (.aload_n 0, 1)), (29, (.aload_n 1, 1)), (30, (.invokevirtual 98, 3)), (33, (.lmul, 1)), (34, (.aload_n 1, 1)), (35, (.getfield 102, 3)), (38, (.i2l, 1)), (39, (.lmul, 1)), (40, (.iload 6, 2)), (42, (.i2l, 1)), (43, (.lmul, 1)), (44, (.iload 6, 2)), (46, (.i2l, 1)), (47, (.lmul, 1)), (48, (.lcmp, 1)), (49, (.ifCond .gt 6, 3)), (52, (.iload 6, 2)), (54, (.ireturn, 1)), (55, (.iinc 6 1, 3)), (58, (.goto (-41), 3)), (61, (.bipush (-9), 2)), (63, (.ireturn, 1))] = true := by decide +kernel
theorem DX0_hasForm_0 : gDec cX0_hasForm [(0, (.aload_n 0, 1)), (1, (.getfield 22, 3)), (4, (.astore_n 3, 1)), (5, (.aload_n 3, 1)), (6, (.arraylength, 1)), (7, (.istore 4, 2)), (9, (.iconst 0, 1)), (10, (.istore 5, 2)), (12, (.iload 5, 2)), (14, (.iload 4, 2)), (16, (.if_icmp .ge 39, 3)), (19, (.aload_n 3, 1)), (20, (.iload 5, 2)), (22, (.aaload, 1)), (23, (.astore 6, 2)), (25, (.aload_n 0, 1)), (26, (.aload 6, 2)), (28, (.invokevirtual 42, 3)), (31, (.ifCond .eq 18, 3)), (34, (.aload_n 0, 1)), (35, (.aload 6, 2)), (37, (.iload_n 1, 1)), (38, (.iload_n 2, 1)), (39, (.invokevirtual 167, 3)), (42, (.bipush (-9), 2)), (44, (.if_icmp .ne 5, 3)), (47, (.iconst 0, 1)), (48, (.ireturn, 1)), (49, (.iinc 5 1, 3)), (52, (.goto (-40), 3)), (55, (.iconst 1, 1)), (56, (.ireturn, 1))] = true := by decide +kernel
theorem DX0_takeForm_0 : gDec cX0_takeForm [(0, (.iconst 0, 1)), (1, (.istore_n 3, 1)), (2, (.aload_n 0, 1)), (3, (.getfield 22, 3)), (6, (.astore 4, 2)), (8, (.aload 4, 2)), (10, (.arraylength, 1)), (11, (.istore 5, 2)), (13, (.iconst 0, 1)), (14, (.istore 6, 2)), (16, (.iload 6, 2)), (18, (.iload 5, 2)), (20, (.if_icmp .ge 55, 3)), (23, (.aload 4, 2)), (25, (.iload 6, 2)), (27, (.aaload, 1)), (28, (.astore 7, 2)), (30, (.aload_n 0, 1)), (31, (.aload 7, 2)), (33, (.invokevirtual 42, 3)), (36, (.ifCond .eq 33, 3)), (39, (.aload_n 0, 1)), (40, (.aload 7, 2)), (42, (.iload_n 1, 1)), (43, (.iload_n 2, 1)), (44, (.invokevirtual 167, 3)), (47, (.istore 8, 2)), (49, (.iload 8, 2)), (51, (.aload 7, 2)), (53, (.getfield 89, 3)), (56, (.if_icmp .eq 6, 3)), (59, (.iinc 3 1, 3)), (62, (.aload 7, 2)), (64, (.iload 8, 2)), (66, (.putfield 89, 3)), (69, (.iinc 6 1, 3)), (72, (.goto (-56), 3)), (75, (.iload_n 3, 1)), (76, (.ireturn, 1))] = true := by decide +kernel
theorem DX0_load_0 : gDec cX0_load [(0, (.lconst 0, 1)), (1, (.lstore_n 1, 1)), (2, (.aload_n 0, 1)), (3, (.getfield 22, 3)), (6, (.astore_n 3, 1)), (7, (.aload_n 3, 1)), (8, (.arraylength, 1)), (9, (.istore 4, 2)), (11, (.iconst 0, 1)), (12, (.istore 5, 2)), (14, (.iload 5, 2)), (16, (.iload 4, 2)), (18, (.if_icmp .ge 52, 3)), (21, (.aload_n 3, 1)), (22, (.iload 5, 2)), (24, (.aaload, 1)), (25, (.astore 6, 2)), (27, (.aload_n 0, 1)), (28, (.aload 6, 2)), (30, (.invokevirtual 42, 3)), (33, (.ifCond .eq 31, 3)), (36, (.lload_n 1, 1)), (37, (.aload 6, 2)), (39, (.getfield 102, 3)), (42, (.aload 6, 2)), (44, (.getfield 89, 3)), (47, (.imul, 1)), (48, (.aload_n 0, 1)), (49, (.getfield 29, 3)), (52, (.iconst 1, 1)), (53, (.iadd, 1)), (54, (.aload 6, 2)), (56, (.getfield 49, 3)), (59, (.isub, 1)), (60, (.imul, 1)), (61, (.i2l, 1)), (62, (.ladd, 1)), (63, (.lstore_n 1, 1)), (64, (.iinc 5 1, 3)), (67, (.goto (-53), 3)), (70, (.lload_n 1, 1)), (71, (.ldc2_w 171, 3)), (74, (.ldiv, 1)), (75, (.lreturn, 1))] = true := by decide +kernel
theorem DX0_offBy_0 : gDec cX0_offBy [(0, (.ldc2_w 136, 3)), (3, (.aload_n 1, 1)), (4, (.getfield 173, 3)), (7, (.i2l, 1)), (8, (.lmul, 1)), (9, (.iload_n 2, 1)), (10, (.i2l, 1)), (11, (.invokestatic 105, 3)), (14, (.ldc2_w 136, 3)), (17, (.aload_n 0, 1)), (18, (.aload_n 1, 1)), (19, (.invokevirtual 109, 3)), (22, (.lmul, 1)), (23, (.lload_n 3, 1)), (24, (.invokestatic 105, 3)), (27, (.lsub, 1)), (28, (.l2i, 1)), (29, (.ireturn, 1))] = true := by decide +kernel
theorem DX0_leastOffPlace_0 : gDec cX0_leastOffPlace [(0, (.aload_n 0, 1)), (1, (.invokevirtual 176, 3)), (4, (.istore_n 1, 1)), (5, (.aload_n 0, 1)), (6, (.invokevirtual 157, 3)), (9, (.lstore_n 2, 1)), (10, (.bipush (-9), 2)), (12, (.istore 4, 2)), (14, (.iconst 0, 1)), (15, (.istore 5, 2)), (17, (.aload_n 0, 1)), (18, (.getfield 22, 3)), (21, (.astore 6, 2)), (23, (.aload 6, 2)), (25, (.arraylength, 1)), (26, (.istore 7, 2)), (28, (.iconst 0, 1)), (29, (.istore 8, 2)), (31, (.iload 8, 2)), (33, (.iload 7, 2)), (35, (.if_icmp .ge 64, 3)), (38, (.aload 6, 2)), (40, (.iload 8, 2)), (42, (.aaload, 1)), (43, (.astore 9, 2)), (45, (.aload_n 0, 1)), (46, (.aload 9, 2)), (48, (.invokevirtual 42, 3)), (51, (.ifCond .eq 42, 3)), (54, (.iload_n 1, 1)), (55, (.ifCond .le 38, 3)), (58, (.aload_n 0, 1)), (59, (.aload 9, 2)), (61, (.iload_n 1, 1)), (62, (.lload_n 2, 1)), (63, (.invokevirtual 179, 3)), (66, (.istore 10, 2)), (68, (.iload 4, 2)), (70, (.bipush (-9), 2)), (72, (.if_icmp .eq 10, 3)), (75, (.iload 10, 2)), (77, (.iload 5, 2)), (79, (.if_icmp .ge 14, 3)), (82, (.aload 9, 2)), (84, (.getfield 75, 3)), (87, (.istore 4, 2)), (89, (.iload 10, 2)), (91, (.istore 5, 2)), (93, (.iinc 8 1, 3)), (96, (.goto (-65), 3)), (99, (.iload 4, 2)), (101, (.ireturn, 1))] = true := by decide +kernel
theorem DX0_allKnots_0 : gDec cX0_allKnots [(0, (.iconst 0, 1)), (1, (.istore_n 1, 1)), (2, (.aload_n 0, 1)), (3, (.getfield 22, 3)), (6, (.astore_n 2, 1)), (7, (.aload_n 2, 1)), (8, (.arraylength, 1)), (9, (.istore_n 3, 1)), (10, (.iconst 0, 1)), (11, (.istore 4, 2)), (13, (.iload 4, 2)), (15, (.iload_n 3, 1)), (16, (.if_icmp .ge 35, 3)), (19, (.aload_n 2, 1)), (20, (.iload 4, 2)), (22, (.aaload, 1)), (23, (.astore 5, 2)), (25, (.aload_n 0, 1)), (26, (.aload 5, 2)), (28, (.invokevirtual 42, 3)), (31, (.ifCond .eq 14, 3)), (34, (.aload 5, 2)), (36, (.getfield 85, 3)), (39, (.ifCond .eq 6, 3)), (42, (.iinc 1 1, 3)), (45, (.iinc 4 1, 3)), (48, (.goto (-35), 3)), (51, (.iload_n 1, 1)), (52, (.ireturn, 1))] = true := by decide +kernel
theorem DX0_allSets_0 : gDec cX0_allSets [(0, (.iconst 0, 1)), (1, (.istore_n 1, 1)), (2, (.aload_n 0, 1)), (3, (.getfield 22, 3)), (6, (.astore_n 2, 1)), (7, (.aload_n 2, 1)), (8, (.arraylength, 1)), (9, (.istore_n 3, 1)), (10, (.iconst 0, 1)), (11, (.istore 4, 2)), (13, (.iload 4, 2)), (15, (.iload_n 3, 1)), (16, (.if_icmp .ge 32, 3)), (19, (.aload_n 2, 1)), (20, (.iload 4, 2)), (22, (.aaload, 1)), (23, (.astore 5, 2)), (25, (.aload_n 0, 1)), (26, (.aload 5, 2)), (28, (.invokevirtual 42, 3)), (31, (.ifCond .eq 11, 3)), (34, (.iload_n 1, 1)), (35, (.aload 5, 2)), (37, (.getfield 146, 3)), (40, (.iadd, 1)), (41, (.istore_n 1, 1)), (42, (.iinc 4 1, 3)), (45, (.goto (-32), 3)), (48, (.iload_n 1, 1)), (49, (.ireturn, 1))] = true := by decide +kernel
theorem DX0_allSeen_0 : gDec cX0_allSeen [(0, (.iconst 0, 1)), (1, (.istore_n 1, 1)), (2, (.aload_n 0, 1)), (3, (.getfield 22, 3)), (6, (.astore_n 2, 1)), (7, (.aload_n 2, 1)), (8, (.arraylength, 1)), (9, (.istore_n 3, 1)), (10, (.iconst 0, 1)), (11, (.istore 4, 2)), (13, (.iload 4, 2)), (15, (.iload_n 3, 1)), (16, (.if_icmp .ge 32, 3)), (19, (.aload_n 2, 1)), (20, (.iload 4, 2)), (22, (.aaload, 1)), (23, (.astore 5, 2)), (25, (.aload_n 0, 1)), (26, (.aload 5, 2)), (28, (.invokevirtual 42, 3)), (31, (.ifCond .eq 11, 3)), (34, (.iload_n 1, 1)), (35, (.aload 5, 2)), (37, (.getfield 173, 3)), (40, (.iadd, 1)), (41, (.istore_n 1, 1)), (42, (.iinc 4 1, 3)), (45, (.goto (-32), 3)), (48, (.iload_n 1, 1)), (49, (.ireturn, 1))] = true := by decide +kernel
theorem DX1_init_0 : gDec cX1_init [(0, (.aload_n 0, 1)), (1, (.invokespecial 3, 3)), (4, (.aload_n 0, 1)), (5, (.iload_n 1, 1)), (6, (.putfield 9, 3)), (9, (.aload_n 0, 1)), (10, (.iload_n 2, 1)), (11, (.iconst 1, 1)), (12, (.iadd, 1)), (13, (.putfield 15, 3)), (16, (.aload_n 0, 1)), (17, (.bipush 10, 2)), (19, (.iload_n 1, 1)), (20, (.imul, 1)), (21, (.iload_n 2, 1)), (22, (.iadd, 1)), (23, (.putfield 18, 3)), (26, (.aload_n 0, 1)), (27, (.iconst 5, 1)), (28, (.putfield 21, 3)), (31, (.aload_n 0, 1)), (32, (.bipush 20, 2)), (34, (.putfield 24, 3)), (37, (.return_, 1))] = true := by decide +kernel
theorem DX1_makeAnew_0 : gDec cX1_makeAnew [(0, (.aload_n 0, 1)), (1, (.iload_n 1, 1)), (2, (.putfield 21, 3)), (5, (.aload_n 0, 1)), (6, (.iload_n 2, 1)), (7, (.putfield 24, 3)), (10, (.aload_n 0, 1)), (11, (.iload_n 3, 1)), (12, (.putfield 27, 3)), (15, (.aload_n 0, 1)), (16, (.iconst 0, 1)), (17, (.putfield 30, 3)), (20, (.aload_n 0, 1)), (21, (.iconst 0, 1)), (22, (.putfield 33, 3)), (25, (.aload_n 0, 1)), (26, (.iconst 0, 1)), (27, (.putfield 36, 3)), (30, (.return_, 1))] = true := by decide +kernel
theorem DX1_copyFrom_0 : gDec cX1_copyFrom [(0, (.aload_n 0, 1)), (1, (.aload_n 1, 1)), (2, (.getfield 21, 3)), (5, (.putfield 21, 3)), (8, (.aload_n 0, 1)), (9, (.aload_n 1, 1)), (10, (.getfield 24, 3)), (13, (.putfield 24, 3)), (16, (.aload_n 0, 1)), (17, (.aload_n 1, 1)), (18, (.getfield 27, 3)), (21, (.putfield 27, 3)), (24, (.aload_n 0, 1)), (25, (.aload_n 1, 1)), (26, (.getfield 30, 3)), (29, (.putfield 30, 3)), (32, (.aload_n 0, 1)), (33, (.aload_n 1, 1)), (34, (.getfield 33, 3)), (37, (.putfield 33, 3)), (40, (.aload_n 0, 1)), (41, (.aload_n 1, 1)), (42, (.getfield 36, 3)), (45, (.putfield 36, 3)), (48, (.return_, 1))] = true := by decide +kernel
theorem DX2_init_0 : gDec cX2_init [(0, (.aload_n 0, 1)), (1, (.invokespecial 3, 3)), (4, (.aload_n 0, 1)), (5, (.iconst 3, 1)), (6, (.newarray .int, 2)), (8, (.putfield 9, 3)), (11, (.aload_n 0, 1)), (12, (.iconst 3, 1)), (13, (.newarray .int, 2)), (15, (.putfield 15, 3)), (18, (.aload_n 0, 1)), (19, (.bipush (-9), 2)), (21, (.putfield 18, 3)), (24, (.return_, 1))] = true := by decide +kernel
theorem DX2_nextPlace_0 : gDec cX2_nextPlace [(0, (.aload_n 1, 1)), (1, (.iload_n 2, 1)), (2, (.invokevirtual 22, 3)), (5, (.lstore 4, 2)), (7, (.aload_n 1, 1)), (8, (.lload 4, 2)), (10, (.aload_n 1, 1)), (11, (.invokevirtual 28, 3)), (14, (.invokevirtual 32, 3)), (17, (.istore 6, 2)), (19, (.bipush (-9), 2)), (21, (.istore 7, 2)), (23, (.aload_n 1, 1)), (24, (.getfield 36, 3)), (27, (.astore 8, 2)), (29, (.aload 8, 2)), (31, (.arraylength, 1)), (32, (.istore 9, 2)), (34, (.iconst 0, 1)), (35, (.istore 10, 2)), (37, (.iload 10, 2)), (39, (.iload 9, 2)), (41, (.if_icmp .ge 107, 3)), (44, (.aload 8, 2)), (46, (.iload 10, 2)), (48, (.aaload, 1)), (49, (.astore 11, 2)), (51, (.aload_n 1, 1)), (52, (.aload 11, 2)), (54, (.invokevirtual 40, 3)), (57, (.ifCond .eq 85, 3)), (60, (.aload 11, 2)), (62, (.getfield 44, 3)), (65, (.iconst 4, 1)), (66, (.if_icmp .le 76, 3)), (69, (.aload 11, 2)), (71, (.dup, 1)), (72, (.getfield 44, 3)), (75, (.iconst 1, 1)), (76, (.isub, 1)), (77, (.putfield 44, 3)), (80, (.aload_n 1, 1)), (81, (.invokevirtual 28, 3)), (84, (.lstore 12, 2)), (86, (.aload_n 1, 1)), (87, (.iload_n 3, 1)), (88, (.lload 4, 2)), (90, (.lload 12, 2)), (92, (.invokevirtual 49, 3)), (95, (.ifCond .eq 14, 3)), (98, (.aload_n 1, 1)), (99, (.lload 4, 2)), (101, (.lload 12, 2)), (103, (.invokevirtual 32, 3)), (106, (.goto 5, 3)), (109, (.bipush (-9), 2)), (111, (.istore 14, 2)), (113, (.aload 11, 2)), (115, (.dup, 1)), (116, (.getfield 44, 3)), (119, (.iconst 1, 1)), (120, (.iadd, 1)), (121, (.putfield 44, 3)), (124, (.iload 14, 2))] = true := by decide +kernel
theorem DX2_nextPlace_1 : gDec cX2_nextPlace [(126, (.iload 6, 2)), (128, (.if_icmp .le 14, 3)), (131, (.iload 14, 2)), (133, (.istore 6, 2)), (135, (.aload 11, 2)), (137, (.getfield 53, 3)), (140, (.istore 7, 2)), (142, (.iinc 10 1, 3)), (145, (.goto (-108), 3)), (148, (.iload 7, 2)), (150, (.ireturn, 1))] = true := by decide +kernel
theorem DX2_seek_0 : gDec cX2_seek [(0, (.aload_n 0, 1)), (1, (.aload_n 1, 1)), (2, (.iload_n 2, 1)), (3, (.invokevirtual 22, 3)), (6, (.putfield 56, 3)), (9, (.aload_n 0, 1)), (10, (.iload_n 3, 1)), (11, (.putfield 60, 3)), (14, (.aload_n 0, 1)), (15, (.iload 4, 2)), (17, (.putfield 63, 3)), (20, (.aload_n 0, 1)), (21, (.bipush (-9), 2)), (23, (.putfield 18, 3)), (26, (.aload_n 0, 1)), (27, (.iconst 0, 1)), (28, (.putfield 66, 3)), (31, (.aload_n 0, 1)), (32, (.aload_n 1, 1)), (33, (.iconst 0, 1)), (34, (.iconst 0, 1)), (35, (.aload_n 1, 1)), (36, (.invokevirtual 28, 3)), (39, (.invokestatic 69, 3)), (42, (.return_, 1))] = true := by decide +kernel
theorem DX2_foundPlace_0 : gDec cX2_foundPlace [(0, (.iload_n 1, 1)), (1, (.ifCond .lt 29, 3)), (4, (.iload_n 1, 1)), (5, (.aload_n 0, 1)), (6, (.getfield 66, 3)), (9, (.if_icmp .ge 21, 3)), (12, (.iload_n 1, 1)), (13, (.aload_n 0, 1)), (14, (.getfield 15, 3)), (17, (.arraylength, 1)), (18, (.if_icmp .ge 12, 3)), (21, (.aload_n 0, 1)), (22, (.getfield 15, 3)), (25, (.iload_n 1, 1)), (26, (.iaload, 1)), (27, (.goto 5, 3)), (30, (.bipush (-9), 2)), (32, (.ireturn, 1))] = true := by decide +kernel
theorem DX2_tryWays_0 : gDec cX2_tryWays [(0, (.aload_n 0, 1)), (1, (.aload_n 1, 1)), (2, (.iload_n 3, 1)), (3, (.lload 4, 2)), (5, (.invokevirtual 73, 3)), (8, (.iload_n 3, 1)), (9, (.ifCond .lt 20, 3)), (12, (.iload_n 3, 1)), (13, (.aload_n 0, 1)), (14, (.getfield 63, 3)), (17, (.if_icmp .ge 12, 3)), (20, (.iload_n 3, 1)), (21, (.aload_n 0, 1)), (22, (.getfield 9, 3)), (25, (.arraylength, 1)), (26, (.if_icmp .lt 4, 3)), (29, (.return_, 1)), (30, (.aload_n 1, 1)), (31, (.getfield 36, 3)), (34, (.astore 6, 2)), (36, (.aload 6, 2)), (38, (.arraylength, 1)), (39, (.istore 7, 2)), (41, (.iconst 0, 1)), (42, (.istore 8, 2)), (44, (.iload 8, 2)), (46, (.iload 7, 2)), (48, (.if_icmp .ge 109, 3)), (51, (.aload 6, 2)), (53, (.iload 8, 2)), (55, (.aaload, 1)), (56, (.astore 9, 2)), (58, (.aload_n 1, 1)), (59, (.aload 9, 2)), (61, (.invokevirtual 40, 3)), (64, (.ifCond .eq 87, 3)), (67, (.aload 9, 2)), (69, (.getfield 53, 3)), (72, (.iload_n 2, 1)), (73, (.if_icmp .lt 78, 3)), (76, (.aload 9, 2)), (78, (.getfield 44, 3)), (81, (.iconst 4, 1)), (82, (.if_icmp .le 69, 3)), (85, (.lload 4, 2)), (87, (.aload_n 1, 1)), (88, (.aload 9, 2)), (90, (.invokevirtual 77, 3)), (93, (.lsub, 1)), (94, (.lstore 10, 2)), (96, (.aload 9, 2)), (98, (.dup, 1)), (99, (.getfield 44, 3)), (102, (.iconst 1, 1)), (103, (.isub, 1)), (104, (.putfield 44, 3)), (107, (.aload_n 0, 1)), (108, (.getfield 9, 3)), (111, (.iload_n 3, 1)), (112, (.aload 9, 2)), (114, (.getfield 53, 3)), (117, (.iastore, 1)), (118, (.aload_n 0, 1)), (119, (.aload_n 1, 1))] = true := by decide +kernel
theorem DX2_tryWays_1 : gDec cX2_tryWays [(120, (.aload 9, 2)), (122, (.getfield 53, 3)), (125, (.iload_n 3, 1)), (126, (.iconst 1, 1)), (127, (.iadd, 1)), (128, (.lload 10, 2)), (130, (.aload_n 1, 1)), (131, (.aload 9, 2)), (133, (.invokevirtual 77, 3)), (136, (.ladd, 1)), (137, (.invokestatic 69, 3)), (140, (.aload 9, 2)), (142, (.dup, 1)), (143, (.getfield 44, 3)), (146, (.iconst 1, 1)), (147, (.iadd, 1)), (148, (.putfield 44, 3)), (151, (.iinc 8 1, 3)), (154, (.goto (-110), 3)), (157, (.return_, 1))] = true := by decide +kernel
theorem DX2_judge_0 : gDec cX2_judge [(0, (.aload_n 1, 1)), (1, (.aload_n 0, 1)), (2, (.getfield 60, 3)), (5, (.aload_n 0, 1)), (6, (.getfield 56, 3)), (9, (.lload_n 3, 1)), (10, (.invokevirtual 49, 3)), (13, (.ifCond .ne 4, 3)), (16, (.return_, 1)), (17, (.aload_n 1, 1)), (18, (.aload_n 0, 1)), (19, (.getfield 56, 3)), (22, (.lload_n 3, 1)), (23, (.invokevirtual 32, 3)), (26, (.istore 5, 2)), (28, (.iload 5, 2)), (30, (.aload_n 0, 1)), (31, (.getfield 18, 3)), (34, (.if_icmp .gt 20, 3)), (37, (.iload 5, 2)), (39, (.aload_n 0, 1)), (40, (.getfield 18, 3)), (43, (.if_icmp .ne 48, 3)), (46, (.iload_n 2, 1)), (47, (.aload_n 0, 1)), (48, (.getfield 66, 3)), (51, (.if_icmp .ge 40, 3)), (54, (.aload_n 0, 1)), (55, (.iload 5, 2)), (57, (.putfield 18, 3)), (60, (.aload_n 0, 1)), (61, (.iload_n 2, 1)), (62, (.putfield 66, 3)), (65, (.aload_n 0, 1)), (66, (.getfield 9, 3)), (69, (.iconst 0, 1)), (70, (.aload_n 0, 1)), (71, (.getfield 15, 3)), (74, (.iconst 0, 1)), (75, (.aload_n 0, 1)), (76, (.getfield 9, 3)), (79, (.arraylength, 1)), (80, (.aload_n 0, 1)), (81, (.getfield 15, 3)), (84, (.arraylength, 1)), (85, (.invokestatic 81, 3)), (88, (.invokestatic 87, 3)), (91, (.return_, 1))] = true := by decide +kernel
theorem DX3_init_0 : gDec cX3_init [(0, (.aload_n 0, 1)), (1, (.invokespecial 1, 3)), (4, (.aload_n 0, 1)), (5, (.new 7, 3)), (8, (.dup, 1)), (9, (.invokespecial 9, 3)), (12, (.putfield 10, 3)), (15, (.aload_n 0, 1)), (16, (.iconst 0, 1)), (17, (.putfield 16, 3)), (20, (.return_, 1))] = true := by decide +kernel
theorem DX4_init_0 : gDec cX4_init [(0, (.aload_n 0, 1)), (1, (.invokespecial 3, 3)), (4, (.aload_n 0, 1)), (5, (.bipush 60, 2)), (7, (.newarray .int, 2)), (9, (.putfield 9, 3)), (12, (.aload_n 0, 1)), (13, (.iconst 0, 1)), (14, (.putfield 15, 3)), (17, (.return_, 1))] = true := by decide +kernel
theorem DX4_append_0 : gDec cX4_append [(0, (.aload_n 0, 1)), (1, (.getfield 15, 3)), (4, (.ifCond .lt 35, 3)), (7, (.aload_n 0, 1)), (8, (.getfield 15, 3)), (11, (.aload_n 0, 1)), (12, (.getfield 9, 3)), (15, (.arraylength, 1)), (16, (.if_icmp .ge 23, 3)), (19, (.aload_n 0, 1)), (20, (.getfield 9, 3)), (23, (.aload_n 0, 1)), (24, (.getfield 15, 3)), (27, (.iload_n 1, 1)), (28, (.iastore, 1)), (29, (.aload_n 0, 1)), (30, (.dup, 1)), (31, (.getfield 15, 3)), (34, (.iconst 1, 1)), (35, (.iadd, 1)), (36, (.putfield 15, 3)), (39, (.return_, 1))] = true := by decide +kernel
theorem DX4_signAt_0 : gDec cX4_signAt [(0, (.iload_n 1, 1)), (1, (.ifCond .lt 29, 3)), (4, (.iload_n 1, 1)), (5, (.aload_n 0, 1)), (6, (.getfield 15, 3)), (9, (.if_icmp .ge 21, 3)), (12, (.iload_n 1, 1)), (13, (.aload_n 0, 1)), (14, (.getfield 9, 3)), (17, (.arraylength, 1)), (18, (.if_icmp .ge 12, 3)), (21, (.aload_n 0, 1)), (22, (.getfield 9, 3)), (25, (.iload_n 1, 1)), (26, (.iaload, 1)), (27, (.goto 5, 3)), (30, (.bipush (-9), 2)), (32, (.ireturn, 1))] = true := by decide +kernel
theorem DX4_figureAt_0 : gDec cX4_figureAt [(0, (.aload_n 0, 1)), (1, (.iload_n 1, 1)), (2, (.invokevirtual 19, 3)), (5, (.bipush 48, 2)), (7, (.isub, 1)), (8, (.ireturn, 1))] = true := by decide +kernel
theorem DX4_firstFault_0 : gDec cX4_firstFault [(0, (.aload_n 0, 1)), (1, (.invokevirtual 23, 3)), (4, (.istore_n 1, 1)), (5, (.iconst 0, 1)), (6, (.istore_n 2, 1)), (7, (.iload_n 2, 1)), (8, (.aload_n 0, 1)), (9, (.getfield 15, 3)), (12, (.if_icmp .ge 20, 3)), (15, (.aload_n 0, 1)), (16, (.iload_n 2, 1)), (17, (.iload_n 1, 1)), (18, (.invokevirtual 27, 3)), (21, (.ifCond .ne 5, 3)), (24, (.iload_n 2, 1)), (25, (.ireturn, 1)), (26, (.iinc 2 1, 3)), (29, (.goto (-22), 3)), (32, (.iload_n 1, 1)), (33, (.bipush (-9), 2)), (35, (.if_icmp .eq 20, 3)), (38, (.aload_n 0, 1)), (39, (.getfield 15, 3)), (42, (.iconst 2, 1)), (43, (.iload_n 1, 1)), (44, (.imul, 1)), (45, (.iconst 1, 1)), (46, (.iadd, 1)), (47, (.if_icmp .ne 8, 3)), (50, (.bipush (-9), 2)), (52, (.goto 7, 3)), (55, (.aload_n 0, 1)), (56, (.getfield 15, 3)), (59, (.ireturn, 1))] = true := by decide +kernel
theorem DX4_slashAt_0 : gDec cX4_slashAt [(0, (.iconst 1, 1)), (1, (.istore_n 1, 1)), (2, (.iload_n 1, 1)), (3, (.bipush 6, 2)), (5, (.if_icmp .gt 25, 3)), (8, (.aload_n 0, 1)), (9, (.iconst 4, 1)), (10, (.iload_n 1, 1)), (11, (.imul, 1)), (12, (.invokevirtual 19, 3)), (15, (.bipush 47, 2)), (17, (.if_icmp .ne 7, 3)), (20, (.iconst 4, 1)), (21, (.iload_n 1, 1)), (22, (.imul, 1)), (23, (.ireturn, 1)), (24, (.iinc 1 1, 3)), (27, (.goto (-25), 3)), (30, (.bipush (-9), 2)), (32, (.ireturn, 1))] = true := by decide +kernel
theorem DX4_fits_0 : gDec cX4_fits [(0, (.iload_n 2, 1)), (1, (.bipush (-9), 2)), (3, (.if_icmp .eq 8, 3)), (6, (.iload_n 1, 1)), (7, (.iload_n 2, 1)), (8, (.if_icmp .ge 26, 3)), (11, (.iload_n 1, 1)), (12, (.bipush 24, 2)), (14, (.if_icmp .ge 18, 3)), (17, (.aload_n 0, 1)), (18, (.iload_n 1, 1)), (19, (.iload_n 1, 1)), (20, (.iconst 4, 1)), (21, (.irem, 1)), (22, (.invokevirtual 31, 3)), (25, (.ifCond .eq 7, 3)), (28, (.iconst 1, 1)), (29, (.goto 4, 3)), (32, (.iconst 0, 1)), (33, (.ireturn, 1)), (34, (.iload_n 1, 1)), (35, (.iload_n 2, 1)), (36, (.if_icmp .eq 25, 3)), (39, (.iload_n 1, 1)), (40, (.iconst 2, 1)), (41, (.iload_n 2, 1)), (42, (.imul, 1)), (43, (.if_icmp .gt 22, 3)), (46, (.aload_n 0, 1)), (47, (.iload_n 1, 1)), (48, (.iload_n 1, 1)), (49, (.iload_n 2, 1)), (50, (.isub, 1)), (51, (.iconst 1, 1)), (52, (.isub, 1)), (53, (.iconst 4, 1)), (54, (.irem, 1)), (55, (.invokevirtual 31, 3)), (58, (.ifCond .eq 7, 3)), (61, (.iconst 1, 1)), (62, (.goto 4, 3)), (65, (.iconst 0, 1)), (66, (.ireturn, 1))] = true := by decide +kernel
theorem DX4_figureFits_0 : gDec cX4_figureFits [(0, (.aload_n 0, 1)), (1, (.iload_n 1, 1)), (2, (.invokevirtual 34, 3)), (5, (.istore_n 3, 1)), (6, (.iload_n 2, 1)), (7, (.tableswitch 92 0 2 #[25, 42, 57], 25)), (32, (.iload_n 3, 1)), (33, (.iconst 1, 1)), (34, (.if_icmp .lt 13, 3)), (37, (.iload_n 3, 1)), (38, (.bipush 9, 2)), (40, (.if_icmp .gt 7, 3)), (43, (.iconst 1, 1)), (44, (.goto 4, 3)), (47, (.iconst 0, 1)), (48, (.ireturn, 1)), (49, (.iload_n 3, 1)), (50, (.ifCond .lt 12, 3)), (53, (.iload_n 3, 1)), (54, (.iconst 4, 1)), (55, (.if_icmp .gt 7, 3)), (58, (.iconst 1, 1)), (59, (.goto 4, 3)), (62, (.iconst 0, 1)), (63, (.ireturn, 1)), (64, (.iload_n 3, 1)), (65, (.ifCond .lt 32, 3)), (68, (.iload_n 3, 1)), (69, (.bipush 9, 2)), (71, (.if_icmp .gt 26, 3)), (74, (.aload_n 0, 1)), (75, (.bipush 10, 2)), (77, (.aload_n 0, 1)), (78, (.iload_n 1, 1)), (79, (.iconst 1, 1)), (80, (.isub, 1)), (81, (.invokevirtual 34, 3)), (84, (.imul, 1)), (85, (.iload_n 3, 1)), (86, (.iadd, 1)), (87, (.invokevirtual 37, 3)), (90, (.ifCond .eq 7, 3)), (93, (.iconst 1, 1)), (94, (.goto 4, 3)), (97, (.iconst 0, 1)), (98, (.ireturn, 1)), (99, (.iload_n 3, 1)), (100, (.ifCond .lt 12, 3)), (103, (.iload_n 3, 1)), (104, (.iconst 2, 1)), (105, (.if_icmp .gt 7, 3)), (108, (.iconst 1, 1)), (109, (.goto 4, 3)), (112, (.iconst 0, 1)), (113, (.ireturn, 1))] = true := by decide +kernel
theorem DX4_depthFits_0 : gDec cX4_depthFits [(0, (.iload_n 1, 1)), (1, (.iconst 4, 1)), (2, (.if_icmp .lt 13, 3)), (5, (.iload_n 1, 1)), (6, (.bipush 40, 2)), (8, (.if_icmp .gt 7, 3)), (11, (.iconst 1, 1)), (12, (.goto 4, 3)), (15, (.iconst 0, 1)), (16, (.ireturn, 1))] = true := by decide +kernel
theorem DX5_init_0 : gDec cX5_init [(0, (.aload_n 0, 1)), (1, (.invokespecial 1, 3)), (4, (.aload_n 0, 1)), (5, (.iload_n 1, 1)), (6, (.putfield 7, 3)), (9, (.aload_n 0, 1)), (10, (.iload_n 2, 1)), (11, (.putfield 13, 3)), (14, (.aload_n 0, 1)), (15, (.iload_n 3, 1)), (16, (.putfield 16, 3)), (19, (.return_, 1))] = true := by decide +kernel
theorem DX5_become_0 : gDec cX5_become [(0, (.aload_n 0, 1)), (1, (.iload_n 1, 1)), (2, (.putfield 7, 3)), (5, (.aload_n 0, 1)), (6, (.iload_n 2, 1)), (7, (.putfield 13, 3)), (10, (.aload_n 0, 1)), (11, (.iload_n 3, 1)), (12, (.putfield 16, 3)), (15, (.return_, 1))] = true := by decide +kernel
theorem DX6_init_0 : gDec cX6_init [(0, (.aload_n 0, 1)), (1, (.invokespecial 1, 3)), (4, (.aload_n 0, 1)), (5, (.new 7, 3)), (8, (.dup, 1)), (9, (.invokespecial 9, 3)), (12, (.putfield 10, 3)), (15, (.aload_n 0, 1)), (16, (.new 16, 3)), (19, (.dup, 1)), (20, (.invokespecial 18, 3)), (23, (.putfield 19, 3)), (26, (.aload_n 0, 1)), (27, (.new 23, 3)), (30, (.dup, 1)), (31, (.invokespecial 25, 3)), (34, (.putfield 26, 3)), (37, (.aload_n 0, 1)), (38, (.iconst 2, 1)), (39, (.anewarray 30, 3)), (42, (.dup, 1)), (43, (.iconst 0, 1)), (44, (.new 30, 3)), (47, (.dup, 1)), (48, (.invokespecial 32, 3)), (51, (.aastore, 1)), (52, (.dup, 1)), (53, (.iconst 1, 1)), (54, (.new 30, 3)), (57, (.dup, 1)), (58, (.invokespecial 32, 3)), (61, (.aastore, 1)), (62, (.putfield 33, 3)), (65, (.return_, 1))] = true := by decide +kernel
theorem DX6_write_0 : gDec cX6_write [(0, (.iload_n 1, 1)), (1, (.iconst 1, 1)), (2, (.if_icmp .lt 9, 3)), (5, (.iload_n 1, 1)), (6, (.bipush 8, 2)), (8, (.if_icmp .le 6, 3)), (11, (.bipush (-2), 2)), (13, (.ireturn, 1)), (14, (.iload_n 1, 1)), (15, (.bipush 60, 2)), (17, (.aload_n 0, 1)), (18, (.getfield 10, 3)), (21, (.getfield 37, 3)), (24, (.isub, 1)), (25, (.if_icmp .le 6, 3)), (28, (.bipush (-4), 2)), (30, (.ireturn, 1)), (31, (.iload_n 1, 1)), (32, (.iconst 1, 1)), (33, (.isub, 1)), (34, (.istore 4, 2)), (36, (.iload 4, 2)), (38, (.ifCond .lt 28, 3)), (41, (.aload_n 0, 1)), (42, (.getfield 10, 3)), (45, (.lload_n 2, 1)), (46, (.bipush 8, 2)), (48, (.iload 4, 2)), (50, (.imul, 1)), (51, (.lushr, 1)), (52, (.l2i, 1)), (53, (.sipush 255, 3)), (56, (.iand, 1)), (57, (.invokevirtual 41, 3)), (60, (.iinc 4 (-1), 3)), (63, (.goto (-27), 3)), (66, (.aload_n 0, 1)), (67, (.getfield 10, 3)), (70, (.getfield 37, 3)), (73, (.ireturn, 1))] = true := by decide +kernel
theorem DX6_wipe_0 : gDec cX6_wipe [(0, (.aload_n 0, 1)), (1, (.getfield 10, 3)), (4, (.getfield 37, 3)), (7, (.istore_n 1, 1)), (8, (.aload_n 0, 1)), (9, (.getfield 10, 3)), (12, (.iconst 0, 1)), (13, (.putfield 37, 3)), (16, (.iload_n 1, 1)), (17, (.ireturn, 1))] = true := by decide +kernel
theorem DX6_fault_0 : gDec cX6_fault [(0, (.aload_n 0, 1)), (1, (.getfield 10, 3)), (4, (.invokevirtual 45, 3)), (7, (.ireturn, 1))] = true := by decide +kernel
theorem DX6_stave_0 : gDec cX6_stave [(0, (.aload_n 0, 1)), (1, (.getfield 10, 3)), (4, (.invokevirtual 45, 3)), (7, (.bipush (-9), 2)), (9, (.if_icmp .eq 6, 3)), (12, (.bipush (-3), 2)), (14, (.ireturn, 1)), (15, (.aload_n 0, 1)), (16, (.getfield 19, 3)), (19, (.aload_n 0, 1)), (20, (.getfield 10, 3)), (23, (.invokevirtual 49, 3)), (26, (.aload_n 0, 1)), (27, (.getfield 19, 3)), (30, (.getfield 53, 3)), (33, (.ireturn, 1))] = true := by decide +kernel
theorem DX6_wood_0 : gDec cX6_wood [(0, (.aload_n 0, 1)), (1, (.getfield 19, 3)), (4, (.iload_n 1, 1)), (5, (.invokevirtual 56, 3)), (8, (.astore 5, 2)), (10, (.aload 5, 2)), (12, (.ifnonnull 5, 3)), (15, (.iconst (-1), 1)), (16, (.ireturn, 1)), (17, (.iload_n 2, 1)), (18, (.iconst 1, 1)), (19, (.bipush 9, 2)), (21, (.invokestatic 60, 3)), (24, (.ifCond .ne 24, 3)), (27, (.iload_n 3, 1)), (28, (.iconst 1, 1)), (29, (.bipush 99, 2)), (31, (.invokestatic 60, 3)), (34, (.ifCond .ne 14, 3)), (37, (.iload 4, 2)), (39, (.iconst 1, 1)), (40, (.bipush 99, 2)), (42, (.invokestatic 60, 3)), (45, (.ifCond .eq 6, 3)), (48, (.bipush (-2), 2)), (50, (.ireturn, 1)), (51, (.aload 5, 2)), (53, (.getfield 64, 3)), (56, (.istore 6, 2)), (58, (.aload 5, 2)), (60, (.iload_n 2, 1)), (61, (.iload_n 3, 1)), (62, (.iload 4, 2)), (64, (.invokevirtual 69, 3)), (67, (.iload 6, 2)), (69, (.ireturn, 1))] = true := by decide +kernel
theorem DX6_grown_0 : gDec cX6_grown [(0, (.aload_n 0, 1)), (1, (.getfield 19, 3)), (4, (.iload_n 1, 1)), (5, (.invokevirtual 56, 3)), (8, (.astore_n 3, 1)), (9, (.aload_n 3, 1)), (10, (.ifnonnull 5, 3)), (13, (.iconst (-1), 1)), (14, (.ireturn, 1)), (15, (.iload_n 2, 1)), (16, (.tableswitch 43 0 2 #[28, 33, 38], 28)), (44, (.aload_n 3, 1)), (45, (.getfield 64, 3)), (48, (.ireturn, 1)), (49, (.aload_n 3, 1)), (50, (.getfield 73, 3)), (53, (.ireturn, 1)), (54, (.aload_n 3, 1)), (55, (.getfield 76, 3)), (58, (.ireturn, 1)), (59, (.bipush (-2), 2)), (61, (.ireturn, 1))] = true := by decide +kernel
theorem DX6_knot_0 : gDec cX6_knot [(0, (.aload_n 0, 1)), (1, (.getfield 19, 3)), (4, (.iload_n 1, 1)), (5, (.invokevirtual 79, 3)), (8, (.astore_n 3, 1)), (9, (.aload_n 3, 1)), (10, (.ifnonnull 5, 3)), (13, (.iconst (-1), 1)), (14, (.ireturn, 1)), (15, (.aload_n 3, 1)), (16, (.getfield 83, 3)), (19, (.iload_n 2, 1)), (20, (.if_icmp .ne 7, 3)), (23, (.iconst 0, 1)), (24, (.goto 4, 3)), (27, (.iconst 1, 1)), (28, (.istore 4, 2)), (30, (.aload_n 3, 1)), (31, (.iload_n 2, 1)), (32, (.putfield 83, 3)), (35, (.iload 4, 2)), (37, (.ireturn, 1))] = true := by decide +kernel
theorem DX6_about_0 : gDec cX6_about [(0, (.aload_n 0, 1)), (1, (.getfield 19, 3)), (4, (.iload_n 1, 1)), (5, (.invokevirtual 79, 3)), (8, (.astore_n 3, 1)), (9, (.aload_n 3, 1)), (10, (.ifnonnull 5, 3)), (13, (.iconst (-1), 1)), (14, (.ireturn, 1)), (15, (.iload_n 2, 1)), (16, (.tableswitch 78 0 5 #[40, 45, 50, 55, 60, 73], 40)), (56, (.aload_n 3, 1)), (57, (.getfield 89, 3)), (60, (.ireturn, 1)), (61, (.aload_n 3, 1)), (62, (.getfield 92, 3)), (65, (.ireturn, 1)), (66, (.aload_n 3, 1)), (67, (.getfield 95, 3)), (70, (.ireturn, 1)), (71, (.aload_n 3, 1)), (72, (.getfield 98, 3)), (75, (.ireturn, 1)), (76, (.aload_n 3, 1)), (77, (.getfield 83, 3)), (80, (.ifCond .eq 7, 3)), (83, (.iconst 1, 1)), (84, (.goto 4, 3)), (87, (.iconst 0, 1)), (88, (.ireturn, 1)), (89, (.aload_n 3, 1)), (90, (.getfield 101, 3)), (93, (.ireturn, 1)), (94, (.bipush (-2), 2)), (96, (.ireturn, 1))] = true := by decide +kernel
theorem DX6_give_0 : gDec cX6_give [(0, (.aload_n 0, 1)), (1, (.getfield 19, 3)), (4, (.iload_n 1, 1)), (5, (.invokevirtual 79, 3)), (8, (.astore_n 2, 1)), (9, (.aload_n 2, 1)), (10, (.ifnonnull 9, 3)), (13, (.ldc2_w 104, 3)), (16, (.goto 11, 3)), (19, (.aload_n 0, 1)), (20, (.getfield 19, 3)), (23, (.aload_n 2, 1)), (24, (.invokevirtual 106, 3)), (27, (.lreturn, 1))] = true := by decide +kernel
theorem DX6_limb_0 : gDec cX6_limb [(0, (.iload_n 1, 1)), (1, (.iconst 0, 1)), (2, (.iconst 1, 1)), (3, (.invokestatic 60, 3)), (6, (.ifCond .eq 9, 3)), (9, (.ldc2_w 104, 3)), (12, (.goto 11, 3)), (15, (.aload_n 0, 1)), (16, (.getfield 19, 3)), (19, (.iload_n 1, 1)), (20, (.invokevirtual 110, 3)), (23, (.lreturn, 1))] = true := by decide +kernel
theorem DX6_follow_0 : gDec cX6_follow [(0, (.aload_n 0, 1)), (1, (.getfield 19, 3)), (4, (.invokevirtual 114, 3)), (7, (.ireturn, 1))] = true := by decide +kernel
theorem DX6_weight_0 : gDec cX6_weight [(0, (.iload_n 1, 1)), (1, (.invokestatic 117, 3)), (4, (.ifCond .eq 7, 3)), (7, (.ldc2_w 121, 3)), (10, (.lreturn, 1)), (11, (.aload_n 0, 1)), (12, (.getfield 19, 3)), (15, (.iload_n 1, 1)), (16, (.invokevirtual 123, 3)), (19, (.aload_n 0, 1)), (20, (.getfield 19, 3)), (23, (.invokevirtual 126, 3)), (26, (.iload_n 2, 1)), (27, (.invokestatic 130, 3)), (30, (.lreturn, 1))] = true := by decide +kernel
theorem DX6_strain_0 : gDec cX6_strain [(0, (.aload_n 0, 1)), (1, (.getfield 19, 3)), (4, (.iload_n 1, 1)), (5, (.invokevirtual 79, 3)), (8, (.astore_n 3, 1)), (9, (.aload_n 3, 1)), (10, (.ifnonnull 7, 3)), (13, (.ldc2_w 104, 3)), (16, (.lreturn, 1)), (17, (.iload_n 2, 1)), (18, (.invokestatic 117, 3)), (21, (.ifCond .eq 7, 3)), (24, (.ldc2_w 121, 3)), (27, (.lreturn, 1)), (28, (.aload_n 0, 1)), (29, (.getfield 19, 3)), (32, (.aload_n 3, 1)), (33, (.aload_n 0, 1)), (34, (.getfield 19, 3)), (37, (.iload_n 2, 1)), (38, (.invokevirtual 123, 3)), (41, (.aload_n 0, 1)), (42, (.getfield 19, 3)), (45, (.invokevirtual 126, 3)), (48, (.invokevirtual 134, 3)), (51, (.lreturn, 1))] = true := by decide +kernel
theorem DX6_draw_0 : gDec cX6_draw [(0, (.iload_n 1, 1)), (1, (.invokestatic 117, 3)), (4, (.ifCond .eq 6, 3)), (7, (.bipush (-2), 2)), (9, (.ireturn, 1)), (10, (.aload_n 0, 1)), (11, (.getfield 19, 3)), (14, (.getfield 138, 3)), (17, (.bipush (-9), 2)), (19, (.if_icmp .eq 6, 3)), (22, (.bipush (-3), 2)), (24, (.ireturn, 1)), (25, (.aload_n 0, 1)), (26, (.getfield 19, 3)), (29, (.iload_n 1, 1)), (30, (.invokevirtual 123, 3)), (33, (.lstore_n 2, 1)), (34, (.aload_n 0, 1)), (35, (.getfield 19, 3)), (38, (.invokevirtual 126, 3)), (41, (.lstore 4, 2)), (43, (.aload_n 0, 1)), (44, (.getfield 19, 3)), (47, (.lload_n 2, 1)), (48, (.lload 4, 2)), (50, (.invokevirtual 141, 3)), (53, (.astore 6, 2)), (55, (.aload 6, 2)), (57, (.ifnull 24, 3)), (60, (.aload_n 0, 1)), (61, (.getfield 19, 3)), (64, (.aload 6, 2)), (66, (.getfield 145, 3)), (69, (.putfield 138, 3)), (72, (.bipush 100, 2)), (74, (.aload 6, 2)), (76, (.getfield 145, 3)), (79, (.iadd, 1)), (80, (.ireturn, 1)), (81, (.aload_n 0, 1)), (82, (.getfield 19, 3)), (85, (.lload_n 2, 1)), (86, (.lload 4, 2)), (88, (.invokevirtual 148, 3)), (91, (.ireturn, 1))] = true := by decide +kernel
theorem DX6_broken_0 : gDec cX6_broken [(0, (.aload_n 0, 1)), (1, (.getfield 19, 3)), (4, (.getfield 138, 3)), (7, (.ireturn, 1))] = true := by decide +kernel
theorem DX6_scrape_0 : gDec cX6_scrape [(0, (.aload_n 0, 1)), (1, (.getfield 19, 3)), (4, (.iload_n 1, 1)), (5, (.invokevirtual 79, 3)), (8, (.astore_n 3, 1)), (9, (.aload_n 3, 1)), (10, (.ifnonnull 5, 3)), (13, (.iconst (-1), 1)), (14, (.ireturn, 1)), (15, (.iload_n 2, 1)), (16, (.iconst 1, 1)), (17, (.bipush 9, 2)), (19, (.invokestatic 60, 3)), (22, (.ifCond .eq 6, 3)), (25, (.bipush (-2), 2)), (27, (.ireturn, 1)), (28, (.aload_n 0, 1)), (29, (.getfield 19, 3)), (32, (.getfield 138, 3)), (35, (.bipush (-9), 2)), (37, (.if_icmp .ne 13, 3)), (40, (.aload_n 3, 1)), (41, (.getfield 92, 3)), (44, (.iload_n 2, 1)), (45, (.isub, 1)), (46, (.iconst 4, 1)), (47, (.if_icmp .ge 6, 3)), (50, (.bipush (-3), 2)), (52, (.ireturn, 1)), (53, (.aload_n 3, 1)), (54, (.dup, 1)), (55, (.getfield 92, 3)), (58, (.iload_n 2, 1)), (59, (.isub, 1)), (60, (.putfield 92, 3)), (63, (.aload_n 3, 1)), (64, (.getfield 92, 3)), (67, (.ireturn, 1))] = true := by decide +kernel
theorem DX6_steam_0 : gDec cX6_steam [(0, (.aload_n 0, 1)), (1, (.getfield 19, 3)), (4, (.iload_n 1, 1)), (5, (.invokevirtual 79, 3)), (8, (.astore_n 2, 1)), (9, (.aload_n 2, 1)), (10, (.ifnonnull 5, 3)), (13, (.iconst (-1), 1)), (14, (.ireturn, 1)), (15, (.aload_n 0, 1)), (16, (.getfield 19, 3)), (19, (.getfield 138, 3)), (22, (.bipush (-9), 2)), (24, (.if_icmp .eq 6, 3)), (27, (.bipush (-3), 2)), (29, (.ireturn, 1)), (30, (.aload_n 2, 1)), (31, (.aload_n 2, 1)), (32, (.getfield 98, 3)), (35, (.iconst 2, 1)), (36, (.idiv, 1)), (37, (.putfield 98, 3)), (40, (.aload_n 2, 1)), (41, (.getfield 98, 3)), (44, (.ireturn, 1))] = true := by decide +kernel
theorem DX6_hinge_0 : gDec cX6_hinge [(0, (.iload_n 1, 1)), (1, (.invokestatic 117, 3)), (4, (.ifCond .eq 8, 3)), (7, (.bipush (-2), 2)), (9, (.goto 12, 3)), (12, (.aload_n 0, 1)), (13, (.getfield 19, 3)), (16, (.iload_n 1, 1)), (17, (.iconst 1, 1)), (18, (.invokevirtual 152, 3)), (21, (.ireturn, 1))] = true := by decide +kernel
theorem DX6_stiff_0 : gDec cX6_stiff [(0, (.iload_n 1, 1)), (1, (.invokestatic 117, 3)), (4, (.ifCond .eq 8, 3)), (7, (.bipush (-2), 2)), (9, (.goto 12, 3)), (12, (.aload_n 0, 1)), (13, (.getfield 19, 3)), (16, (.iload_n 1, 1)), (17, (.iconst 0, 1)), (18, (.invokevirtual 152, 3)), (21, (.ireturn, 1))] = true := by decide +kernel
theorem DX6_even_0 : gDec cX6_even [(0, (.iload_n 1, 1)), (1, (.invokestatic 117, 3)), (4, (.ifCond .eq 8, 3)), (7, (.bipush (-2), 2)), (9, (.goto 25, 3)), (12, (.aload_n 0, 1)), (13, (.getfield 19, 3)), (16, (.aload_n 0, 1)), (17, (.getfield 19, 3)), (20, (.iload_n 1, 1)), (21, (.invokevirtual 123, 3)), (24, (.aload_n 0, 1)), (25, (.getfield 19, 3)), (28, (.invokevirtual 126, 3)), (31, (.invokevirtual 156, 3)), (34, (.ireturn, 1))] = true := by decide +kernel
theorem DX6_next_0 : gDec cX6_next [(0, (.iload_n 1, 1)), (1, (.invokestatic 117, 3)), (4, (.ifCond .ne 14, 3)), (7, (.iload_n 2, 1)), (8, (.iconst 0, 1)), (9, (.sipush 999, 3)), (12, (.invokestatic 60, 3)), (15, (.ifCond .eq 6, 3)), (18, (.bipush (-2), 2)), (20, (.ireturn, 1)), (21, (.aload_n 0, 1)), (22, (.getfield 26, 3)), (25, (.aload_n 0, 1)), (26, (.getfield 19, 3)), (29, (.iload_n 1, 1)), (30, (.iload_n 2, 1)), (31, (.invokevirtual 159, 3)), (34, (.ireturn, 1))] = true := by decide +kernel
theorem DX6_best_0 : gDec cX6_best [(0, (.iload_n 1, 1)), (1, (.iload_n 2, 1)), (2, (.iload_n 3, 1)), (3, (.invokestatic 163, 3)), (6, (.ifCond .eq 6, 3)), (9, (.bipush (-2), 2)), (11, (.ireturn, 1)), (12, (.aload_n 0, 1)), (13, (.getfield 26, 3)), (16, (.aload_n 0, 1)), (17, (.getfield 19, 3)), (20, (.iload_n 1, 1)), (21, (.iload_n 2, 1)), (22, (.iload_n 3, 1)), (23, (.invokevirtual 166, 3)), (26, (.aload_n 0, 1)), (27, (.getfield 26, 3)), (30, (.getfield 170, 3)), (33, (.ireturn, 1))] = true := by decide +kernel
theorem DX6_bestAt_0 : gDec cX6_bestAt [(0, (.iload_n 1, 1)), (1, (.iload_n 2, 1)), (2, (.iload_n 3, 1)), (3, (.invokestatic 163, 3)), (6, (.ifCond .eq 6, 3)), (9, (.bipush (-2), 2)), (11, (.ireturn, 1)), (12, (.aload_n 0, 1)), (13, (.getfield 26, 3)), (16, (.aload_n 0, 1)), (17, (.getfield 19, 3)), (20, (.iload_n 1, 1)), (21, (.iload_n 2, 1)), (22, (.iload_n 3, 1)), (23, (.invokevirtual 166, 3)), (26, (.aload_n 0, 1)), (27, (.getfield 26, 3)), (30, (.iload 4, 2)), (32, (.invokevirtual 173, 3)), (35, (.ireturn, 1))] = true := by decide +kernel
theorem DX6_form_0 : gDec cX6_form [(0, (.aload_n 0, 1)), (1, (.getfield 19, 3)), (4, (.iload_n 1, 1)), (5, (.invokevirtual 79, 3)), (8, (.astore 4, 2)), (10, (.aload 4, 2)), (12, (.ifnonnull 5, 3)), (15, (.iconst (-1), 1)), (16, (.ireturn, 1)), (17, (.iload_n 2, 1)), (18, (.iload_n 3, 1)), (19, (.invokestatic 177, 3)), (22, (.ifCond .eq 8, 3)), (25, (.bipush (-2), 2)), (27, (.goto 14, 3)), (30, (.aload_n 0, 1)), (31, (.getfield 19, 3)), (34, (.aload 4, 2)), (36, (.iload_n 2, 1)), (37, (.iload_n 3, 1)), (38, (.invokevirtual 181, 3)), (41, (.ireturn, 1))] = true := by decide +kernel
theorem DX6_shape_0 : gDec cX6_shape [(0, (.iload_n 1, 1)), (1, (.iload_n 2, 1)), (2, (.invokestatic 177, 3)), (5, (.ifCond .eq 6, 3)), (8, (.bipush (-2), 2)), (10, (.ireturn, 1)), (11, (.aload_n 0, 1)), (12, (.getfield 19, 3)), (15, (.iload_n 1, 1)), (16, (.iload_n 2, 1)), (17, (.invokevirtual 185, 3)), (20, (.ifCond .eq 15, 3)), (23, (.aload_n 0, 1)), (24, (.getfield 19, 3)), (27, (.iload_n 1, 1)), (28, (.iload_n 2, 1)), (29, (.invokevirtual 188, 3)), (32, (.goto 5, 3)), (35, (.bipush (-3), 2)), (37, (.ireturn, 1))] = true := by decide +kernel
theorem DX6_pace_0 : gDec cX6_pace [(0, (.iload_n 1, 1)), (1, (.iconst 1, 1)), (2, (.bipush 99, 2)), (4, (.invokestatic 60, 3)), (7, (.ifCond .ne 10, 3)), (10, (.iload_n 2, 1)), (11, (.invokestatic 117, 3)), (14, (.ifCond .eq 7, 3)), (17, (.ldc2_w 121, 3)), (20, (.lreturn, 1)), (21, (.aload_n 0, 1)), (22, (.getfield 19, 3)), (25, (.iload_n 2, 1)), (26, (.invokevirtual 123, 3)), (29, (.iload_n 2, 1)), (30, (.i2l, 1)), (31, (.lmul, 1)), (32, (.aload_n 0, 1)), (33, (.getfield 19, 3)), (36, (.invokevirtual 126, 3)), (39, (.iload_n 1, 1)), (40, (.i2l, 1)), (41, (.aload_n 0, 1)), (42, (.getfield 19, 3)), (45, (.invokevirtual 192, 3)), (48, (.ladd, 1)), (49, (.lmul, 1)), (50, (.iload_n 3, 1)), (51, (.invokestatic 130, 3)), (54, (.lreturn, 1))] = true := by decide +kernel
theorem DX6_wet_0 : gDec cX6_wet [(0, (.iload_n 1, 1)), (1, (.iconst 0, 1)), (2, (.bipush 50, 2)), (4, (.invokestatic 60, 3)), (7, (.ifCond .ne 10, 3)), (10, (.iload_n 2, 1)), (11, (.invokestatic 117, 3)), (14, (.ifCond .eq 7, 3)), (17, (.ldc2_w 121, 3)), (20, (.lreturn, 1)), (21, (.aload_n 0, 1)), (22, (.getfield 19, 3)), (25, (.iload_n 2, 1)), (26, (.invokevirtual 123, 3)), (29, (.bipush 100, 2)), (31, (.iload_n 1, 1)), (32, (.isub, 1)), (33, (.i2l, 1)), (34, (.lmul, 1)), (35, (.aload_n 0, 1)), (36, (.getfield 19, 3)), (39, (.invokevirtual 126, 3)), (42, (.ldc2_w 195, 3)), (45, (.lmul, 1)), (46, (.iload_n 3, 1)), (47, (.invokestatic 130, 3)), (50, (.lreturn, 1))] = true := by decide +kernel
theorem DX6_lost_0 : gDec cX6_lost [(0, (.aload_n 0, 1)), (1, (.getfield 19, 3)), (4, (.iload_n 1, 1)), (5, (.invokevirtual 79, 3)), (8, (.astore 7, 2)), (10, (.aload 7, 2)), (12, (.ifnonnull 7, 3)), (15, (.ldc2_w 104, 3)), (18, (.lreturn, 1)), (19, (.iload_n 2, 1)), (20, (.iconst 4, 1)), (21, (.bipush 40, 2)), (23, (.invokestatic 60, 3)), (26, (.ifCond .ne 21, 3)), (29, (.iload_n 3, 1)), (30, (.iload_n 2, 1)), (31, (.bipush 40, 2)), (33, (.invokestatic 60, 3)), (36, (.ifCond .ne 11, 3)), (39, (.iload 4, 2)), (41, (.invokestatic 117, 3)), (44, (.ifCond .eq 7, 3)), (47, (.ldc2_w 121, 3)), (50, (.lreturn, 1)), (51, (.aload_n 0, 1)), (52, (.getfield 19, 3)), (55, (.iload 4, 2)), (57, (.invokevirtual 123, 3)), (60, (.aload_n 0, 1)), (61, (.getfield 19, 3)), (64, (.aload 7, 2)), (66, (.iload 5, 2)), (68, (.ifCond .eq 7, 3)), (71, (.iload_n 3, 1)), (72, (.goto 4, 3)), (75, (.iload_n 2, 1)), (76, (.invokevirtual 197, 3)), (79, (.iload 6, 2)), (81, (.invokestatic 130, 3)), (84, (.lreturn, 1))] = true := by decide +kernel
theorem DX6_see_0 : gDec cX6_see [(0, (.aload_n 0, 1)), (1, (.getfield 19, 3)), (4, (.iload_n 1, 1)), (5, (.invokevirtual 79, 3)), (8, (.astore_n 3, 1)), (9, (.aload_n 3, 1)), (10, (.ifnonnull 5, 3)), (13, (.iconst (-1), 1)), (14, (.ireturn, 1)), (15, (.iload_n 2, 1)), (16, (.iconst 0, 1)), (17, (.bipush 99, 2)), (19, (.invokestatic 60, 3)), (22, (.ifCond .eq 6, 3)), (25, (.bipush (-2), 2)), (27, (.ireturn, 1)), (28, (.aload_n 3, 1)), (29, (.getfield 101, 3)), (32, (.istore 4, 2)), (34, (.aload_n 3, 1)), (35, (.iload_n 2, 1)), (36, (.putfield 101, 3)), (39, (.iload 4, 2)), (41, (.ireturn, 1))] = true := by decide +kernel
theorem DX6_off_0 : gDec cX6_off [(0, (.aload_n 0, 1)), (1, (.getfield 19, 3)), (4, (.iload_n 1, 1)), (5, (.invokevirtual 79, 3)), (8, (.astore_n 2, 1)), (9, (.aload_n 2, 1)), (10, (.ifnonnull 5, 3)), (13, (.iconst (-1), 1)), (14, (.ireturn, 1)), (15, (.aload_n 0, 1)), (16, (.getfield 19, 3)), (19, (.invokevirtual 201, 3)), (22, (.istore_n 3, 1)), (23, (.iload_n 3, 1)), (24, (.ifCond .ne 8, 3)), (27, (.bipush (-3), 2)), (29, (.goto 23, 3)), (32, (.aload_n 0, 1)), (33, (.getfield 19, 3)), (36, (.aload_n 2, 1)), (37, (.iload_n 3, 1)), (38, (.aload_n 0, 1)), (39, (.getfield 19, 3)), (42, (.invokevirtual 126, 3)), (45, (.invokevirtual 204, 3)), (48, (.sipush 1000, 3)), (51, (.iadd, 1)), (52, (.ireturn, 1))] = true := by decide +kernel
theorem DX6_tooStiff_0 : gDec cX6_tooStiff [(0, (.aload_n 0, 1)), (1, (.getfield 19, 3)), (4, (.invokevirtual 208, 3)), (7, (.ireturn, 1))] = true := by decide +kernel
theorem DX6_slips_0 : gDec cX6_slips [(0, (.aload_n 0, 1)), (1, (.getfield 19, 3)), (4, (.iload_n 1, 1)), (5, (.invokevirtual 79, 3)), (8, (.astore 6, 2)), (10, (.aload 6, 2)), (12, (.ifnonnull 7, 3)), (15, (.ldc2_w 104, 3)), (18, (.lreturn, 1)), (19, (.iload_n 2, 1)), (20, (.iconst 1, 1)), (21, (.bipush 12, 2)), (23, (.invokestatic 60, 3)), (26, (.ifCond .ne 24, 3)), (29, (.iload_n 3, 1)), (30, (.iconst 0, 1)), (31, (.bipush 10, 2)), (33, (.invokestatic 60, 3)), (36, (.ifCond .ne 14, 3)), (39, (.iload 4, 2)), (41, (.iconst 0, 1)), (42, (.bipush 40, 2)), (44, (.invokestatic 60, 3)), (47, (.ifCond .eq 7, 3)), (50, (.ldc2_w 121, 3)), (53, (.lreturn, 1)), (54, (.iload_n 2, 1)), (55, (.iload_n 3, 1)), (56, (.iconst 0, 1)), (57, (.aload 6, 2)), (59, (.getfield 92, 3)), (62, (.iload_n 2, 1)), (63, (.isub, 1)), (64, (.iload 4, 2)), (66, (.isub, 1)), (67, (.invokestatic 211, 3)), (70, (.ldc2_w 215, 3)), (73, (.iload_n 2, 1)), (74, (.invokestatic 217, 3)), (77, (.iload 5, 2)), (79, (.invokestatic 130, 3)), (82, (.lreturn, 1))] = true := by decide +kernel
theorem DX6_good_0 : gDec cX6_good [(0, (.iload_n 1, 1)), (1, (.iconst 1, 1)), (2, (.bipush 12, 2)), (4, (.invokestatic 60, 3)), (7, (.ifCond .ne 22, 3)), (10, (.iload_n 2, 1)), (11, (.iconst 0, 1)), (12, (.bipush 10, 2)), (14, (.invokestatic 60, 3)), (17, (.ifCond .ne 12, 3)), (20, (.iload_n 3, 1)), (21, (.iconst 0, 1)), (22, (.iload_n 1, 1)), (23, (.invokestatic 60, 3)), (26, (.ifCond .eq 7, 3)), (29, (.ldc2_w 121, 3)), (32, (.lreturn, 1)), (33, (.iload_n 1, 1)), (34, (.iload_n 2, 1)), (35, (.iload_n 3, 1)), (36, (.iload_n 1, 1)), (37, (.invokestatic 211, 3)), (40, (.ldc2_w 215, 3)), (43, (.iload_n 1, 1)), (44, (.invokestatic 217, 3)), (47, (.iload 4, 2)), (49, (.invokestatic 130, 3)), (52, (.lreturn, 1))] = true := by decide +kernel
theorem DX6_keep_0 : gDec cX6_keep [(0, (.aload_n 0, 1)), (1, (.iload_n 1, 1)), (2, (.invokevirtual 221, 3)), (5, (.astore_n 2, 1)), (6, (.aload_n 2, 1)), (7, (.ifnonnull 5, 3)), (10, (.iconst (-1), 1)), (11, (.ireturn, 1)), (12, (.aload_n 2, 1)), (13, (.getfield 225, 3)), (16, (.aload_n 0, 1)), (17, (.getfield 19, 3)), (20, (.invokevirtual 226, 3)), (23, (.aload_n 2, 1)), (24, (.iconst 1, 1)), (25, (.putfield 230, 3)), (28, (.aload_n 0, 1)), (29, (.getfield 19, 3)), (32, (.getfield 53, 3)), (35, (.ireturn, 1))] = true := by decide +kernel
theorem DX6_again_0 : gDec cX6_again [(0, (.aload_n 0, 1)), (1, (.iload_n 1, 1)), (2, (.invokevirtual 221, 3)), (5, (.astore_n 2, 1)), (6, (.aload_n 2, 1)), (7, (.ifnonnull 5, 3)), (10, (.iconst (-1), 1)), (11, (.ireturn, 1)), (12, (.aload_n 2, 1)), (13, (.getfield 230, 3)), (16, (.ifCond .ne 6, 3)), (19, (.bipush (-3), 2)), (21, (.ireturn, 1)), (22, (.aload_n 0, 1)), (23, (.getfield 19, 3)), (26, (.aload_n 2, 1)), (27, (.getfield 225, 3)), (30, (.invokevirtual 226, 3)), (33, (.aload_n 0, 1)), (34, (.getfield 19, 3)), (37, (.getfield 53, 3)), (40, (.ireturn, 1))] = true := by decide +kernel
theorem DX6_count_0 : gDec cX6_count [(0, (.iload_n 1, 1)), (1, (.tableswitch 75 0 4 #[35, 43, 51, 59, 67], 35)), (36, (.aload_n 0, 1)), (37, (.getfield 10, 3)), (40, (.getfield 37, 3)), (43, (.ireturn, 1)), (44, (.aload_n 0, 1)), (45, (.getfield 19, 3)), (48, (.getfield 53, 3)), (51, (.ireturn, 1)), (52, (.aload_n 0, 1)), (53, (.getfield 19, 3)), (56, (.invokevirtual 233, 3)), (59, (.ireturn, 1)), (60, (.aload_n 0, 1)), (61, (.getfield 19, 3)), (64, (.invokevirtual 236, 3)), (67, (.ireturn, 1)), (68, (.aload_n 0, 1)), (69, (.getfield 19, 3)), (72, (.invokevirtual 201, 3)), (75, (.ireturn, 1)), (76, (.bipush (-2), 2)), (78, (.ireturn, 1))] = true := by decide +kernel
theorem DX6_slotNumbered_0 : gDec cX6_slotNumbered [(0, (.iload_n 1, 1)), (1, (.ifCond .lt 21, 3)), (4, (.iload_n 1, 1)), (5, (.aload_n 0, 1)), (6, (.getfield 33, 3)), (9, (.arraylength, 1)), (10, (.if_icmp .ge 12, 3)), (13, (.aload_n 0, 1)), (14, (.getfield 33, 3)), (17, (.iload_n 1, 1)), (18, (.aaload, 1)), (19, (.goto 4, 3)), (22, (.aconst_null, 1)), (23, (.areturn, 1))] = true := by decide +kernel
theorem DX6_isOutside_0 : gDec cX6_isOutside [(0, (.iload_n 0, 1)), (1, (.iload_n 1, 1)), (2, (.if_icmp .lt 8, 3)), (5, (.iload_n 0, 1)), (6, (.iload_n 2, 1)), (7, (.if_icmp .le 7, 3)), (10, (.iconst 1, 1)), (11, (.goto 4, 3)), (14, (.iconst 0, 1)), (15, (.ireturn, 1))] = true := by decide +kernel
theorem DX6_isBadDraw_0 : gDec cX6_isBadDraw [(0, (.iload_n 0, 1)), (1, (.iconst 0, 1)), (2, (.bipush 40, 2)), (4, (.invokestatic 60, 3)), (7, (.ireturn, 1))] = true := by decide +kernel
theorem DX6_isBadSearch_0 : gDec cX6_isBadSearch [(0, (.iload_n 0, 1)), (1, (.invokestatic 117, 3)), (4, (.ifCond .ne 23, 3)), (7, (.iload_n 1, 1)), (8, (.iconst 0, 1)), (9, (.sipush 999, 3)), (12, (.invokestatic 60, 3)), (15, (.ifCond .ne 12, 3)), (18, (.iload_n 2, 1)), (19, (.iconst 1, 1)), (20, (.iconst 3, 1)), (21, (.invokestatic 60, 3)), (24, (.ifCond .eq 7, 3)), (27, (.iconst 1, 1)), (28, (.goto 4, 3)), (31, (.iconst 0, 1)), (32, (.ireturn, 1))] = true := by decide +kernel
theorem DX6_isBadForm_0 : gDec cX6_isBadForm [(0, (.iload_n 0, 1)), (1, (.iconst 1, 1)), (2, (.sipush 999, 3)), (5, (.invokestatic 60, 3)), (8, (.ifCond .ne 13, 3)), (11, (.iload_n 1, 1)), (12, (.iconst 1, 1)), (13, (.bipush 99, 2)), (15, (.invokestatic 60, 3)), (18, (.ifCond .eq 7, 3)), (21, (.iconst 1, 1)), (22, (.goto 4, 3)), (25, (.iconst 0, 1)), (26, (.ireturn, 1))] = true := by decide +kernel
theorem DX6_quotient_0 : gDec cX6_quotient [(0, (.lload_n 2, 1)), (1, (.lconst 0, 1)), (2, (.lcmp, 1)), (3, (.ifCond .le 9, 3)), (6, (.lload_n 0, 1)), (7, (.lload_n 2, 1)), (8, (.ldiv, 1)), (9, (.goto 4, 3)), (12, (.lconst 0, 1)), (13, (.lreturn, 1))] = true := by decide +kernel
theorem DX6_fractionPart_0 : gDec cX6_fractionPart [(0, (.iload 4, 2)), (2, (.ifCond .eq 7, 3)), (5, (.lload_n 0, 1)), (6, (.goto 4, 3)), (9, (.lload_n 2, 1)), (10, (.lload_n 0, 1)), (11, (.lload_n 2, 1)), (12, (.invokestatic 239, 3)), (15, (.invokestatic 243, 3)), (18, (.lreturn, 1))] = true := by decide +kernel
theorem DX6_commonDivisor_0 : gDec cX6_commonDivisor [(0, (.lload_n 0, 1)), (1, (.lstore 4, 2)), (3, (.lload_n 2, 1)), (4, (.lstore 6, 2)), (6, (.iconst 0, 1)), (7, (.istore 8, 2)), (9, (.iload 8, 2)), (11, (.sipush 1000, 3)), (14, (.if_icmp .ge 31, 3)), (17, (.lload 6, 2)), (19, (.lconst 0, 1)), (20, (.lcmp, 1)), (21, (.ifCond .eq 24, 3)), (24, (.lload 4, 2)), (26, (.lload 6, 2)), (28, (.lrem, 1)), (29, (.lstore 9, 2)), (31, (.lload 6, 2)), (33, (.lstore 4, 2)), (35, (.lload 9, 2)), (37, (.lstore 6, 2)), (39, (.iinc 8 1, 3)), (42, (.goto (-33), 3)), (45, (.lload 4, 2)), (47, (.lreturn, 1))] = true := by decide +kernel
theorem DX6_power_0 : gDec cX6_power [(0, (.lconst 1, 1)), (1, (.lstore_n 3, 1)), (2, (.iconst 0, 1)), (3, (.istore 5, 2)), (5, (.iload 5, 2)), (7, (.iload_n 2, 1)), (8, (.if_icmp .ge 13, 3)), (11, (.lload_n 3, 1)), (12, (.lload_n 0, 1)), (13, (.lmul, 1)), (14, (.lstore_n 3, 1)), (15, (.iinc 5 1, 3)), (18, (.goto (-13), 3)), (21, (.lload_n 3, 1)), (22, (.lreturn, 1))] = true := by decide +kernel
theorem DX6_waysBetween_0 : gDec cX6_waysBetween [(0, (.lconst 0, 1)), (1, (.lstore 4, 2)), (3, (.lconst 1, 1)), (4, (.lstore 6, 2)), (6, (.iconst 0, 1)), (7, (.istore 8, 2)), (9, (.iload 8, 2)), (11, (.iload_n 0, 1)), (12, (.if_icmp .gt 67, 3)), (15, (.iload 8, 2)), (17, (.iload_n 2, 1)), (18, (.if_icmp .lt 37, 3)), (21, (.iload 8, 2)), (23, (.iload_n 3, 1)), (24, (.if_icmp .gt 31, 3)), (27, (.lload 4, 2)), (29, (.lload 6, 2)), (31, (.iload_n 1, 1)), (32, (.i2l, 1)), (33, (.iload 8, 2)), (35, (.invokestatic 217, 3)), (38, (.lmul, 1)), (39, (.bipush 10, 2)), (41, (.iload_n 1, 1)), (42, (.isub, 1)), (43, (.i2l, 1)), (44, (.iload_n 0, 1)), (45, (.iload 8, 2)), (47, (.isub, 1)), (48, (.invokestatic 217, 3)), (51, (.lmul, 1)), (52, (.ladd, 1)), (53, (.lstore 4, 2)), (55, (.lload 6, 2)), (57, (.iload_n 0, 1)), (58, (.iload 8, 2)), (60, (.isub, 1)), (61, (.i2l, 1)), (62, (.lmul, 1)), (63, (.iload 8, 2)), (65, (.iconst 1, 1)), (66, (.iadd, 1)), (67, (.i2l, 1)), (68, (.invokestatic 243, 3)), (71, (.lstore 6, 2)), (73, (.iinc 8 1, 3)), (76, (.goto (-67), 3)), (79, (.lload 4, 2)), (81, (.lreturn, 1))] = true := by decide +kernel
theorem DX7_init_0 : gDec cX7_init [(0, (.aload_n 0, 1)), (1, (.invokespecial 1, 3)), (4, (.aload_n 0, 1)), (5, (.bipush 60, 2)), (7, (.newarray .int, 2)), (9, (.putfield 7, 3)), (12, (.aload_n 0, 1)), (13, (.iconst 1, 1)), (14, (.putfield 13, 3)), (17, (.aload_n 0, 1)), (18, (.bipush 12, 2)), (20, (.newarray .int, 2)), (22, (.putfield 17, 3)), (25, (.aload_n 0, 1)), (26, (.bipush 12, 2)), (28, (.newarray .int, 2)), (30, (.putfield 20, 3)), (33, (.aload_n 0, 1)), (34, (.bipush 12, 2)), (36, (.newarray .int, 2)), (38, (.putfield 23, 3)), (41, (.aload_n 0, 1)), (42, (.bipush 12, 2)), (44, (.newarray .int, 2)), (46, (.putfield 26, 3)), (49, (.aload_n 0, 1)), (50, (.bipush 12, 2)), (52, (.newarray .int, 2)), (54, (.putfield 29, 3)), (57, (.aload_n 0, 1)), (58, (.bipush 12, 2)), (60, (.newarray .int, 2)), (62, (.putfield 32, 3)), (65, (.aload_n 0, 1)), (66, (.bipush (-9), 2)), (68, (.putfield 35, 3)), (71, (.aload_n 0, 1)), (72, (.bipush 12, 2)), (74, (.newarray .int, 2)), (76, (.putfield 38, 3)), (79, (.aload_n 0, 1)), (80, (.bipush 12, 2)), (82, (.newarray .int, 2)), (84, (.putfield 41, 3)), (87, (.aload_n 0, 1)), (88, (.bipush 12, 2)), (90, (.newarray .int, 2)), (92, (.putfield 44, 3)), (95, (.aload_n 0, 1)), (96, (.bipush 9, 2)), (98, (.newarray .int, 2)), (100, (.putfield 47, 3)), (103, (.aload_n 0, 1)), (104, (.sipush 180, 3)), (107, (.newarray .int, 2)), (109, (.putfield 50, 3)), (112, (.aload_n 0, 1)), (113, (.iconst 2, 1)), (114, (.newarray .boolean, 2)), (116, (.putfield 53, 3)), (119, (.aload_n 0, 1)), (120, (.iconst 3, 1)), (121, (.newarray .int, 2)), (123, (.putfield 57, 3))] = true := by decide +kernel
theorem DX7_init_1 : gDec cX7_init [(126, (.aload_n 0, 1)), (127, (.iconst 3, 1)), (128, (.newarray .int, 2)), (130, (.putfield 60, 3)), (133, (.aload_n 0, 1)), (134, (.bipush 12, 2)), (136, (.newarray .long, 2)), (138, (.putfield 63, 3)), (141, (.iconst 0, 1)), (142, (.istore_n 1, 1)), (143, (.iload_n 1, 1)), (144, (.iconst 2, 1)), (145, (.if_icmp .ge 30, 3)), (148, (.aload_n 0, 1)), (149, (.getfield 17, 3)), (152, (.bipush 6, 2)), (154, (.iload_n 1, 1)), (155, (.imul, 1)), (156, (.iconst 5, 1)), (157, (.iastore, 1)), (158, (.aload_n 0, 1)), (159, (.getfield 20, 3)), (162, (.bipush 6, 2)), (164, (.iload_n 1, 1)), (165, (.imul, 1)), (166, (.bipush 20, 2)), (168, (.iastore, 1)), (169, (.iinc 1 1, 3)), (172, (.goto (-29), 3)), (175, (.aload_n 0, 1)), (176, (.getfield 47, 3)), (179, (.iconst 0, 1)), (180, (.iconst 5, 1)), (181, (.iastore, 1)), (182, (.aload_n 0, 1)), (183, (.getfield 47, 3)), (186, (.iconst 1, 1)), (187, (.bipush 60, 2)), (189, (.iastore, 1)), (190, (.aload_n 0, 1)), (191, (.getfield 47, 3)), (194, (.iconst 2, 1)), (195, (.bipush 40, 2)), (197, (.iastore, 1)), (198, (.aload_n 0, 1)), (199, (.getfield 47, 3)), (202, (.iconst 3, 1)), (203, (.bipush 7, 2)), (205, (.iastore, 1)), (206, (.aload_n 0, 1)), (207, (.getfield 47, 3)), (210, (.iconst 4, 1)), (211, (.bipush 80, 2)), (213, (.iastore, 1)), (214, (.aload_n 0, 1)), (215, (.getfield 47, 3)), (218, (.iconst 5, 1)), (219, (.bipush 50, 2)), (221, (.iastore, 1)), (222, (.aload_n 0, 1)), (223, (.getfield 47, 3)), (226, (.bipush 6, 2)), (228, (.iconst 3, 1)), (229, (.iastore, 1))] = true := by decide +kernel
theorem DX7_init_2 : gDec cX7_init [(230, (.aload_n 0, 1)), (231, (.getfield 47, 3)), (234, (.bipush 7, 2)), (236, (.bipush 40, 2)), (238, (.iastore, 1)), (239, (.aload_n 0, 1)), (240, (.getfield 47, 3)), (243, (.bipush 8, 2)), (245, (.bipush 20, 2)), (247, (.iastore, 1)), (248, (.return_, 1))] = true := by decide +kernel
theorem DX7_in_0 : gDec cX7_in [(0, (.lload_n 0, 1)), (1, (.lload_n 2, 1)), (2, (.lcmp, 1)), (3, (.ifCond .lt 14, 3)), (6, (.lload_n 0, 1)), (7, (.lload 4, 2)), (9, (.lcmp, 1)), (10, (.ifCond .gt 7, 3)), (13, (.iconst 1, 1)), (14, (.goto 4, 3)), (17, (.iconst 0, 1)), (18, (.ireturn, 1))] = true := by decide +kernel
theorem DX7_noPlace_0 : gDec cX7_noPlace [(0, (.iload_n 1, 1)), (1, (.ifCond .lt 22, 3)), (4, (.iload_n 1, 1)), (5, (.bipush 10, 2)), (7, (.idiv, 1)), (8, (.iconst 1, 1)), (9, (.if_icmp .gt 14, 3)), (12, (.iload_n 1, 1)), (13, (.bipush 10, 2)), (15, (.irem, 1)), (16, (.aload_n 0, 1)), (17, (.getfield 13, 3)), (20, (.if_icmp .lt 7, 3)), (23, (.iconst 1, 1)), (24, (.goto 4, 3)), (27, (.iconst 0, 1)), (28, (.ireturn, 1))] = true := by decide +kernel
theorem DX7_index_0 : gDec cX7_index [(0, (.bipush 6, 2)), (2, (.iload_n 0, 1)), (3, (.bipush 10, 2)), (5, (.idiv, 1)), (6, (.imul, 1)), (7, (.iload_n 0, 1)), (8, (.bipush 10, 2)), (10, (.irem, 1)), (11, (.iadd, 1)), (12, (.ireturn, 1))] = true := by decide +kernel
theorem DX7_code_0 : gDec cX7_code [(0, (.bipush 10, 2)), (2, (.iload_n 0, 1)), (3, (.bipush 6, 2)), (5, (.idiv, 1)), (6, (.imul, 1)), (7, (.iload_n 0, 1)), (8, (.bipush 6, 2)), (10, (.irem, 1)), (11, (.iadd, 1)), (12, (.ireturn, 1))] = true := by decide +kernel
theorem DX7_isThere_0 : gDec cX7_isThere [(0, (.iload_n 1, 1)), (1, (.bipush 6, 2)), (3, (.irem, 1)), (4, (.aload_n 0, 1)), (5, (.getfield 13, 3)), (8, (.if_icmp .ge 7, 3)), (11, (.iconst 1, 1)), (12, (.goto 4, 3)), (15, (.iconst 0, 1)), (16, (.ireturn, 1))] = true := by decide +kernel
theorem DX7_noInches_0 : gDec cX7_noInches [(0, (.iload_n 0, 1)), (1, (.i2l, 1)), (2, (.lconst 0, 1)), (3, (.ldc2_w 70, 3)), (6, (.invokestatic 72, 3)), (9, (.ifCond .ne 7, 3)), (12, (.iconst 1, 1)), (13, (.goto 4, 3)), (16, (.iconst 0, 1)), (17, (.ireturn, 1))] = true := by decide +kernel
theorem DX7_noWood_0 : gDec cX7_noWood [(0, (.iload_n 0, 1)), (1, (.i2l, 1)), (2, (.lconst 0, 1)), (3, (.ldc2_w 76, 3)), (6, (.invokestatic 72, 3)), (9, (.ifCond .ne 7, 3)), (12, (.iconst 1, 1)), (13, (.goto 4, 3)), (16, (.iconst 0, 1)), (17, (.ireturn, 1))] = true := by decide +kernel
theorem DX7_write_0 : gDec cX7_write [(0, (.aload_n 0, 1)), (1, (.iconst 0, 1)), (2, (.putfield 67, 3)), (5, (.iload_n 1, 1)), (6, (.i2l, 1)), (7, (.lconst 1, 1)), (8, (.ldc2_w 78, 3)), (11, (.invokestatic 72, 3)), (14, (.ifCond .ne 6, 3)), (17, (.bipush (-2), 2)), (19, (.ireturn, 1)), (20, (.aload_n 0, 1)), (21, (.getfield 80, 3)), (24, (.iload_n 1, 1)), (25, (.iadd, 1)), (26, (.bipush 60, 2)), (28, (.if_icmp .le 6, 3)), (31, (.bipush (-4), 2)), (33, (.ireturn, 1)), (34, (.iload_n 1, 1)), (35, (.iconst 1, 1)), (36, (.isub, 1)), (37, (.istore 4, 2)), (39, (.iload 4, 2)), (41, (.ifCond .lt 40, 3)), (44, (.aload_n 0, 1)), (45, (.getfield 7, 3)), (48, (.aload_n 0, 1)), (49, (.getfield 80, 3)), (52, (.lload_n 2, 1)), (53, (.bipush 8, 2)), (55, (.iload 4, 2)), (57, (.imul, 1)), (58, (.lshr, 1)), (59, (.l2i, 1)), (60, (.sipush 255, 3)), (63, (.iand, 1)), (64, (.iastore, 1)), (65, (.aload_n 0, 1)), (66, (.dup, 1)), (67, (.getfield 80, 3)), (70, (.iconst 1, 1)), (71, (.iadd, 1)), (72, (.putfield 80, 3)), (75, (.iinc 4 (-1), 3)), (78, (.goto (-39), 3)), (81, (.aload_n 0, 1)), (82, (.getfield 80, 3)), (85, (.ireturn, 1))] = true := by decide +kernel
theorem DX7_wipe_0 : gDec cX7_wipe [(0, (.aload_n 0, 1)), (1, (.iconst 0, 1)), (2, (.putfield 67, 3)), (5, (.aload_n 0, 1)), (6, (.getfield 80, 3)), (9, (.istore_n 1, 1)), (10, (.aload_n 0, 1)), (11, (.iconst 0, 1)), (12, (.putfield 80, 3)), (15, (.iload_n 1, 1)), (16, (.ireturn, 1))] = true := by decide +kernel
theorem DX7_figure_0 : gDec cX7_figure [(0, (.aload_n 0, 1)), (1, (.getfield 83, 3)), (4, (.aload_n 0, 1)), (5, (.getfield 80, 3)), (8, (.if_icmp .eq 26, 3)), (11, (.aload_n 0, 1)), (12, (.getfield 7, 3)), (15, (.aload_n 0, 1)), (16, (.getfield 83, 3)), (19, (.iaload, 1)), (20, (.bipush 48, 2)), (22, (.isub, 1)), (23, (.i2l, 1)), (24, (.iload_n 1, 1)), (25, (.i2l, 1)), (26, (.iload_n 2, 1)), (27, (.i2l, 1)), (28, (.invokestatic 72, 3)), (31, (.ifCond .ne 6, 3)), (34, (.bipush (-9), 2)), (36, (.ireturn, 1)), (37, (.aload_n 0, 1)), (38, (.dup, 1)), (39, (.getfield 83, 3)), (42, (.iconst 1, 1)), (43, (.iadd, 1)), (44, (.putfield 83, 3)), (47, (.aload_n 0, 1)), (48, (.getfield 7, 3)), (51, (.aload_n 0, 1)), (52, (.getfield 83, 3)), (55, (.iconst 1, 1)), (56, (.isub, 1)), (57, (.iaload, 1)), (58, (.bipush 48, 2)), (60, (.isub, 1)), (61, (.ireturn, 1))] = true := by decide +kernel
theorem DX7_readPlace_0 : gDec cX7_readPlace [(0, (.aload_n 0, 1)), (1, (.iconst 1, 1)), (2, (.bipush 9, 2)), (4, (.invokevirtual 86, 3)), (7, (.istore_n 2, 1)), (8, (.iload_n 2, 1)), (9, (.bipush (-9), 2)), (11, (.if_icmp .ne 8, 3)), (14, (.bipush (-9), 2)), (16, (.goto 9, 3)), (19, (.aload_n 0, 1)), (20, (.iconst 0, 1)), (21, (.iconst 4, 1)), (22, (.invokevirtual 86, 3)), (25, (.istore_n 3, 1)), (26, (.iload_n 3, 1)), (27, (.bipush (-9), 2)), (29, (.if_icmp .ne 8, 3)), (32, (.bipush (-9), 2)), (34, (.goto 27, 3)), (37, (.aload_n 0, 1)), (38, (.iload_n 3, 1)), (39, (.ifCond .ne 7, 3)), (42, (.iconst 4, 1)), (43, (.goto 4, 3)), (46, (.iconst 0, 1)), (47, (.iload_n 3, 1)), (48, (.iconst 4, 1)), (49, (.if_icmp .ne 7, 3)), (52, (.iconst 0, 1)), (53, (.goto 5, 3)), (56, (.bipush 9, 2)), (58, (.invokevirtual 86, 3)), (61, (.istore 4, 2)), (63, (.iload 4, 2)), (65, (.bipush (-9), 2)), (67, (.if_icmp .ne 8, 3)), (70, (.bipush (-9), 2)), (72, (.goto 9, 3)), (75, (.aload_n 0, 1)), (76, (.iconst 0, 1)), (77, (.iconst 2, 1)), (78, (.invokevirtual 86, 3)), (81, (.istore 5, 2)), (83, (.iload 5, 2)), (85, (.bipush (-9), 2)), (87, (.if_icmp .ne 5, 3)), (90, (.iconst 0, 1)), (91, (.ireturn, 1)), (92, (.aload_n 0, 1)), (93, (.getfield 38, 3)), (96, (.iload_n 1, 1)), (97, (.iload_n 2, 1)), (98, (.iastore, 1)), (99, (.aload_n 0, 1)), (100, (.getfield 41, 3)), (103, (.iload_n 1, 1)), (104, (.bipush 10, 2)), (106, (.iload_n 3, 1)), (107, (.imul, 1)), (108, (.iload 4, 2)), (110, (.iadd, 1)), (111, (.iastore, 1)), (112, (.aload_n 0, 1))] = true := by decide +kernel
theorem DX7_readPlace_1 : gDec cX7_readPlace [(113, (.getfield 44, 3)), (116, (.iload_n 1, 1)), (117, (.iload 5, 2)), (119, (.iastore, 1)), (120, (.iconst 1, 1)), (121, (.ireturn, 1))] = true := by decide +kernel
theorem DX7_readStave_0 : gDec cX7_readStave [(0, (.aload_n 0, 1)), (1, (.iconst 0, 1)), (2, (.putfield 83, 3)), (5, (.aload_n 0, 1)), (6, (.iconst 0, 1)), (7, (.putfield 90, 3)), (10, (.iconst 1, 1)), (11, (.istore_n 1, 1)), (12, (.iload_n 1, 1)), (13, (.ifCond .eq 72, 3)), (16, (.aload_n 0, 1)), (17, (.getfield 90, 3)), (20, (.bipush 6, 2)), (22, (.if_icmp .eq 14, 3)), (25, (.aload_n 0, 1)), (26, (.aload_n 0, 1)), (27, (.getfield 90, 3)), (30, (.invokevirtual 93, 3)), (33, (.ifCond .ne 8, 3)), (36, (.aload_n 0, 1)), (37, (.getfield 83, 3)), (40, (.ireturn, 1)), (41, (.aload_n 0, 1)), (42, (.dup, 1)), (43, (.getfield 90, 3)), (46, (.iconst 1, 1)), (47, (.iadd, 1)), (48, (.putfield 90, 3)), (51, (.aload_n 0, 1)), (52, (.getfield 83, 3)), (55, (.aload_n 0, 1)), (56, (.getfield 80, 3)), (59, (.if_icmp .eq 17, 3)), (62, (.aload_n 0, 1)), (63, (.getfield 7, 3)), (66, (.aload_n 0, 1)), (67, (.getfield 83, 3)), (70, (.iaload, 1)), (71, (.bipush 47, 2)), (73, (.if_icmp .eq 7, 3)), (76, (.iconst 1, 1)), (77, (.goto 4, 3)), (80, (.iconst 0, 1)), (81, (.istore_n 1, 1)), (82, (.goto (-70), 3)), (85, (.aload_n 0, 1)), (86, (.dup, 1)), (87, (.getfield 83, 3)), (90, (.iconst 1, 1)), (91, (.iadd, 1)), (92, (.putfield 83, 3)), (95, (.iconst 0, 1)), (96, (.istore_n 2, 1)), (97, (.iload_n 2, 1)), (98, (.aload_n 0, 1)), (99, (.getfield 90, 3)), (102, (.if_icmp .ge 25, 3)), (105, (.aload_n 0, 1)), (106, (.bipush 6, 2)), (108, (.iload_n 2, 1)), (109, (.iadd, 1)), (110, (.invokevirtual 93, 3)), (113, (.ifCond .ne 8, 3)), (116, (.aload_n 0, 1))] = true := by decide +kernel
theorem DX7_readStave_1 : gDec cX7_readStave [(117, (.getfield 83, 3)), (120, (.ireturn, 1)), (121, (.iinc 2 1, 3)), (124, (.goto (-27), 3)), (127, (.aload_n 0, 1)), (128, (.getfield 83, 3)), (131, (.aload_n 0, 1)), (132, (.getfield 80, 3)), (135, (.if_icmp .ge 10, 3)), (138, (.aload_n 0, 1)), (139, (.getfield 83, 3)), (142, (.goto 5, 3)), (145, (.bipush (-9), 2)), (147, (.ireturn, 1))] = true := by decide +kernel
theorem DX7_fault_0 : gDec cX7_fault [(0, (.aload_n 0, 1)), (1, (.iconst 0, 1)), (2, (.putfield 67, 3)), (5, (.aload_n 0, 1)), (6, (.invokevirtual 97, 3)), (9, (.ireturn, 1))] = true := by decide +kernel
theorem DX7_stave_0 : gDec cX7_stave [(0, (.aload_n 0, 1)), (1, (.iconst 0, 1)), (2, (.putfield 67, 3)), (5, (.aload_n 0, 1)), (6, (.invokevirtual 97, 3)), (9, (.bipush (-9), 2)), (11, (.if_icmp .eq 6, 3)), (14, (.bipush (-3), 2)), (16, (.ireturn, 1)), (17, (.aload_n 0, 1)), (18, (.aload_n 0, 1)), (19, (.getfield 90, 3)), (22, (.putfield 13, 3)), (25, (.iconst 0, 1)), (26, (.istore_n 1, 1)), (27, (.iload_n 1, 1)), (28, (.bipush 12, 2)), (30, (.if_icmp .ge 66, 3)), (33, (.aload_n 0, 1)), (34, (.getfield 17, 3)), (37, (.iload_n 1, 1)), (38, (.aload_n 0, 1)), (39, (.getfield 38, 3)), (42, (.iload_n 1, 1)), (43, (.iaload, 1)), (44, (.iastore, 1)), (45, (.aload_n 0, 1)), (46, (.getfield 20, 3)), (49, (.iload_n 1, 1)), (50, (.aload_n 0, 1)), (51, (.getfield 41, 3)), (54, (.iload_n 1, 1)), (55, (.iaload, 1)), (56, (.iastore, 1)), (57, (.aload_n 0, 1)), (58, (.getfield 23, 3)), (61, (.iload_n 1, 1)), (62, (.aload_n 0, 1)), (63, (.getfield 44, 3)), (66, (.iload_n 1, 1)), (67, (.iaload, 1)), (68, (.iastore, 1)), (69, (.aload_n 0, 1)), (70, (.getfield 26, 3)), (73, (.iload_n 1, 1)), (74, (.iconst 0, 1)), (75, (.iastore, 1)), (76, (.aload_n 0, 1)), (77, (.getfield 29, 3)), (80, (.iload_n 1, 1)), (81, (.iconst 0, 1)), (82, (.iastore, 1)), (83, (.aload_n 0, 1)), (84, (.getfield 32, 3)), (87, (.iload_n 1, 1)), (88, (.iconst 0, 1)), (89, (.iastore, 1)), (90, (.iinc 1 1, 3)), (93, (.goto (-66), 3)), (96, (.aload_n 0, 1)), (97, (.bipush (-9), 2)), (99, (.putfield 35, 3)), (102, (.aload_n 0, 1)), (103, (.getfield 13, 3))] = true := by decide +kernel
theorem DX7_stave_1 : gDec cX7_stave [(106, (.ireturn, 1))] = true := by decide +kernel
theorem DX7_wood_0 : gDec cX7_wood [(0, (.aload_n 0, 1)), (1, (.iconst 0, 1)), (2, (.putfield 67, 3)), (5, (.iload_n 1, 1)), (6, (.invokestatic 101, 3)), (9, (.ifCond .eq 5, 3)), (12, (.iconst (-1), 1)), (13, (.ireturn, 1)), (14, (.iload_n 2, 1)), (15, (.i2l, 1)), (16, (.lconst 1, 1)), (17, (.ldc2_w 104, 3)), (20, (.invokestatic 72, 3)), (23, (.ifCond .eq 28, 3)), (26, (.iload_n 3, 1)), (27, (.i2l, 1)), (28, (.lconst 1, 1)), (29, (.ldc2_w 106, 3)), (32, (.invokestatic 72, 3)), (35, (.ifCond .eq 16, 3)), (38, (.iload 4, 2)), (40, (.i2l, 1)), (41, (.lconst 1, 1)), (42, (.ldc2_w 106, 3)), (45, (.invokestatic 72, 3)), (48, (.ifCond .ne 6, 3)), (51, (.bipush (-2), 2)), (53, (.ireturn, 1)), (54, (.aload_n 0, 1)), (55, (.getfield 47, 3)), (58, (.iconst 3, 1)), (59, (.iload_n 1, 1)), (60, (.imul, 1)), (61, (.iaload, 1)), (62, (.istore 5, 2)), (64, (.aload_n 0, 1)), (65, (.getfield 47, 3)), (68, (.iconst 3, 1)), (69, (.iload_n 1, 1)), (70, (.imul, 1)), (71, (.iload_n 2, 1)), (72, (.iastore, 1)), (73, (.aload_n 0, 1)), (74, (.getfield 47, 3)), (77, (.iconst 3, 1)), (78, (.iload_n 1, 1)), (79, (.imul, 1)), (80, (.iconst 1, 1)), (81, (.iadd, 1)), (82, (.iload_n 3, 1)), (83, (.iastore, 1)), (84, (.aload_n 0, 1)), (85, (.getfield 47, 3)), (88, (.iconst 3, 1)), (89, (.iload_n 1, 1)), (90, (.imul, 1)), (91, (.iconst 2, 1)), (92, (.iadd, 1)), (93, (.iload 4, 2)), (95, (.iastore, 1)), (96, (.iload 5, 2)), (98, (.ireturn, 1))] = true := by decide +kernel
theorem DX7_grown_0 : gDec cX7_grown [(0, (.aload_n 0, 1)), (1, (.iconst 0, 1)), (2, (.putfield 67, 3)), (5, (.iload_n 1, 1)), (6, (.invokestatic 101, 3)), (9, (.ifCond .eq 5, 3)), (12, (.iconst (-1), 1)), (13, (.ireturn, 1)), (14, (.iload_n 2, 1)), (15, (.i2l, 1)), (16, (.lconst 0, 1)), (17, (.ldc2_w 76, 3)), (20, (.invokestatic 72, 3)), (23, (.ifCond .eq 16, 3)), (26, (.aload_n 0, 1)), (27, (.getfield 47, 3)), (30, (.iconst 3, 1)), (31, (.iload_n 1, 1)), (32, (.imul, 1)), (33, (.iload_n 2, 1)), (34, (.iadd, 1)), (35, (.iaload, 1)), (36, (.goto 5, 3)), (39, (.bipush (-2), 2)), (41, (.ireturn, 1))] = true := by decide +kernel
theorem DX7_knot_0 : gDec cX7_knot [(0, (.aload_n 0, 1)), (1, (.iconst 0, 1)), (2, (.putfield 67, 3)), (5, (.aload_n 0, 1)), (6, (.iload_n 1, 1)), (7, (.invokevirtual 108, 3)), (10, (.ifCond .eq 5, 3)), (13, (.iconst (-1), 1)), (14, (.ireturn, 1)), (15, (.aload_n 0, 1)), (16, (.getfield 29, 3)), (19, (.iload_n 1, 1)), (20, (.invokestatic 111, 3)), (23, (.iaload, 1)), (24, (.istore_n 3, 1)), (25, (.aload_n 0, 1)), (26, (.getfield 29, 3)), (29, (.iload_n 1, 1)), (30, (.invokestatic 111, 3)), (33, (.iload_n 2, 1)), (34, (.ifCond .eq 7, 3)), (37, (.iconst 1, 1)), (38, (.goto 4, 3)), (41, (.iconst 0, 1)), (42, (.iastore, 1)), (43, (.iload_n 3, 1)), (44, (.aload_n 0, 1)), (45, (.getfield 29, 3)), (48, (.iload_n 1, 1)), (49, (.invokestatic 111, 3)), (52, (.iaload, 1)), (53, (.if_icmp .ne 7, 3)), (56, (.iconst 0, 1)), (57, (.goto 4, 3)), (60, (.iconst 1, 1)), (61, (.ireturn, 1))] = true := by decide +kernel
theorem DX7_about_0 : gDec cX7_about [(0, (.aload_n 0, 1)), (1, (.iconst 0, 1)), (2, (.putfield 67, 3)), (5, (.aload_n 0, 1)), (6, (.iload_n 1, 1)), (7, (.invokevirtual 108, 3)), (10, (.ifCond .eq 5, 3)), (13, (.iconst (-1), 1)), (14, (.ireturn, 1)), (15, (.iload_n 1, 1)), (16, (.invokestatic 111, 3)), (19, (.istore_n 3, 1)), (20, (.iload_n 2, 1)), (21, (.tableswitch 81 0 5 #[39, 46, 53, 60, 67, 74], 39)), (60, (.aload_n 0, 1)), (61, (.getfield 17, 3)), (64, (.iload_n 3, 1)), (65, (.iaload, 1)), (66, (.ireturn, 1)), (67, (.aload_n 0, 1)), (68, (.getfield 20, 3)), (71, (.iload_n 3, 1)), (72, (.iaload, 1)), (73, (.ireturn, 1)), (74, (.aload_n 0, 1)), (75, (.getfield 23, 3)), (78, (.iload_n 3, 1)), (79, (.iaload, 1)), (80, (.ireturn, 1)), (81, (.aload_n 0, 1)), (82, (.getfield 26, 3)), (85, (.iload_n 3, 1)), (86, (.iaload, 1)), (87, (.ireturn, 1)), (88, (.aload_n 0, 1)), (89, (.getfield 29, 3)), (92, (.iload_n 3, 1)), (93, (.iaload, 1)), (94, (.ireturn, 1)), (95, (.aload_n 0, 1)), (96, (.getfield 32, 3)), (99, (.iload_n 3, 1)), (100, (.iaload, 1)), (101, (.ireturn, 1)), (102, (.bipush (-2), 2)), (104, (.ireturn, 1))] = true := by decide +kernel
theorem DX7_giveBy_0 : gDec cX7_giveBy [(0, (.iload_n 1, 1)), (1, (.bipush 6, 2)), (3, (.irem, 1)), (4, (.iconst 1, 1)), (5, (.iadd, 1)), (6, (.i2l, 1)), (7, (.lstore 4, 2)), (9, (.ldc2_w 115, 3)), (12, (.lload 4, 2)), (14, (.lmul, 1)), (15, (.lload 4, 2)), (17, (.lmul, 1)), (18, (.aload_n 0, 1)), (19, (.getfield 47, 3)), (22, (.iconst 3, 1)), (23, (.aload_n 0, 1)), (24, (.getfield 23, 3)), (27, (.iload_n 1, 1)), (28, (.iaload, 1)), (29, (.imul, 1)), (30, (.iaload, 1)), (31, (.aload_n 0, 1)), (32, (.getfield 17, 3)), (35, (.iload_n 1, 1)), (36, (.iaload, 1)), (37, (.imul, 1)), (38, (.i2l, 1)), (39, (.lload_n 2, 1)), (40, (.lmul, 1)), (41, (.lload_n 2, 1)), (42, (.lmul, 1)), (43, (.lload_n 2, 1)), (44, (.lmul, 1)), (45, (.ldiv, 1)), (46, (.lreturn, 1))] = true := by decide +kernel
theorem DX7_giveOf_0 : gDec cX7_giveOf [(0, (.aload_n 0, 1)), (1, (.iload_n 1, 1)), (2, (.aload_n 0, 1)), (3, (.getfield 20, 3)), (6, (.iload_n 1, 1)), (7, (.iaload, 1)), (8, (.i2l, 1)), (9, (.invokevirtual 117, 3)), (12, (.lreturn, 1))] = true := by decide +kernel
theorem DX7_limbOf_0 : gDec cX7_limbOf [(0, (.lconst 0, 1)), (1, (.lstore_n 2, 1)), (2, (.iconst 0, 1)), (3, (.istore 4, 2)), (5, (.iload 4, 2)), (7, (.aload_n 0, 1)), (8, (.getfield 13, 3)), (11, (.if_icmp .ge 23, 3)), (14, (.lload_n 2, 1)), (15, (.aload_n 0, 1)), (16, (.bipush 6, 2)), (18, (.iload_n 1, 1)), (19, (.imul, 1)), (20, (.iload 4, 2)), (22, (.iadd, 1)), (23, (.invokevirtual 121, 3)), (26, (.ladd, 1)), (27, (.lstore_n 2, 1)), (28, (.iinc 4 1, 3)), (31, (.goto (-26), 3)), (34, (.lload_n 2, 1)), (35, (.lreturn, 1))] = true := by decide +kernel
theorem DX7_allGive_0 : gDec cX7_allGive [(0, (.aload_n 0, 1)), (1, (.iconst 0, 1)), (2, (.invokevirtual 125, 3)), (5, (.aload_n 0, 1)), (6, (.iconst 1, 1)), (7, (.invokevirtual 125, 3)), (10, (.ladd, 1)), (11, (.lreturn, 1))] = true := by decide +kernel
theorem DX7_allSets_0 : gDec cX7_allSets [(0, (.iconst 0, 1)), (1, (.istore_n 1, 1)), (2, (.iconst 0, 1)), (3, (.istore_n 2, 1)), (4, (.iload_n 2, 1)), (5, (.bipush 12, 2)), (7, (.if_icmp .ge 30, 3)), (10, (.iload_n 1, 1)), (11, (.aload_n 0, 1)), (12, (.iload_n 2, 1)), (13, (.invokevirtual 128, 3)), (16, (.ifCond .eq 12, 3)), (19, (.aload_n 0, 1)), (20, (.getfield 26, 3)), (23, (.iload_n 2, 1)), (24, (.iaload, 1)), (25, (.goto 4, 3)), (28, (.iconst 0, 1)), (29, (.iadd, 1)), (30, (.istore_n 1, 1)), (31, (.iinc 2 1, 3)), (34, (.goto (-30), 3)), (37, (.iload_n 1, 1)), (38, (.ireturn, 1))] = true := by decide +kernel
theorem DX7_pull_0 : gDec cX7_pull [(0, (.iload_n 1, 1)), (1, (.aload_n 0, 1)), (2, (.invokevirtual 131, 3)), (5, (.bipush 10, 2)), (7, (.idiv, 1)), (8, (.isub, 1)), (9, (.istore_n 2, 1)), (10, (.iload_n 2, 1)), (11, (.ifCond .le 12, 3)), (14, (.ldc2_w 134, 3)), (17, (.iload_n 2, 1)), (18, (.i2l, 1)), (19, (.lmul, 1)), (20, (.goto 4, 3)), (23, (.lconst 0, 1)), (24, (.lreturn, 1))] = true := by decide +kernel
theorem DX7_told_0 : gDec cX7_told [(0, (.lload_n 0, 1)), (1, (.lstore 5, 2)), (3, (.lload_n 2, 1)), (4, (.lstore 7, 2)), (6, (.lload 7, 2)), (8, (.lconst 0, 1)), (9, (.lcmp, 1)), (10, (.ifCond .eq 21, 3)), (13, (.lload 5, 2)), (15, (.lload 7, 2)), (17, (.lrem, 1)), (18, (.lstore 9, 2)), (20, (.lload 7, 2)), (22, (.lstore 5, 2)), (24, (.lload 9, 2)), (26, (.lstore 7, 2)), (28, (.goto (-22), 3)), (31, (.iload 4, 2)), (33, (.ifCond .eq 10, 3)), (36, (.lload_n 0, 1)), (37, (.lload 5, 2)), (39, (.ldiv, 1)), (40, (.goto 7, 3)), (43, (.lload_n 2, 1)), (44, (.lload 5, 2)), (46, (.ldiv, 1)), (47, (.lreturn, 1))] = true := by decide +kernel
theorem DX7_strainOf_0 : gDec cX7_strainOf [(0, (.aload_n 0, 1)), (1, (.getfield 47, 3)), (4, (.iconst 3, 1)), (5, (.aload_n 0, 1)), (6, (.getfield 23, 3)), (9, (.iload_n 1, 1)), (10, (.iaload, 1)), (11, (.imul, 1)), (12, (.iaload, 1)), (13, (.i2l, 1)), (14, (.aload_n 0, 1)), (15, (.getfield 17, 3)), (18, (.iload_n 1, 1)), (19, (.iaload, 1)), (20, (.i2l, 1)), (21, (.lmul, 1)), (22, (.aload_n 0, 1)), (23, (.getfield 20, 3)), (26, (.iload_n 1, 1)), (27, (.iaload, 1)), (28, (.i2l, 1)), (29, (.lmul, 1)), (30, (.aload_n 0, 1)), (31, (.getfield 20, 3)), (34, (.iload_n 1, 1)), (35, (.iaload, 1)), (36, (.i2l, 1)), (37, (.lmul, 1)), (38, (.lstore_n 3, 1)), (39, (.aload_n 0, 1)), (40, (.iload_n 2, 1)), (41, (.invokevirtual 136, 3)), (44, (.iload_n 1, 1)), (45, (.bipush 6, 2)), (47, (.irem, 1)), (48, (.iconst 1, 1)), (49, (.iadd, 1)), (50, (.i2l, 1)), (51, (.lmul, 1)), (52, (.ldc2_w 139, 3)), (55, (.lmul, 1)), (56, (.aload_n 0, 1)), (57, (.invokevirtual 141, 3)), (60, (.lload_n 3, 1)), (61, (.lmul, 1)), (62, (.ldiv, 1)), (63, (.lreturn, 1))] = true := by decide +kernel
theorem DX7_give_0 : gDec cX7_give [(0, (.aload_n 0, 1)), (1, (.iconst 0, 1)), (2, (.putfield 67, 3)), (5, (.aload_n 0, 1)), (6, (.iload_n 1, 1)), (7, (.invokevirtual 108, 3)), (10, (.ifCond .eq 9, 3)), (13, (.ldc2_w 145, 3)), (16, (.goto 11, 3)), (19, (.aload_n 0, 1)), (20, (.iload_n 1, 1)), (21, (.invokestatic 111, 3)), (24, (.invokevirtual 121, 3)), (27, (.lreturn, 1))] = true := by decide +kernel
theorem DX7_limb_0 : gDec cX7_limb [(0, (.aload_n 0, 1)), (1, (.iconst 0, 1)), (2, (.putfield 67, 3)), (5, (.iload_n 1, 1)), (6, (.i2l, 1)), (7, (.lconst 0, 1)), (8, (.lconst 1, 1)), (9, (.invokestatic 72, 3)), (12, (.ifCond .eq 11, 3)), (15, (.aload_n 0, 1)), (16, (.iload_n 1, 1)), (17, (.invokevirtual 125, 3)), (20, (.goto 6, 3)), (23, (.ldc2_w 145, 3)), (26, (.lreturn, 1))] = true := by decide +kernel
theorem DX7_follow_0 : gDec cX7_follow [(0, (.aload_n 0, 1)), (1, (.iconst 0, 1)), (2, (.putfield 67, 3)), (5, (.aload_n 0, 1)), (6, (.invokevirtual 131, 3)), (9, (.bipush 10, 2)), (11, (.idiv, 1)), (12, (.ireturn, 1))] = true := by decide +kernel
theorem DX7_weight_0 : gDec cX7_weight [(0, (.aload_n 0, 1)), (1, (.iconst 0, 1)), (2, (.putfield 67, 3)), (5, (.iload_n 1, 1)), (6, (.invokestatic 147, 3)), (9, (.ifCond .eq 9, 3)), (12, (.ldc2_w 150, 3)), (15, (.goto 16, 3)), (18, (.aload_n 0, 1)), (19, (.iload_n 1, 1)), (20, (.invokevirtual 136, 3)), (23, (.aload_n 0, 1)), (24, (.invokevirtual 141, 3)), (27, (.iload_n 2, 1)), (28, (.invokestatic 152, 3)), (31, (.lreturn, 1))] = true := by decide +kernel
theorem DX7_strain_0 : gDec cX7_strain [(0, (.aload_n 0, 1)), (1, (.iconst 0, 1)), (2, (.putfield 67, 3)), (5, (.aload_n 0, 1)), (6, (.iload_n 1, 1)), (7, (.invokevirtual 108, 3)), (10, (.ifCond .eq 7, 3)), (13, (.ldc2_w 145, 3)), (16, (.lreturn, 1)), (17, (.iload_n 2, 1)), (18, (.invokestatic 147, 3)), (21, (.ifCond .eq 9, 3)), (24, (.ldc2_w 150, 3)), (27, (.goto 12, 3)), (30, (.aload_n 0, 1)), (31, (.iload_n 1, 1)), (32, (.invokestatic 111, 3)), (35, (.iload_n 2, 1)), (36, (.invokevirtual 156, 3)), (39, (.lreturn, 1))] = true := by decide +kernel
theorem DX7_pullLine_0 : gDec cX7_pullLine [(0, (.aload_n 0, 1)), (1, (.getfield 47, 3)), (4, (.iconst 3, 1)), (5, (.aload_n 0, 1)), (6, (.getfield 23, 3)), (9, (.iload_n 1, 1)), (10, (.iaload, 1)), (11, (.imul, 1)), (12, (.iconst 1, 1)), (13, (.iadd, 1)), (14, (.iaload, 1)), (15, (.istore_n 2, 1)), (16, (.ldc2_w 160, 3)), (19, (.aload_n 0, 1)), (20, (.getfield 29, 3)), (23, (.iload_n 1, 1)), (24, (.iaload, 1)), (25, (.iconst 1, 1)), (26, (.if_icmp .ne 9, 3)), (29, (.iload_n 2, 1)), (30, (.iconst 2, 1)), (31, (.idiv, 1)), (32, (.goto 4, 3)), (35, (.iload_n 2, 1)), (36, (.i2l, 1)), (37, (.lmul, 1)), (38, (.lreturn, 1))] = true := by decide +kernel
theorem DX7_draw_0 : gDec cX7_draw [(0, (.aload_n 0, 1)), (1, (.iconst 0, 1)), (2, (.putfield 67, 3)), (5, (.iload_n 1, 1)), (6, (.invokestatic 147, 3)), (9, (.ifCond .eq 6, 3)), (12, (.bipush (-2), 2)), (14, (.ireturn, 1)), (15, (.aload_n 0, 1)), (16, (.getfield 35, 3)), (19, (.bipush (-9), 2)), (21, (.if_icmp .eq 6, 3)), (24, (.bipush (-3), 2)), (26, (.ireturn, 1)), (27, (.lconst 0, 1)), (28, (.lstore_n 2, 1)), (29, (.iconst 0, 1)), (30, (.istore 4, 2)), (32, (.iload 4, 2)), (34, (.bipush 12, 2)), (36, (.if_icmp .ge 57, 3)), (39, (.aload_n 0, 1)), (40, (.iload 4, 2)), (42, (.invokevirtual 128, 3)), (45, (.ifCond .eq 20, 3)), (48, (.aload_n 0, 1)), (49, (.iload 4, 2)), (51, (.iload_n 1, 1)), (52, (.invokevirtual 156, 3)), (55, (.aload_n 0, 1)), (56, (.iload 4, 2)), (58, (.invokevirtual 162, 3)), (61, (.lsub, 1)), (62, (.goto 4, 3)), (65, (.lconst 0, 1)), (66, (.lstore 5, 2)), (68, (.lload 5, 2)), (70, (.lload_n 2, 1)), (71, (.lcmp, 1)), (72, (.ifCond .le 15, 3)), (75, (.lload 5, 2)), (77, (.lstore_n 2, 1)), (78, (.aload_n 0, 1)), (79, (.iload 4, 2)), (81, (.invokestatic 165, 3)), (84, (.putfield 35, 3)), (87, (.iinc 4 1, 3)), (90, (.goto (-58), 3)), (93, (.aload_n 0, 1)), (94, (.getfield 35, 3)), (97, (.bipush (-9), 2)), (99, (.if_icmp .eq 11, 3)), (102, (.bipush 100, 2)), (104, (.aload_n 0, 1)), (105, (.getfield 35, 3)), (108, (.iadd, 1)), (109, (.ireturn, 1)), (110, (.iconst 0, 1)), (111, (.istore 4, 2)), (113, (.iconst 0, 1)), (114, (.istore 5, 2)), (116, (.iload 5, 2)), (118, (.bipush 12, 2)), (120, (.if_icmp .ge 98, 3))] = true := by decide +kernel
theorem DX7_draw_1 : gDec cX7_draw [(123, (.aload_n 0, 1)), (124, (.iload 5, 2)), (126, (.invokevirtual 128, 3)), (129, (.ifCond .eq 35, 3)), (132, (.aload_n 0, 1)), (133, (.iload 5, 2)), (135, (.iload_n 1, 1)), (136, (.invokevirtual 156, 3)), (139, (.ldc2_w 160, 3)), (142, (.aload_n 0, 1)), (143, (.getfield 47, 3)), (146, (.iconst 3, 1)), (147, (.aload_n 0, 1)), (148, (.getfield 23, 3)), (151, (.iload 5, 2)), (153, (.iaload, 1)), (154, (.imul, 1)), (155, (.iconst 2, 1)), (156, (.iadd, 1)), (157, (.iaload, 1)), (158, (.i2l, 1)), (159, (.lmul, 1)), (160, (.lsub, 1)), (161, (.goto 4, 3)), (164, (.lconst 0, 1)), (165, (.lstore 6, 2)), (167, (.aload_n 0, 1)), (168, (.getfield 63, 3)), (171, (.iload 5, 2)), (173, (.lload 6, 2)), (175, (.lconst 0, 1)), (176, (.lcmp, 1)), (177, (.ifCond .le 16, 3)), (180, (.lload 6, 2)), (182, (.ldc2_w 168, 3)), (185, (.ladd, 1)), (186, (.ldc2_w 160, 3)), (189, (.ldiv, 1)), (190, (.goto 4, 3)), (193, (.lconst 0, 1)), (194, (.lastore, 1)), (195, (.iload 4, 2)), (197, (.lload 6, 2)), (199, (.lconst 0, 1)), (200, (.lcmp, 1)), (201, (.ifCond .le 7, 3)), (204, (.iconst 1, 1)), (205, (.goto 4, 3)), (208, (.iconst 0, 1)), (209, (.iadd, 1)), (210, (.istore 4, 2)), (212, (.iinc 5 1, 3)), (215, (.goto (-99), 3)), (218, (.iconst 0, 1)), (219, (.istore 5, 2)), (221, (.iload 5, 2)), (223, (.bipush 12, 2)), (225, (.if_icmp .ge 51, 3)), (228, (.aload_n 0, 1)), (229, (.getfield 26, 3)), (232, (.iload 5, 2)), (234, (.iaload, 1)), (235, (.i2l, 1)), (236, (.aload_n 0, 1))] = true := by decide +kernel
theorem DX7_draw_2 : gDec cX7_draw [(237, (.getfield 63, 3)), (240, (.iload 5, 2)), (242, (.laload, 1)), (243, (.ladd, 1)), (244, (.lstore 6, 2)), (246, (.aload_n 0, 1)), (247, (.getfield 26, 3)), (250, (.iload 5, 2)), (252, (.lload 6, 2)), (254, (.ldc2_w 106, 3)), (257, (.lcmp, 1)), (258, (.ifCond .le 8, 3)), (261, (.bipush 99, 2)), (263, (.goto 6, 3)), (266, (.lload 6, 2)), (268, (.l2i, 1)), (269, (.iastore, 1)), (270, (.iinc 5 1, 3)), (273, (.goto (-52), 3)), (276, (.iload 4, 2)), (278, (.ireturn, 1))] = true := by decide +kernel
theorem DX7_broken_0 : gDec cX7_broken [(0, (.aload_n 0, 1)), (1, (.iconst 0, 1)), (2, (.putfield 67, 3)), (5, (.aload_n 0, 1)), (6, (.getfield 35, 3)), (9, (.ireturn, 1))] = true := by decide +kernel
theorem DX7_scrape_0 : gDec cX7_scrape [(0, (.aload_n 0, 1)), (1, (.iconst 0, 1)), (2, (.putfield 67, 3)), (5, (.aload_n 0, 1)), (6, (.iload_n 1, 1)), (7, (.invokevirtual 108, 3)), (10, (.ifCond .eq 5, 3)), (13, (.iconst (-1), 1)), (14, (.ireturn, 1)), (15, (.iload_n 2, 1)), (16, (.i2l, 1)), (17, (.lconst 1, 1)), (18, (.ldc2_w 104, 3)), (21, (.invokestatic 72, 3)), (24, (.ifCond .ne 6, 3)), (27, (.bipush (-2), 2)), (29, (.ireturn, 1)), (30, (.aload_n 0, 1)), (31, (.getfield 35, 3)), (34, (.bipush (-9), 2)), (36, (.if_icmp .ne 18, 3)), (39, (.aload_n 0, 1)), (40, (.getfield 20, 3)), (43, (.iload_n 1, 1)), (44, (.invokestatic 111, 3)), (47, (.iaload, 1)), (48, (.iload_n 2, 1)), (49, (.isub, 1)), (50, (.iconst 4, 1)), (51, (.if_icmp .ge 6, 3)), (54, (.bipush (-3), 2)), (56, (.ireturn, 1)), (57, (.aload_n 0, 1)), (58, (.getfield 20, 3)), (61, (.iload_n 1, 1)), (62, (.invokestatic 111, 3)), (65, (.dup2, 1)), (66, (.iaload, 1)), (67, (.iload_n 2, 1)), (68, (.isub, 1)), (69, (.iastore, 1)), (70, (.aload_n 0, 1)), (71, (.getfield 20, 3)), (74, (.iload_n 1, 1)), (75, (.invokestatic 111, 3)), (78, (.iaload, 1)), (79, (.ireturn, 1))] = true := by decide +kernel
theorem DX7_steam_0 : gDec cX7_steam [(0, (.aload_n 0, 1)), (1, (.iconst 0, 1)), (2, (.putfield 67, 3)), (5, (.aload_n 0, 1)), (6, (.iload_n 1, 1)), (7, (.invokevirtual 108, 3)), (10, (.ifCond .eq 5, 3)), (13, (.iconst (-1), 1)), (14, (.ireturn, 1)), (15, (.aload_n 0, 1)), (16, (.getfield 35, 3)), (19, (.bipush (-9), 2)), (21, (.if_icmp .eq 6, 3)), (24, (.bipush (-3), 2)), (26, (.ireturn, 1)), (27, (.aload_n 0, 1)), (28, (.getfield 26, 3)), (31, (.iload_n 1, 1)), (32, (.invokestatic 111, 3)), (35, (.dup2, 1)), (36, (.iaload, 1)), (37, (.iconst 2, 1)), (38, (.idiv, 1)), (39, (.iastore, 1)), (40, (.aload_n 0, 1)), (41, (.getfield 26, 3)), (44, (.iload_n 1, 1)), (45, (.invokestatic 111, 3)), (48, (.iaload, 1)), (49, (.ireturn, 1))] = true := by decide +kernel
theorem DX7_extreme_0 : gDec cX7_extreme [(0, (.iconst 0, 1)), (1, (.istore_n 3, 1)), (2, (.iconst 1, 1)), (3, (.istore 4, 2)), (5, (.iload 4, 2)), (7, (.bipush 12, 2)), (9, (.if_icmp .ge 63, 3)), (12, (.aload_n 0, 1)), (13, (.iload 4, 2)), (15, (.invokevirtual 128, 3)), (18, (.ifCond .eq 48, 3)), (21, (.aload_n 0, 1)), (22, (.iload 4, 2)), (24, (.iload_n 1, 1)), (25, (.invokevirtual 156, 3)), (28, (.aload_n 0, 1)), (29, (.iload_n 3, 1)), (30, (.iload_n 1, 1)), (31, (.invokevirtual 156, 3)), (34, (.lsub, 1)), (35, (.lstore 5, 2)), (37, (.iload_n 2, 1)), (38, (.ifCond .eq 10, 3)), (41, (.lload 5, 2)), (43, (.lconst 0, 1)), (44, (.lcmp, 1)), (45, (.ifCond .gt 14, 3)), (48, (.iload_n 2, 1)), (49, (.ifCond .ne 15, 3)), (52, (.lload 5, 2)), (54, (.lconst 0, 1)), (55, (.lcmp, 1)), (56, (.ifCond .ge 8, 3)), (59, (.iload 4, 2)), (61, (.goto 4, 3)), (64, (.iload_n 3, 1)), (65, (.istore_n 3, 1)), (66, (.iinc 4 1, 3)), (69, (.goto (-64), 3)), (72, (.iload_n 3, 1)), (73, (.ireturn, 1))] = true := by decide +kernel
theorem DX7_evenOf_0 : gDec cX7_evenOf [(0, (.aload_n 0, 1)), (1, (.aload_n 0, 1)), (2, (.iload_n 1, 1)), (3, (.iconst 1, 1)), (4, (.invokevirtual 170, 3)), (7, (.iload_n 1, 1)), (8, (.invokevirtual 156, 3)), (11, (.lstore_n 2, 1)), (12, (.lload_n 2, 1)), (13, (.lconst 0, 1)), (14, (.lcmp, 1)), (15, (.ifCond .ne 9, 3)), (18, (.sipush 1000, 3)), (21, (.goto 21, 3)), (24, (.ldc2_w 160, 3)), (27, (.aload_n 0, 1)), (28, (.aload_n 0, 1)), (29, (.iload_n 1, 1)), (30, (.iconst 0, 1)), (31, (.invokevirtual 170, 3)), (34, (.iload_n 1, 1)), (35, (.invokevirtual 156, 3)), (38, (.lmul, 1)), (39, (.lload_n 2, 1)), (40, (.ldiv, 1)), (41, (.l2i, 1)), (42, (.ireturn, 1))] = true := by decide +kernel
theorem DX7_hinge_0 : gDec cX7_hinge [(0, (.aload_n 0, 1)), (1, (.iconst 0, 1)), (2, (.putfield 67, 3)), (5, (.iload_n 1, 1)), (6, (.invokestatic 147, 3)), (9, (.ifCond .eq 8, 3)), (12, (.bipush (-2), 2)), (14, (.goto 12, 3)), (17, (.aload_n 0, 1)), (18, (.iload_n 1, 1)), (19, (.iconst 1, 1)), (20, (.invokevirtual 170, 3)), (23, (.invokestatic 165, 3)), (26, (.ireturn, 1))] = true := by decide +kernel
theorem DX7_stiff_0 : gDec cX7_stiff [(0, (.aload_n 0, 1)), (1, (.iconst 0, 1)), (2, (.putfield 67, 3)), (5, (.iload_n 1, 1)), (6, (.invokestatic 147, 3)), (9, (.ifCond .eq 8, 3)), (12, (.bipush (-2), 2)), (14, (.goto 12, 3)), (17, (.aload_n 0, 1)), (18, (.iload_n 1, 1)), (19, (.iconst 0, 1)), (20, (.invokevirtual 170, 3)), (23, (.invokestatic 165, 3)), (26, (.ireturn, 1))] = true := by decide +kernel
theorem DX7_even_0 : gDec cX7_even [(0, (.aload_n 0, 1)), (1, (.iconst 0, 1)), (2, (.putfield 67, 3)), (5, (.iload_n 1, 1)), (6, (.invokestatic 147, 3)), (9, (.ifCond .eq 8, 3)), (12, (.bipush (-2), 2)), (14, (.goto 8, 3)), (17, (.aload_n 0, 1)), (18, (.iload_n 1, 1)), (19, (.invokevirtual 174, 3)), (22, (.ireturn, 1))] = true := by decide +kernel
theorem DX7_isHeavy_0 : gDec cX7_isHeavy [(0, (.aload_n 0, 1)), (1, (.iload_n 1, 1)), (2, (.invokevirtual 136, 3)), (5, (.iload_n 2, 1)), (6, (.i2l, 1)), (7, (.aload_n 0, 1)), (8, (.invokevirtual 141, 3)), (11, (.lmul, 1)), (12, (.lcmp, 1)), (13, (.ifCond .lt 7, 3)), (16, (.iconst 1, 1)), (17, (.goto 4, 3)), (20, (.iconst 0, 1)), (21, (.ireturn, 1))] = true := by decide +kernel
theorem DX7_next_0 : gDec cX7_next [(0, (.aload_n 0, 1)), (1, (.iconst 0, 1)), (2, (.putfield 67, 3)), (5, (.iload_n 1, 1)), (6, (.invokestatic 147, 3)), (9, (.ifCond .ne 15, 3)), (12, (.iload_n 2, 1)), (13, (.i2l, 1)), (14, (.lconst 0, 1)), (15, (.ldc2_w 168, 3)), (18, (.invokestatic 72, 3)), (21, (.ifCond .ne 6, 3)), (24, (.bipush (-2), 2)), (26, (.ireturn, 1)), (27, (.aload_n 0, 1)), (28, (.iload_n 1, 1)), (29, (.invokevirtual 174, 3)), (32, (.istore_n 3, 1)), (33, (.bipush (-9), 2)), (35, (.istore 4, 2)), (37, (.iconst 0, 1)), (38, (.istore 5, 2)), (40, (.iload 5, 2)), (42, (.bipush 12, 2)), (44, (.if_icmp .ge 83, 3)), (47, (.aload_n 0, 1)), (48, (.iload 5, 2)), (50, (.invokevirtual 128, 3)), (53, (.ifCond .eq 68, 3)), (56, (.aload_n 0, 1)), (57, (.getfield 20, 3)), (60, (.iload 5, 2)), (62, (.iaload, 1)), (63, (.iconst 4, 1)), (64, (.if_icmp .le 57, 3)), (67, (.aload_n 0, 1)), (68, (.getfield 20, 3)), (71, (.iload 5, 2)), (73, (.dup2, 1)), (74, (.iaload, 1)), (75, (.iconst 1, 1)), (76, (.isub, 1)), (77, (.iastore, 1)), (78, (.aload_n 0, 1)), (79, (.iload_n 1, 1)), (80, (.invokevirtual 174, 3)), (83, (.istore 6, 2)), (85, (.iload 6, 2)), (87, (.iload_n 3, 1)), (88, (.if_icmp .le 22, 3)), (91, (.aload_n 0, 1)), (92, (.iload_n 1, 1)), (93, (.iload_n 2, 1)), (94, (.invokevirtual 177, 3)), (97, (.ifCond .eq 13, 3)), (100, (.iload 6, 2)), (102, (.istore_n 3, 1)), (103, (.iload 5, 2)), (105, (.invokestatic 165, 3)), (108, (.istore 4, 2)), (110, (.aload_n 0, 1)), (111, (.getfield 20, 3)), (114, (.iload 5, 2)), (116, (.dup2, 1))] = true := by decide +kernel
theorem DX7_next_1 : gDec cX7_next [(117, (.iaload, 1)), (118, (.iconst 1, 1)), (119, (.iadd, 1)), (120, (.iastore, 1)), (121, (.iinc 5 1, 3)), (124, (.goto (-84), 3)), (127, (.iload 4, 2)), (129, (.ireturn, 1))] = true := by decide +kernel
theorem DX7_weigh_0 : gDec cX7_weigh [(0, (.aload_n 0, 1)), (1, (.iload_n 1, 1)), (2, (.invokevirtual 174, 3)), (5, (.istore 4, 2)), (7, (.iload 4, 2)), (9, (.aload_n 0, 1)), (10, (.getfield 181, 3)), (13, (.if_icmp .le 55, 3)), (16, (.aload_n 0, 1)), (17, (.iload_n 1, 1)), (18, (.iload_n 2, 1)), (19, (.invokevirtual 177, 3)), (22, (.ifCond .eq 46, 3)), (25, (.aload_n 0, 1)), (26, (.iload 4, 2)), (28, (.putfield 181, 3)), (31, (.aload_n 0, 1)), (32, (.iload_n 3, 1)), (33, (.putfield 184, 3)), (36, (.iconst 0, 1)), (37, (.istore 5, 2)), (39, (.iload 5, 2)), (41, (.iload_n 3, 1)), (42, (.if_icmp .ge 26, 3)), (45, (.aload_n 0, 1)), (46, (.getfield 57, 3)), (49, (.iload 5, 2)), (51, (.aload_n 0, 1)), (52, (.getfield 60, 3)), (55, (.iload 5, 2)), (57, (.iaload, 1)), (58, (.invokestatic 165, 3)), (61, (.iastore, 1)), (62, (.iinc 5 1, 3)), (65, (.goto (-26), 3)), (68, (.return_, 1))] = true := by decide +kernel
theorem DX7_lay_0 : gDec cX7_lay [(0, (.aload_n 0, 1)), (1, (.iload_n 1, 1)), (2, (.invokevirtual 128, 3)), (5, (.ifCond .eq 13, 3)), (8, (.aload_n 0, 1)), (9, (.getfield 20, 3)), (12, (.iload_n 1, 1)), (13, (.iaload, 1)), (14, (.iconst 5, 1)), (15, (.if_icmp .ge 5, 3)), (18, (.iconst 0, 1)), (19, (.ireturn, 1)), (20, (.aload_n 0, 1)), (21, (.getfield 20, 3)), (24, (.iload_n 1, 1)), (25, (.dup2, 1)), (26, (.iaload, 1)), (27, (.iconst 1, 1)), (28, (.isub, 1)), (29, (.iastore, 1)), (30, (.aload_n 0, 1)), (31, (.getfield 60, 3)), (34, (.iload_n 2, 1)), (35, (.iload_n 1, 1)), (36, (.iastore, 1)), (37, (.iconst 1, 1)), (38, (.ireturn, 1))] = true := by decide +kernel
theorem DX7_findBest_0 : gDec cX7_findBest [(0, (.aload_n 0, 1)), (1, (.bipush (-9), 2)), (3, (.putfield 181, 3)), (6, (.aload_n 0, 1)), (7, (.iconst 0, 1)), (8, (.putfield 184, 3)), (11, (.aload_n 0, 1)), (12, (.iload_n 1, 1)), (13, (.iload_n 2, 1)), (14, (.iconst 0, 1)), (15, (.invokevirtual 187, 3)), (18, (.iconst 0, 1)), (19, (.istore 4, 2)), (21, (.iload 4, 2)), (23, (.bipush 12, 2)), (25, (.if_icmp .ge 37, 3)), (28, (.aload_n 0, 1)), (29, (.iload 4, 2)), (31, (.iconst 0, 1)), (32, (.invokevirtual 191, 3)), (35, (.ifCond .eq 21, 3)), (38, (.aload_n 0, 1)), (39, (.iload_n 1, 1)), (40, (.iload_n 2, 1)), (41, (.iconst 1, 1)), (42, (.invokevirtual 187, 3)), (45, (.aload_n 0, 1)), (46, (.getfield 20, 3)), (49, (.iload 4, 2)), (51, (.dup2, 1)), (52, (.iaload, 1)), (53, (.iconst 1, 1)), (54, (.iadd, 1)), (55, (.iastore, 1)), (56, (.iinc 4 1, 3)), (59, (.goto (-38), 3)), (62, (.iconst 0, 1)), (63, (.istore 4, 2)), (65, (.iload 4, 2)), (67, (.bipush 12, 2)), (69, (.if_icmp .ge 80, 3)), (72, (.iload_n 3, 1)), (73, (.iconst 1, 1)), (74, (.if_icmp .le 75, 3)), (77, (.aload_n 0, 1)), (78, (.iload 4, 2)), (80, (.iconst 0, 1)), (81, (.invokevirtual 191, 3)), (84, (.ifCond .eq 59, 3)), (87, (.iload 4, 2)), (89, (.istore 5, 2)), (91, (.iload 5, 2)), (93, (.bipush 12, 2)), (95, (.if_icmp .ge 37, 3)), (98, (.aload_n 0, 1)), (99, (.iload 5, 2)), (101, (.iconst 1, 1)), (102, (.invokevirtual 191, 3)), (105, (.ifCond .eq 21, 3)), (108, (.aload_n 0, 1)), (109, (.iload_n 1, 1)), (110, (.iload_n 2, 1)), (111, (.iconst 2, 1)), (112, (.invokevirtual 187, 3))] = true := by decide +kernel
theorem DX7_findBest_1 : gDec cX7_findBest [(115, (.aload_n 0, 1)), (116, (.getfield 20, 3)), (119, (.iload 5, 2)), (121, (.dup2, 1)), (122, (.iaload, 1)), (123, (.iconst 1, 1)), (124, (.iadd, 1)), (125, (.iastore, 1)), (126, (.iinc 5 1, 3)), (129, (.goto (-38), 3)), (132, (.aload_n 0, 1)), (133, (.getfield 20, 3)), (136, (.iload 4, 2)), (138, (.dup2, 1)), (139, (.iaload, 1)), (140, (.iconst 1, 1)), (141, (.iadd, 1)), (142, (.iastore, 1)), (143, (.iinc 4 1, 3)), (146, (.goto (-81), 3)), (149, (.iconst 0, 1)), (150, (.istore 4, 2)), (152, (.iload 4, 2)), (154, (.bipush 12, 2)), (156, (.if_icmp .ge 43, 3)), (159, (.iload_n 3, 1)), (160, (.iconst 2, 1)), (161, (.if_icmp .le 38, 3)), (164, (.aload_n 0, 1)), (165, (.iload 4, 2)), (167, (.iconst 0, 1)), (168, (.invokevirtual 191, 3)), (171, (.ifCond .eq 22, 3)), (174, (.aload_n 0, 1)), (175, (.iload_n 1, 1)), (176, (.iload_n 2, 1)), (177, (.iload 4, 2)), (179, (.invokevirtual 194, 3)), (182, (.aload_n 0, 1)), (183, (.getfield 20, 3)), (186, (.iload 4, 2)), (188, (.dup2, 1)), (189, (.iaload, 1)), (190, (.iconst 1, 1)), (191, (.iadd, 1)), (192, (.iastore, 1)), (193, (.iinc 4 1, 3)), (196, (.goto (-44), 3)), (199, (.return_, 1))] = true := by decide +kernel
theorem DX7_findThird_0 : gDec cX7_findThird [(0, (.iload_n 3, 1)), (1, (.istore 4, 2)), (3, (.iload 4, 2)), (5, (.bipush 12, 2)), (7, (.if_icmp .ge 75, 3)), (10, (.aload_n 0, 1)), (11, (.iload 4, 2)), (13, (.iconst 1, 1)), (14, (.invokevirtual 191, 3)), (17, (.ifCond .eq 59, 3)), (20, (.iload 4, 2)), (22, (.istore 5, 2)), (24, (.iload 5, 2)), (26, (.bipush 12, 2)), (28, (.if_icmp .ge 37, 3)), (31, (.aload_n 0, 1)), (32, (.iload 5, 2)), (34, (.iconst 2, 1)), (35, (.invokevirtual 191, 3)), (38, (.ifCond .eq 21, 3)), (41, (.aload_n 0, 1)), (42, (.iload_n 1, 1)), (43, (.iload_n 2, 1)), (44, (.iconst 3, 1)), (45, (.invokevirtual 187, 3)), (48, (.aload_n 0, 1)), (49, (.getfield 20, 3)), (52, (.iload 5, 2)), (54, (.dup2, 1)), (55, (.iaload, 1)), (56, (.iconst 1, 1)), (57, (.iadd, 1)), (58, (.iastore, 1)), (59, (.iinc 5 1, 3)), (62, (.goto (-38), 3)), (65, (.aload_n 0, 1)), (66, (.getfield 20, 3)), (69, (.iload 4, 2)), (71, (.dup2, 1)), (72, (.iaload, 1)), (73, (.iconst 1, 1)), (74, (.iadd, 1)), (75, (.iastore, 1)), (76, (.iinc 4 1, 3)), (79, (.goto (-76), 3)), (82, (.return_, 1))] = true := by decide +kernel
theorem DX7_noSearch_0 : gDec cX7_noSearch [(0, (.iload_n 0, 1)), (1, (.invokestatic 147, 3)), (4, (.ifCond .ne 27, 3)), (7, (.iload_n 1, 1)), (8, (.i2l, 1)), (9, (.lconst 0, 1)), (10, (.ldc2_w 168, 3)), (13, (.invokestatic 72, 3)), (16, (.ifCond .eq 15, 3)), (19, (.iload_n 2, 1)), (20, (.i2l, 1)), (21, (.lconst 1, 1)), (22, (.ldc2_w 197, 3)), (25, (.invokestatic 72, 3)), (28, (.ifCond .ne 7, 3)), (31, (.iconst 1, 1)), (32, (.goto 4, 3)), (35, (.iconst 0, 1)), (36, (.ireturn, 1))] = true := by decide +kernel
theorem DX7_best_0 : gDec cX7_best [(0, (.aload_n 0, 1)), (1, (.iconst 0, 1)), (2, (.putfield 67, 3)), (5, (.iload_n 1, 1)), (6, (.iload_n 2, 1)), (7, (.iload_n 3, 1)), (8, (.invokestatic 199, 3)), (11, (.ifCond .eq 6, 3)), (14, (.bipush (-2), 2)), (16, (.ireturn, 1)), (17, (.aload_n 0, 1)), (18, (.iload_n 1, 1)), (19, (.iload_n 2, 1)), (20, (.iload_n 3, 1)), (21, (.invokevirtual 203, 3)), (24, (.aload_n 0, 1)), (25, (.getfield 181, 3)), (28, (.ireturn, 1))] = true := by decide +kernel
theorem DX7_bestAt_0 : gDec cX7_bestAt [(0, (.aload_n 0, 1)), (1, (.iconst 0, 1)), (2, (.putfield 67, 3)), (5, (.iload_n 1, 1)), (6, (.iload_n 2, 1)), (7, (.iload_n 3, 1)), (8, (.invokestatic 199, 3)), (11, (.ifCond .eq 6, 3)), (14, (.bipush (-2), 2)), (16, (.ireturn, 1)), (17, (.aload_n 0, 1)), (18, (.iload_n 1, 1)), (19, (.iload_n 2, 1)), (20, (.iload_n 3, 1)), (21, (.invokevirtual 203, 3)), (24, (.iload 4, 2)), (26, (.i2l, 1)), (27, (.lconst 0, 1)), (28, (.aload_n 0, 1)), (29, (.getfield 184, 3)), (32, (.iconst 1, 1)), (33, (.isub, 1)), (34, (.i2l, 1)), (35, (.invokestatic 72, 3)), (38, (.ifCond .eq 13, 3)), (41, (.aload_n 0, 1)), (42, (.getfield 57, 3)), (45, (.iload 4, 2)), (47, (.iaload, 1)), (48, (.goto 5, 3)), (51, (.bipush (-9), 2)), (53, (.ireturn, 1))] = true := by decide +kernel
theorem DX7_formOf_0 : gDec cX7_formOf [(0, (.iconst 4, 1)), (1, (.istore 4, 2)), (3, (.iload 4, 2)), (5, (.bipush 40, 2)), (7, (.if_icmp .gt 62, 3)), (10, (.iload_n 2, 1)), (11, (.iload_n 1, 1)), (12, (.bipush 6, 2)), (14, (.irem, 1)), (15, (.iconst 1, 1)), (16, (.iadd, 1)), (17, (.imul, 1)), (18, (.i2l, 1)), (19, (.ldc2_w 160, 3)), (22, (.lmul, 1)), (23, (.iload_n 3, 1)), (24, (.i2l, 1)), (25, (.aload_n 0, 1)), (26, (.getfield 47, 3)), (29, (.iconst 3, 1)), (30, (.aload_n 0, 1)), (31, (.getfield 23, 3)), (34, (.iload_n 1, 1)), (35, (.iaload, 1)), (36, (.imul, 1)), (37, (.iaload, 1)), (38, (.i2l, 1)), (39, (.lmul, 1)), (40, (.aload_n 0, 1)), (41, (.getfield 17, 3)), (44, (.iload_n 1, 1)), (45, (.iaload, 1)), (46, (.i2l, 1)), (47, (.lmul, 1)), (48, (.iload 4, 2)), (50, (.i2l, 1)), (51, (.lmul, 1)), (52, (.iload 4, 2)), (54, (.i2l, 1)), (55, (.lmul, 1)), (56, (.lcmp, 1)), (57, (.ifCond .gt 6, 3)), (60, (.iload 4, 2)), (62, (.ireturn, 1)), (63, (.iinc 4 1, 3)), (66, (.goto (-63), 3)), (69, (.bipush (-9), 2)), (71, (.ireturn, 1))] = true := by decide +kernel
theorem DX7_noForm_0 : gDec cX7_noForm [(0, (.iload_n 0, 1)), (1, (.i2l, 1)), (2, (.lconst 1, 1)), (3, (.ldc2_w 168, 3)), (6, (.invokestatic 72, 3)), (9, (.ifCond .eq 15, 3)), (12, (.iload_n 1, 1)), (13, (.i2l, 1)), (14, (.lconst 1, 1)), (15, (.ldc2_w 106, 3)), (18, (.invokestatic 72, 3)), (21, (.ifCond .ne 7, 3)), (24, (.iconst 1, 1)), (25, (.goto 4, 3)), (28, (.iconst 0, 1)), (29, (.ireturn, 1))] = true := by decide +kernel
theorem DX7_form_0 : gDec cX7_form [(0, (.aload_n 0, 1)), (1, (.iconst 0, 1)), (2, (.putfield 67, 3)), (5, (.aload_n 0, 1)), (6, (.iload_n 1, 1)), (7, (.invokevirtual 108, 3)), (10, (.ifCond .eq 5, 3)), (13, (.iconst (-1), 1)), (14, (.ireturn, 1)), (15, (.iload_n 2, 1)), (16, (.iload_n 3, 1)), (17, (.invokestatic 206, 3)), (20, (.ifCond .eq 8, 3)), (23, (.bipush (-2), 2)), (25, (.goto 13, 3)), (28, (.aload_n 0, 1)), (29, (.iload_n 1, 1)), (30, (.invokestatic 111, 3)), (33, (.iload_n 2, 1)), (34, (.iload_n 3, 1)), (35, (.invokevirtual 209, 3)), (38, (.ireturn, 1))] = true := by decide +kernel
theorem DX7_shape_0 : gDec cX7_shape [(0, (.aload_n 0, 1)), (1, (.iconst 0, 1)), (2, (.putfield 67, 3)), (5, (.iload_n 1, 1)), (6, (.iload_n 2, 1)), (7, (.invokestatic 206, 3)), (10, (.ifCond .eq 6, 3)), (13, (.bipush (-2), 2)), (15, (.ireturn, 1)), (16, (.iconst 0, 1)), (17, (.istore_n 3, 1)), (18, (.iload_n 3, 1)), (19, (.bipush 12, 2)), (21, (.if_icmp .ge 32, 3)), (24, (.aload_n 0, 1)), (25, (.iload_n 3, 1)), (26, (.invokevirtual 128, 3)), (29, (.ifCond .eq 18, 3)), (32, (.aload_n 0, 1)), (33, (.iload_n 3, 1)), (34, (.iload_n 1, 1)), (35, (.iload_n 2, 1)), (36, (.invokevirtual 209, 3)), (39, (.bipush (-9), 2)), (41, (.if_icmp .ne 6, 3)), (44, (.bipush (-3), 2)), (46, (.ireturn, 1)), (47, (.iinc 3 1, 3)), (50, (.goto (-32), 3)), (53, (.iconst 0, 1)), (54, (.istore_n 3, 1)), (55, (.iconst 0, 1)), (56, (.istore 4, 2)), (58, (.iload 4, 2)), (60, (.bipush 12, 2)), (62, (.if_icmp .ge 59, 3)), (65, (.aload_n 0, 1)), (66, (.iload 4, 2)), (68, (.invokevirtual 128, 3)), (71, (.ifCond .eq 44, 3)), (74, (.iload_n 3, 1)), (75, (.aload_n 0, 1)), (76, (.iload 4, 2)), (78, (.iload_n 1, 1)), (79, (.iload_n 2, 1)), (80, (.invokevirtual 209, 3)), (83, (.aload_n 0, 1)), (84, (.getfield 20, 3)), (87, (.iload 4, 2)), (89, (.iaload, 1)), (90, (.if_icmp .ne 7, 3)), (93, (.iconst 0, 1)), (94, (.goto 4, 3)), (97, (.iconst 1, 1)), (98, (.iadd, 1)), (99, (.istore_n 3, 1)), (100, (.aload_n 0, 1)), (101, (.getfield 20, 3)), (104, (.iload 4, 2)), (106, (.aload_n 0, 1)), (107, (.iload 4, 2)), (109, (.iload_n 1, 1)), (110, (.iload_n 2, 1)), (111, (.invokevirtual 209, 3))] = true := by decide +kernel
theorem DX7_shape_1 : gDec cX7_shape [(114, (.iastore, 1)), (115, (.iinc 4 1, 3)), (118, (.goto (-60), 3)), (121, (.iload_n 3, 1)), (122, (.ireturn, 1))] = true := by decide +kernel
theorem DX7_pace_0 : gDec cX7_pace [(0, (.aload_n 0, 1)), (1, (.iconst 0, 1)), (2, (.putfield 67, 3)), (5, (.iload_n 1, 1)), (6, (.i2l, 1)), (7, (.lconst 1, 1)), (8, (.ldc2_w 106, 3)), (11, (.invokestatic 72, 3)), (14, (.ifCond .eq 10, 3)), (17, (.iload_n 2, 1)), (18, (.invokestatic 147, 3)), (21, (.ifCond .eq 7, 3)), (24, (.ldc2_w 150, 3)), (27, (.lreturn, 1)), (28, (.iconst 0, 1)), (29, (.istore 4, 2)), (31, (.iconst 0, 1)), (32, (.istore 5, 2)), (34, (.iload 5, 2)), (36, (.bipush 12, 2)), (38, (.if_icmp .ge 53, 3)), (41, (.iload 4, 2)), (43, (.aload_n 0, 1)), (44, (.iload 5, 2)), (46, (.invokevirtual 128, 3)), (49, (.ifCond .eq 32, 3)), (52, (.aload_n 0, 1)), (53, (.getfield 17, 3)), (56, (.iload 5, 2)), (58, (.iaload, 1)), (59, (.aload_n 0, 1)), (60, (.getfield 20, 3)), (63, (.iload 5, 2)), (65, (.iaload, 1)), (66, (.imul, 1)), (67, (.aload_n 0, 1)), (68, (.getfield 13, 3)), (71, (.iload 5, 2)), (73, (.bipush 6, 2)), (75, (.irem, 1)), (76, (.isub, 1)), (77, (.imul, 1)), (78, (.goto 4, 3)), (81, (.iconst 0, 1)), (82, (.iadd, 1)), (83, (.istore 4, 2)), (85, (.iinc 5 1, 3)), (88, (.goto (-54), 3)), (91, (.aload_n 0, 1)), (92, (.iload_n 2, 1)), (93, (.invokevirtual 136, 3)), (96, (.iload_n 2, 1)), (97, (.i2l, 1)), (98, (.lmul, 1)), (99, (.aload_n 0, 1)), (100, (.invokevirtual 141, 3)), (103, (.iload_n 1, 1)), (104, (.iload 4, 2)), (106, (.bipush 100, 2)), (108, (.idiv, 1)), (109, (.iadd, 1)), (110, (.i2l, 1)), (111, (.lmul, 1)), (112, (.iload_n 3, 1))] = true := by decide +kernel
theorem DX7_pace_1 : gDec cX7_pace [(113, (.invokestatic 152, 3)), (116, (.lreturn, 1))] = true := by decide +kernel
theorem DX7_wet_0 : gDec cX7_wet [(0, (.aload_n 0, 1)), (1, (.iconst 0, 1)), (2, (.putfield 67, 3)), (5, (.iload_n 1, 1)), (6, (.i2l, 1)), (7, (.lconst 0, 1)), (8, (.ldc2_w 213, 3)), (11, (.invokestatic 72, 3)), (14, (.ifCond .eq 10, 3)), (17, (.iload_n 2, 1)), (18, (.invokestatic 147, 3)), (21, (.ifCond .eq 7, 3)), (24, (.ldc2_w 150, 3)), (27, (.lreturn, 1)), (28, (.aload_n 0, 1)), (29, (.iload_n 2, 1)), (30, (.invokevirtual 136, 3)), (33, (.bipush 100, 2)), (35, (.iload_n 1, 1)), (36, (.isub, 1)), (37, (.i2l, 1)), (38, (.lmul, 1)), (39, (.aload_n 0, 1)), (40, (.invokevirtual 141, 3)), (43, (.ldc2_w 215, 3)), (46, (.lmul, 1)), (47, (.iload_n 3, 1)), (48, (.invokestatic 152, 3)), (51, (.lreturn, 1))] = true := by decide +kernel
theorem DX7_lost_0 : gDec cX7_lost [(0, (.aload_n 0, 1)), (1, (.iconst 0, 1)), (2, (.putfield 67, 3)), (5, (.aload_n 0, 1)), (6, (.iload_n 1, 1)), (7, (.invokevirtual 108, 3)), (10, (.ifCond .eq 7, 3)), (13, (.ldc2_w 145, 3)), (16, (.lreturn, 1)), (17, (.iload_n 2, 1)), (18, (.i2l, 1)), (19, (.ldc2_w 217, 3)), (22, (.ldc2_w 70, 3)), (25, (.invokestatic 72, 3)), (28, (.ifCond .eq 24, 3)), (31, (.iload_n 3, 1)), (32, (.i2l, 1)), (33, (.iload_n 2, 1)), (34, (.i2l, 1)), (35, (.ldc2_w 70, 3)), (38, (.invokestatic 72, 3)), (41, (.ifCond .eq 11, 3)), (44, (.iload 4, 2)), (46, (.invokestatic 147, 3)), (49, (.ifCond .eq 7, 3)), (52, (.ldc2_w 150, 3)), (55, (.lreturn, 1)), (56, (.lconst 0, 1)), (57, (.lstore 7, 2)), (59, (.iconst 0, 1)), (60, (.istore 9, 2)), (62, (.iload 9, 2)), (64, (.bipush 12, 2)), (66, (.if_icmp .ge 90, 3)), (69, (.iload 9, 2)), (71, (.bipush 6, 2)), (73, (.idiv, 1)), (74, (.iload_n 1, 1)), (75, (.bipush 10, 2)), (77, (.idiv, 1)), (78, (.if_icmp .ne 19, 3)), (81, (.iload 9, 2)), (83, (.bipush 6, 2)), (85, (.irem, 1)), (86, (.iload_n 1, 1)), (87, (.bipush 10, 2)), (89, (.irem, 1)), (90, (.if_icmp .gt 7, 3)), (93, (.iconst 1, 1)), (94, (.goto 4, 3)), (97, (.iconst 0, 1)), (98, (.istore 10, 2)), (100, (.lload 7, 2)), (102, (.aload_n 0, 1)), (103, (.iload 9, 2)), (105, (.invokevirtual 128, 3)), (108, (.ifCond .ne 7, 3)), (111, (.lconst 0, 1)), (112, (.goto 35, 3)), (115, (.iload 10, 2)), (117, (.ifCond .eq 24, 3)), (120, (.aload_n 0, 1)), (121, (.iload 9, 2)), (123, (.iload 5, 2))] = true := by decide +kernel
theorem DX7_lost_1 : gDec cX7_lost [(125, (.ifCond .eq 8, 3)), (128, (.iload_n 3, 1)), (129, (.i2l, 1)), (130, (.goto 5, 3)), (133, (.iload_n 2, 1)), (134, (.i2l, 1)), (135, (.invokevirtual 117, 3)), (138, (.goto 9, 3)), (141, (.aload_n 0, 1)), (142, (.iload 9, 2)), (144, (.invokevirtual 121, 3)), (147, (.ladd, 1)), (148, (.lstore 7, 2)), (150, (.iinc 9 1, 3)), (153, (.goto (-91), 3)), (156, (.aload_n 0, 1)), (157, (.iload 4, 2)), (159, (.invokevirtual 136, 3)), (162, (.lload 7, 2)), (164, (.iload 6, 2)), (166, (.invokestatic 152, 3)), (169, (.lreturn, 1))] = true := by decide +kernel
theorem DX7_see_0 : gDec cX7_see [(0, (.aload_n 0, 1)), (1, (.iconst 0, 1)), (2, (.putfield 67, 3)), (5, (.aload_n 0, 1)), (6, (.iload_n 1, 1)), (7, (.invokevirtual 108, 3)), (10, (.ifCond .eq 5, 3)), (13, (.iconst (-1), 1)), (14, (.ireturn, 1)), (15, (.iload_n 2, 1)), (16, (.i2l, 1)), (17, (.lconst 0, 1)), (18, (.ldc2_w 106, 3)), (21, (.invokestatic 72, 3)), (24, (.ifCond .ne 6, 3)), (27, (.bipush (-2), 2)), (29, (.ireturn, 1)), (30, (.aload_n 0, 1)), (31, (.getfield 32, 3)), (34, (.iload_n 1, 1)), (35, (.invokestatic 111, 3)), (38, (.iaload, 1)), (39, (.istore_n 3, 1)), (40, (.aload_n 0, 1)), (41, (.getfield 32, 3)), (44, (.iload_n 1, 1)), (45, (.invokestatic 111, 3)), (48, (.iload_n 2, 1)), (49, (.iastore, 1)), (50, (.iload_n 3, 1)), (51, (.ireturn, 1))] = true := by decide +kernel
theorem DX7_allSeen_0 : gDec cX7_allSeen [(0, (.iconst 0, 1)), (1, (.istore_n 1, 1)), (2, (.iconst 0, 1)), (3, (.istore_n 2, 1)), (4, (.iload_n 2, 1)), (5, (.bipush 12, 2)), (7, (.if_icmp .ge 30, 3)), (10, (.iload_n 1, 1)), (11, (.aload_n 0, 1)), (12, (.iload_n 2, 1)), (13, (.invokevirtual 128, 3)), (16, (.ifCond .eq 12, 3)), (19, (.aload_n 0, 1)), (20, (.getfield 32, 3)), (23, (.iload_n 2, 1)), (24, (.iaload, 1)), (25, (.goto 4, 3)), (28, (.iconst 0, 1)), (29, (.iadd, 1)), (30, (.istore_n 1, 1)), (31, (.iinc 2 1, 3)), (34, (.goto (-30), 3)), (37, (.iload_n 1, 1)), (38, (.ireturn, 1))] = true := by decide +kernel
theorem DX7_offOf_0 : gDec cX7_offOf [(0, (.sipush 1000, 3)), (3, (.aload_n 0, 1)), (4, (.getfield 32, 3)), (7, (.iload_n 1, 1)), (8, (.iaload, 1)), (9, (.imul, 1)), (10, (.aload_n 0, 1)), (11, (.invokevirtual 219, 3)), (14, (.idiv, 1)), (15, (.ldc2_w 160, 3)), (18, (.aload_n 0, 1)), (19, (.iload_n 1, 1)), (20, (.invokevirtual 121, 3)), (23, (.lmul, 1)), (24, (.aload_n 0, 1)), (25, (.invokevirtual 141, 3)), (28, (.ldiv, 1)), (29, (.l2i, 1)), (30, (.isub, 1)), (31, (.ireturn, 1))] = true := by decide +kernel
theorem DX7_off_0 : gDec cX7_off [(0, (.aload_n 0, 1)), (1, (.iconst 0, 1)), (2, (.putfield 67, 3)), (5, (.aload_n 0, 1)), (6, (.iload_n 1, 1)), (7, (.invokevirtual 108, 3)), (10, (.ifCond .eq 5, 3)), (13, (.iconst (-1), 1)), (14, (.ireturn, 1)), (15, (.aload_n 0, 1)), (16, (.invokevirtual 219, 3)), (19, (.ifCond .ne 8, 3)), (22, (.bipush (-3), 2)), (24, (.goto 15, 3)), (27, (.sipush 1000, 3)), (30, (.aload_n 0, 1)), (31, (.iload_n 1, 1)), (32, (.invokestatic 111, 3)), (35, (.invokevirtual 222, 3)), (38, (.iadd, 1)), (39, (.ireturn, 1))] = true := by decide +kernel
theorem DX7_tooStiff_0 : gDec cX7_tooStiff [(0, (.aload_n 0, 1)), (1, (.iconst 0, 1)), (2, (.putfield 67, 3)), (5, (.aload_n 0, 1)), (6, (.invokevirtual 219, 3)), (9, (.ifCond .ne 6, 3)), (12, (.bipush (-9), 2)), (14, (.ireturn, 1)), (15, (.iconst 0, 1)), (16, (.istore_n 1, 1)), (17, (.iconst 1, 1)), (18, (.istore_n 2, 1)), (19, (.iload_n 2, 1)), (20, (.bipush 12, 2)), (22, (.if_icmp .ge 36, 3)), (25, (.aload_n 0, 1)), (26, (.iload_n 2, 1)), (27, (.invokevirtual 128, 3)), (30, (.ifCond .eq 20, 3)), (33, (.aload_n 0, 1)), (34, (.iload_n 2, 1)), (35, (.invokevirtual 222, 3)), (38, (.aload_n 0, 1)), (39, (.iload_n 1, 1)), (40, (.invokevirtual 222, 3)), (43, (.if_icmp .ge 7, 3)), (46, (.iload_n 2, 1)), (47, (.goto 4, 3)), (50, (.iload_n 1, 1)), (51, (.istore_n 1, 1)), (52, (.iinc 2 1, 3)), (55, (.goto (-36), 3)), (58, (.iload_n 1, 1)), (59, (.invokestatic 165, 3)), (62, (.ireturn, 1))] = true := by decide +kernel
theorem DX7_power_0 : gDec cX7_power [(0, (.lconst 1, 1)), (1, (.lstore_n 3, 1)), (2, (.iconst 0, 1)), (3, (.istore 5, 2)), (5, (.iload 5, 2)), (7, (.iload_n 2, 1)), (8, (.if_icmp .ge 13, 3)), (11, (.lload_n 3, 1)), (12, (.lload_n 0, 1)), (13, (.lmul, 1)), (14, (.lstore_n 3, 1)), (15, (.iinc 5 1, 3)), (18, (.goto (-13), 3)), (21, (.lload_n 3, 1)), (22, (.lreturn, 1))] = true := by decide +kernel
theorem DX7_just_0 : gDec cX7_just [(0, (.lconst 1, 1)), (1, (.lstore_n 3, 1)), (2, (.iconst 0, 1)), (3, (.istore 5, 2)), (5, (.iload 5, 2)), (7, (.iload_n 1, 1)), (8, (.if_icmp .ge 23, 3)), (11, (.lload_n 3, 1)), (12, (.iload_n 0, 1)), (13, (.iload 5, 2)), (15, (.isub, 1)), (16, (.i2l, 1)), (17, (.lmul, 1)), (18, (.iload 5, 2)), (20, (.iconst 1, 1)), (21, (.iadd, 1)), (22, (.i2l, 1)), (23, (.ldiv, 1)), (24, (.lstore_n 3, 1)), (25, (.iinc 5 1, 3)), (28, (.goto (-23), 3)), (31, (.lload_n 3, 1)), (32, (.iload_n 2, 1)), (33, (.i2l, 1)), (34, (.iload_n 1, 1)), (35, (.invokestatic 225, 3)), (38, (.lmul, 1)), (39, (.bipush 10, 2)), (41, (.iload_n 2, 1)), (42, (.isub, 1)), (43, (.i2l, 1)), (44, (.iload_n 0, 1)), (45, (.iload_n 1, 1)), (46, (.isub, 1)), (47, (.invokestatic 225, 3)), (50, (.lmul, 1)), (51, (.lreturn, 1))] = true := by decide +kernel
theorem DX7_slips_0 : gDec cX7_slips [(0, (.aload_n 0, 1)), (1, (.iconst 0, 1)), (2, (.putfield 67, 3)), (5, (.aload_n 0, 1)), (6, (.iload_n 1, 1)), (7, (.invokevirtual 108, 3)), (10, (.ifCond .eq 7, 3)), (13, (.ldc2_w 145, 3)), (16, (.lreturn, 1)), (17, (.iload_n 2, 1)), (18, (.i2l, 1)), (19, (.lconst 1, 1)), (20, (.ldc2_w 229, 3)), (23, (.invokestatic 72, 3)), (26, (.ifCond .eq 28, 3)), (29, (.iload_n 3, 1)), (30, (.i2l, 1)), (31, (.lconst 0, 1)), (32, (.ldc2_w 231, 3)), (35, (.invokestatic 72, 3)), (38, (.ifCond .eq 16, 3)), (41, (.iload 4, 2)), (43, (.i2l, 1)), (44, (.lconst 0, 1)), (45, (.ldc2_w 70, 3)), (48, (.invokestatic 72, 3)), (51, (.ifCond .ne 7, 3)), (54, (.ldc2_w 150, 3)), (57, (.lreturn, 1)), (58, (.lconst 0, 1)), (59, (.lstore 6, 2)), (61, (.iconst 0, 1)), (62, (.istore 8, 2)), (64, (.iload 8, 2)), (66, (.iload_n 2, 1)), (67, (.if_icmp .gt 44, 3)), (70, (.lload 6, 2)), (72, (.aload_n 0, 1)), (73, (.getfield 20, 3)), (76, (.iload_n 1, 1)), (77, (.invokestatic 111, 3)), (80, (.iaload, 1)), (81, (.iload_n 2, 1)), (82, (.isub, 1)), (83, (.iload 8, 2)), (85, (.isub, 1)), (86, (.iload 4, 2)), (88, (.if_icmp .lt 13, 3)), (91, (.iload_n 2, 1)), (92, (.iload 8, 2)), (94, (.iload_n 3, 1)), (95, (.invokestatic 233, 3)), (98, (.goto 4, 3)), (101, (.lconst 0, 1)), (102, (.ladd, 1)), (103, (.lstore 6, 2)), (105, (.iinc 8 1, 3)), (108, (.goto (-44), 3)), (111, (.lload 6, 2)), (113, (.ldc2_w 231, 3)), (116, (.iload_n 2, 1)), (117, (.invokestatic 225, 3)), (120, (.iload 5, 2)), (122, (.invokestatic 152, 3))] = true := by decide +kernel
theorem DX7_slips_1 : gDec cX7_slips [(125, (.lreturn, 1))] = true := by decide +kernel
theorem DX7_good_0 : gDec cX7_good [(0, (.aload_n 0, 1)), (1, (.iconst 0, 1)), (2, (.putfield 67, 3)), (5, (.iload_n 1, 1)), (6, (.i2l, 1)), (7, (.lconst 1, 1)), (8, (.ldc2_w 229, 3)), (11, (.invokestatic 72, 3)), (14, (.ifCond .eq 26, 3)), (17, (.iload_n 2, 1)), (18, (.i2l, 1)), (19, (.lconst 0, 1)), (20, (.ldc2_w 231, 3)), (23, (.invokestatic 72, 3)), (26, (.ifCond .eq 14, 3)), (29, (.iload_n 3, 1)), (30, (.i2l, 1)), (31, (.lconst 0, 1)), (32, (.iload_n 1, 1)), (33, (.i2l, 1)), (34, (.invokestatic 72, 3)), (37, (.ifCond .ne 7, 3)), (40, (.ldc2_w 150, 3)), (43, (.lreturn, 1)), (44, (.lconst 0, 1)), (45, (.lstore 5, 2)), (47, (.iload_n 3, 1)), (48, (.istore 7, 2)), (50, (.iload 7, 2)), (52, (.iload_n 1, 1)), (53, (.if_icmp .gt 21, 3)), (56, (.lload 5, 2)), (58, (.iload_n 1, 1)), (59, (.iload 7, 2)), (61, (.iload_n 2, 1)), (62, (.invokestatic 233, 3)), (65, (.ladd, 1)), (66, (.lstore 5, 2)), (68, (.iinc 7 1, 3)), (71, (.goto (-21), 3)), (74, (.lload 5, 2)), (76, (.ldc2_w 231, 3)), (79, (.iload_n 1, 1)), (80, (.invokestatic 225, 3)), (83, (.iload 4, 2)), (85, (.invokestatic 152, 3)), (88, (.lreturn, 1))] = true := by decide +kernel
theorem DX7_keep_0 : gDec cX7_keep [(0, (.aload_n 0, 1)), (1, (.iconst 0, 1)), (2, (.putfield 67, 3)), (5, (.iload_n 1, 1)), (6, (.i2l, 1)), (7, (.lconst 0, 1)), (8, (.lconst 1, 1)), (9, (.invokestatic 72, 3)), (12, (.ifCond .ne 5, 3)), (15, (.iconst (-1), 1)), (16, (.ireturn, 1)), (17, (.aload_n 0, 1)), (18, (.getfield 53, 3)), (21, (.iload_n 1, 1)), (22, (.iconst 1, 1)), (23, (.bastore, 1)), (24, (.iconst 0, 1)), (25, (.istore_n 2, 1)), (26, (.iload_n 2, 1)), (27, (.bipush 12, 2)), (29, (.if_icmp .ge 126, 3)), (32, (.aload_n 0, 1)), (33, (.getfield 50, 3)), (36, (.bipush 90, 2)), (38, (.iload_n 1, 1)), (39, (.imul, 1)), (40, (.iload_n 2, 1)), (41, (.iadd, 1)), (42, (.aload_n 0, 1)), (43, (.getfield 17, 3)), (46, (.iload_n 2, 1)), (47, (.iaload, 1)), (48, (.iastore, 1)), (49, (.aload_n 0, 1)), (50, (.getfield 50, 3)), (53, (.bipush 90, 2)), (55, (.iload_n 1, 1)), (56, (.imul, 1)), (57, (.bipush 12, 2)), (59, (.iadd, 1)), (60, (.iload_n 2, 1)), (61, (.iadd, 1)), (62, (.aload_n 0, 1)), (63, (.getfield 20, 3)), (66, (.iload_n 2, 1)), (67, (.iaload, 1)), (68, (.iastore, 1)), (69, (.aload_n 0, 1)), (70, (.getfield 50, 3)), (73, (.bipush 90, 2)), (75, (.iload_n 1, 1)), (76, (.imul, 1)), (77, (.bipush 24, 2)), (79, (.iadd, 1)), (80, (.iload_n 2, 1)), (81, (.iadd, 1)), (82, (.aload_n 0, 1)), (83, (.getfield 23, 3)), (86, (.iload_n 2, 1)), (87, (.iaload, 1)), (88, (.iastore, 1)), (89, (.aload_n 0, 1)), (90, (.getfield 50, 3)), (93, (.bipush 90, 2))] = true := by decide +kernel
theorem DX7_keep_1 : gDec cX7_keep [(95, (.iload_n 1, 1)), (96, (.imul, 1)), (97, (.bipush 36, 2)), (99, (.iadd, 1)), (100, (.iload_n 2, 1)), (101, (.iadd, 1)), (102, (.aload_n 0, 1)), (103, (.getfield 26, 3)), (106, (.iload_n 2, 1)), (107, (.iaload, 1)), (108, (.iastore, 1)), (109, (.aload_n 0, 1)), (110, (.getfield 50, 3)), (113, (.bipush 90, 2)), (115, (.iload_n 1, 1)), (116, (.imul, 1)), (117, (.bipush 48, 2)), (119, (.iadd, 1)), (120, (.iload_n 2, 1)), (121, (.iadd, 1)), (122, (.aload_n 0, 1)), (123, (.getfield 29, 3)), (126, (.iload_n 2, 1)), (127, (.iaload, 1)), (128, (.iastore, 1)), (129, (.aload_n 0, 1)), (130, (.getfield 50, 3)), (133, (.bipush 90, 2)), (135, (.iload_n 1, 1)), (136, (.imul, 1)), (137, (.bipush 60, 2)), (139, (.iadd, 1)), (140, (.iload_n 2, 1)), (141, (.iadd, 1)), (142, (.aload_n 0, 1)), (143, (.getfield 32, 3)), (146, (.iload_n 2, 1)), (147, (.iaload, 1)), (148, (.iastore, 1)), (149, (.iinc 2 1, 3)), (152, (.goto (-126), 3)), (155, (.iconst 0, 1)), (156, (.istore_n 2, 1)), (157, (.iload_n 2, 1)), (158, (.bipush 9, 2)), (160, (.if_icmp .ge 29, 3)), (163, (.aload_n 0, 1)), (164, (.getfield 50, 3)), (167, (.bipush 90, 2)), (169, (.iload_n 1, 1)), (170, (.imul, 1)), (171, (.bipush 72, 2)), (173, (.iadd, 1)), (174, (.iload_n 2, 1)), (175, (.iadd, 1)), (176, (.aload_n 0, 1)), (177, (.getfield 47, 3)), (180, (.iload_n 2, 1)), (181, (.iaload, 1)), (182, (.iastore, 1)), (183, (.iinc 2 1, 3)), (186, (.goto (-29), 3)), (189, (.aload_n 0, 1)), (190, (.getfield 50, 3))] = true := by decide +kernel
theorem DX7_keep_2 : gDec cX7_keep [(193, (.bipush 90, 2)), (195, (.iload_n 1, 1)), (196, (.imul, 1)), (197, (.bipush 81, 2)), (199, (.iadd, 1)), (200, (.aload_n 0, 1)), (201, (.getfield 13, 3)), (204, (.iastore, 1)), (205, (.aload_n 0, 1)), (206, (.getfield 50, 3)), (209, (.bipush 90, 2)), (211, (.iload_n 1, 1)), (212, (.imul, 1)), (213, (.bipush 82, 2)), (215, (.iadd, 1)), (216, (.aload_n 0, 1)), (217, (.getfield 35, 3)), (220, (.iastore, 1)), (221, (.aload_n 0, 1)), (222, (.getfield 13, 3)), (225, (.ireturn, 1))] = true := by decide +kernel
theorem DX7_again_0 : gDec cX7_again [(0, (.aload_n 0, 1)), (1, (.iconst 0, 1)), (2, (.putfield 67, 3)), (5, (.iload_n 1, 1)), (6, (.i2l, 1)), (7, (.lconst 0, 1)), (8, (.lconst 1, 1)), (9, (.invokestatic 72, 3)), (12, (.ifCond .ne 5, 3)), (15, (.iconst (-1), 1)), (16, (.ireturn, 1)), (17, (.aload_n 0, 1)), (18, (.getfield 53, 3)), (21, (.iload_n 1, 1)), (22, (.baload, 1)), (23, (.ifCond .ne 6, 3)), (26, (.bipush (-3), 2)), (28, (.ireturn, 1)), (29, (.iconst 0, 1)), (30, (.istore_n 2, 1)), (31, (.iload_n 2, 1)), (32, (.bipush 12, 2)), (34, (.if_icmp .ge 126, 3)), (37, (.aload_n 0, 1)), (38, (.getfield 17, 3)), (41, (.iload_n 2, 1)), (42, (.aload_n 0, 1)), (43, (.getfield 50, 3)), (46, (.bipush 90, 2)), (48, (.iload_n 1, 1)), (49, (.imul, 1)), (50, (.iload_n 2, 1)), (51, (.iadd, 1)), (52, (.iaload, 1)), (53, (.iastore, 1)), (54, (.aload_n 0, 1)), (55, (.getfield 20, 3)), (58, (.iload_n 2, 1)), (59, (.aload_n 0, 1)), (60, (.getfield 50, 3)), (63, (.bipush 90, 2)), (65, (.iload_n 1, 1)), (66, (.imul, 1)), (67, (.bipush 12, 2)), (69, (.iadd, 1)), (70, (.iload_n 2, 1)), (71, (.iadd, 1)), (72, (.iaload, 1)), (73, (.iastore, 1)), (74, (.aload_n 0, 1)), (75, (.getfield 23, 3)), (78, (.iload_n 2, 1)), (79, (.aload_n 0, 1)), (80, (.getfield 50, 3)), (83, (.bipush 90, 2)), (85, (.iload_n 1, 1)), (86, (.imul, 1)), (87, (.bipush 24, 2)), (89, (.iadd, 1)), (90, (.iload_n 2, 1)), (91, (.iadd, 1)), (92, (.iaload, 1)), (93, (.iastore, 1)), (94, (.aload_n 0, 1))] = true := by decide +kernel
theorem DX7_again_1 : gDec cX7_again [(95, (.getfield 26, 3)), (98, (.iload_n 2, 1)), (99, (.aload_n 0, 1)), (100, (.getfield 50, 3)), (103, (.bipush 90, 2)), (105, (.iload_n 1, 1)), (106, (.imul, 1)), (107, (.bipush 36, 2)), (109, (.iadd, 1)), (110, (.iload_n 2, 1)), (111, (.iadd, 1)), (112, (.iaload, 1)), (113, (.iastore, 1)), (114, (.aload_n 0, 1)), (115, (.getfield 29, 3)), (118, (.iload_n 2, 1)), (119, (.aload_n 0, 1)), (120, (.getfield 50, 3)), (123, (.bipush 90, 2)), (125, (.iload_n 1, 1)), (126, (.imul, 1)), (127, (.bipush 48, 2)), (129, (.iadd, 1)), (130, (.iload_n 2, 1)), (131, (.iadd, 1)), (132, (.iaload, 1)), (133, (.iastore, 1)), (134, (.aload_n 0, 1)), (135, (.getfield 32, 3)), (138, (.iload_n 2, 1)), (139, (.aload_n 0, 1)), (140, (.getfield 50, 3)), (143, (.bipush 90, 2)), (145, (.iload_n 1, 1)), (146, (.imul, 1)), (147, (.bipush 60, 2)), (149, (.iadd, 1)), (150, (.iload_n 2, 1)), (151, (.iadd, 1)), (152, (.iaload, 1)), (153, (.iastore, 1)), (154, (.iinc 2 1, 3)), (157, (.goto (-126), 3)), (160, (.iconst 0, 1)), (161, (.istore_n 2, 1)), (162, (.iload_n 2, 1)), (163, (.bipush 9, 2)), (165, (.if_icmp .ge 29, 3)), (168, (.aload_n 0, 1)), (169, (.getfield 47, 3)), (172, (.iload_n 2, 1)), (173, (.aload_n 0, 1)), (174, (.getfield 50, 3)), (177, (.bipush 90, 2)), (179, (.iload_n 1, 1)), (180, (.imul, 1)), (181, (.bipush 72, 2)), (183, (.iadd, 1)), (184, (.iload_n 2, 1)), (185, (.iadd, 1)), (186, (.iaload, 1)), (187, (.iastore, 1)), (188, (.iinc 2 1, 3)), (191, (.goto (-29), 3))] = true := by decide +kernel
theorem DX7_again_2 : gDec cX7_again [(194, (.aload_n 0, 1)), (195, (.aload_n 0, 1)), (196, (.getfield 50, 3)), (199, (.bipush 90, 2)), (201, (.iload_n 1, 1)), (202, (.imul, 1)), (203, (.bipush 81, 2)), (205, (.iadd, 1)), (206, (.iaload, 1)), (207, (.putfield 13, 3)), (210, (.aload_n 0, 1)), (211, (.aload_n 0, 1)), (212, (.getfield 50, 3)), (215, (.bipush 90, 2)), (217, (.iload_n 1, 1)), (218, (.imul, 1)), (219, (.bipush 82, 2)), (221, (.iadd, 1)), (222, (.iaload, 1)), (223, (.putfield 35, 3)), (226, (.aload_n 0, 1)), (227, (.getfield 13, 3)), (230, (.ireturn, 1))] = true := by decide +kernel
theorem DX7_count_0 : gDec cX7_count [(0, (.aload_n 0, 1)), (1, (.iconst 0, 1)), (2, (.putfield 67, 3)), (5, (.iconst 0, 1)), (6, (.istore_n 2, 1)), (7, (.iconst 0, 1)), (8, (.istore_n 3, 1)), (9, (.iload_n 3, 1)), (10, (.bipush 12, 2)), (12, (.if_icmp .ge 30, 3)), (15, (.iload_n 2, 1)), (16, (.aload_n 0, 1)), (17, (.iload_n 3, 1)), (18, (.invokevirtual 128, 3)), (21, (.ifCond .eq 12, 3)), (24, (.aload_n 0, 1)), (25, (.getfield 29, 3)), (28, (.iload_n 3, 1)), (29, (.iaload, 1)), (30, (.goto 4, 3)), (33, (.iconst 0, 1)), (34, (.iadd, 1)), (35, (.istore_n 2, 1)), (36, (.iinc 3 1, 3)), (39, (.goto (-30), 3)), (42, (.iload_n 1, 1)), (43, (.tableswitch 55 0 4 #[33, 38, 43, 45, 50], 33)), (76, (.aload_n 0, 1)), (77, (.getfield 80, 3)), (80, (.ireturn, 1)), (81, (.aload_n 0, 1)), (82, (.getfield 13, 3)), (85, (.ireturn, 1)), (86, (.iload_n 2, 1)), (87, (.ireturn, 1)), (88, (.aload_n 0, 1)), (89, (.invokevirtual 131, 3)), (92, (.ireturn, 1)), (93, (.aload_n 0, 1)), (94, (.invokevirtual 219, 3)), (97, (.ireturn, 1)), (98, (.bipush (-2), 2)), (100, (.ireturn, 1))] = true := by decide +kernel
theorem DL_law_0 : gDec cL_law [(0, (.new 7, 3)), (3, (.dup, 1)), (4, (.invokespecial 9, 3)), (7, (.astore_n 1, 1)), (8, (.new 10, 3)), (11, (.dup, 1)), (12, (.invokespecial 12, 3)), (15, (.astore_n 2, 1)), (16, (.iconst 0, 1)), (17, (.istore_n 3, 1)), (18, (.iload_n 3, 1)), (19, (.aload_n 0, 1)), (20, (.arraylength, 1)), (21, (.bipush 7, 2)), (23, (.isub, 1)), (24, (.if_icmp .gt 1471, 3)), (27, (.aload_n 0, 1)), (28, (.iload_n 3, 1)), (29, (.iaload, 1)), (30, (.bipush 63, 2)), (32, (.iand, 1)), (33, (.tableswitch 1456 0 35 #[159, 222, 235, 248, 261, 314, 347, 396, 429, 453, 477, 490, 540, 574, 597, 610, 643, 666, 689, 712, 735, 768, 811, 864, 907, 940, 1000, 1060, 1168, 1201, 1224, 1237, 1317, 1387, 1410, 1433], 159)), (192, (.aload_n 1, 1)), (193, (.aload_n 0, 1)), (194, (.iload_n 3, 1)), (195, (.iconst 1, 1)), (196, (.iadd, 1)), (197, (.iaload, 1)), (198, (.aload_n 0, 1)), (199, (.iload_n 3, 1)), (200, (.iconst 2, 1)), (201, (.iadd, 1)), (202, (.iaload, 1)), (203, (.i2l, 1)), (204, (.bipush 32, 2)), (206, (.lshl, 1)), (207, (.aload_n 0, 1)), (208, (.iload_n 3, 1)), (209, (.iconst 3, 1)), (210, (.iadd, 1)), (211, (.iaload, 1)), (212, (.i2l, 1)), (213, (.ldc2_w 13, 3)), (216, (.land, 1)), (217, (.lor, 1)), (218, (.invokevirtual 15, 3)), (221, (.aload_n 2, 1)), (222, (.aload_n 0, 1)), (223, (.iload_n 3, 1)), (224, (.iconst 1, 1)), (225, (.iadd, 1)), (226, (.iaload, 1)), (227, (.aload_n 0, 1)), (228, (.iload_n 3, 1)), (229, (.iconst 2, 1)), (230, (.iadd, 1)), (231, (.iaload, 1)), (232, (.i2l, 1)), (233, (.bipush 32, 2)), (235, (.lshl, 1)), (236, (.aload_n 0, 1)), (237, (.iload_n 3, 1)), (238, (.iconst 3, 1)), (239, (.iadd, 1))] = true := by decide +kernel
theorem DL_law_1 : gDec cL_law [(240, (.iaload, 1)), (241, (.i2l, 1)), (242, (.ldc2_w 13, 3)), (245, (.land, 1)), (246, (.lor, 1)), (247, (.invokevirtual 19, 3)), (250, (.if_icmp .eq 1239, 3)), (253, (.iconst 0, 1)), (254, (.ireturn, 1)), (255, (.aload_n 1, 1)), (256, (.invokevirtual 20, 3)), (259, (.aload_n 2, 1)), (260, (.invokevirtual 24, 3)), (263, (.if_icmp .eq 1226, 3)), (266, (.iconst 0, 1)), (267, (.ireturn, 1)), (268, (.aload_n 1, 1)), (269, (.invokevirtual 25, 3)), (272, (.aload_n 2, 1)), (273, (.invokevirtual 28, 3)), (276, (.if_icmp .eq 1213, 3)), (279, (.iconst 0, 1)), (280, (.ireturn, 1)), (281, (.aload_n 1, 1)), (282, (.invokevirtual 29, 3)), (285, (.aload_n 2, 1)), (286, (.invokevirtual 32, 3)), (289, (.if_icmp .eq 1200, 3)), (292, (.iconst 0, 1)), (293, (.ireturn, 1)), (294, (.aload_n 1, 1)), (295, (.aload_n 0, 1)), (296, (.iload_n 3, 1)), (297, (.iconst 1, 1)), (298, (.iadd, 1)), (299, (.iaload, 1)), (300, (.aload_n 0, 1)), (301, (.iload_n 3, 1)), (302, (.iconst 2, 1)), (303, (.iadd, 1)), (304, (.iaload, 1)), (305, (.aload_n 0, 1)), (306, (.iload_n 3, 1)), (307, (.iconst 3, 1)), (308, (.iadd, 1)), (309, (.iaload, 1)), (310, (.aload_n 0, 1)), (311, (.iload_n 3, 1)), (312, (.iconst 4, 1)), (313, (.iadd, 1)), (314, (.iaload, 1)), (315, (.invokevirtual 33, 3)), (318, (.aload_n 2, 1)), (319, (.aload_n 0, 1)), (320, (.iload_n 3, 1)), (321, (.iconst 1, 1)), (322, (.iadd, 1)), (323, (.iaload, 1)), (324, (.aload_n 0, 1)), (325, (.iload_n 3, 1)), (326, (.iconst 2, 1)), (327, (.iadd, 1)), (328, (.iaload, 1)), (329, (.aload_n 0, 1))] = true := by decide +kernel
theorem DL_law_2 : gDec cL_law [(330, (.iload_n 3, 1)), (331, (.iconst 3, 1)), (332, (.iadd, 1)), (333, (.iaload, 1)), (334, (.aload_n 0, 1)), (335, (.iload_n 3, 1)), (336, (.iconst 4, 1)), (337, (.iadd, 1)), (338, (.iaload, 1)), (339, (.invokevirtual 37, 3)), (342, (.if_icmp .eq 1147, 3)), (345, (.iconst 0, 1)), (346, (.ireturn, 1)), (347, (.aload_n 1, 1)), (348, (.aload_n 0, 1)), (349, (.iload_n 3, 1)), (350, (.iconst 1, 1)), (351, (.iadd, 1)), (352, (.iaload, 1)), (353, (.aload_n 0, 1)), (354, (.iload_n 3, 1)), (355, (.iconst 2, 1)), (356, (.iadd, 1)), (357, (.iaload, 1)), (358, (.invokevirtual 38, 3)), (361, (.aload_n 2, 1)), (362, (.aload_n 0, 1)), (363, (.iload_n 3, 1)), (364, (.iconst 1, 1)), (365, (.iadd, 1)), (366, (.iaload, 1)), (367, (.aload_n 0, 1)), (368, (.iload_n 3, 1)), (369, (.iconst 2, 1)), (370, (.iadd, 1)), (371, (.iaload, 1)), (372, (.invokevirtual 42, 3)), (375, (.if_icmp .eq 1114, 3)), (378, (.iconst 0, 1)), (379, (.ireturn, 1)), (380, (.aload_n 1, 1)), (381, (.aload_n 0, 1)), (382, (.iload_n 3, 1)), (383, (.iconst 1, 1)), (384, (.iadd, 1)), (385, (.iaload, 1)), (386, (.aload_n 0, 1)), (387, (.iload_n 3, 1)), (388, (.iconst 2, 1)), (389, (.iadd, 1)), (390, (.iaload, 1)), (391, (.ifCond .eq 7, 3)), (394, (.iconst 1, 1)), (395, (.goto 4, 3)), (398, (.iconst 0, 1)), (399, (.invokevirtual 43, 3)), (402, (.aload_n 2, 1)), (403, (.aload_n 0, 1)), (404, (.iload_n 3, 1)), (405, (.iconst 1, 1)), (406, (.iadd, 1)), (407, (.iaload, 1)), (408, (.aload_n 0, 1)), (409, (.iload_n 3, 1))] = true := by decide +kernel
theorem DL_law_3 : gDec cL_law [(410, (.iconst 2, 1)), (411, (.iadd, 1)), (412, (.iaload, 1)), (413, (.ifCond .eq 7, 3)), (416, (.iconst 1, 1)), (417, (.goto 4, 3)), (420, (.iconst 0, 1)), (421, (.invokevirtual 47, 3)), (424, (.if_icmp .eq 1065, 3)), (427, (.iconst 0, 1)), (428, (.ireturn, 1)), (429, (.aload_n 1, 1)), (430, (.aload_n 0, 1)), (431, (.iload_n 3, 1)), (432, (.iconst 1, 1)), (433, (.iadd, 1)), (434, (.iaload, 1)), (435, (.aload_n 0, 1)), (436, (.iload_n 3, 1)), (437, (.iconst 2, 1)), (438, (.iadd, 1)), (439, (.iaload, 1)), (440, (.invokevirtual 48, 3)), (443, (.aload_n 2, 1)), (444, (.aload_n 0, 1)), (445, (.iload_n 3, 1)), (446, (.iconst 1, 1)), (447, (.iadd, 1)), (448, (.iaload, 1)), (449, (.aload_n 0, 1)), (450, (.iload_n 3, 1)), (451, (.iconst 2, 1)), (452, (.iadd, 1)), (453, (.iaload, 1)), (454, (.invokevirtual 51, 3)), (457, (.if_icmp .eq 1032, 3)), (460, (.iconst 0, 1)), (461, (.ireturn, 1)), (462, (.aload_n 1, 1)), (463, (.aload_n 0, 1)), (464, (.iload_n 3, 1)), (465, (.iconst 1, 1)), (466, (.iadd, 1)), (467, (.iaload, 1)), (468, (.invokevirtual 52, 3)), (471, (.aload_n 2, 1)), (472, (.aload_n 0, 1)), (473, (.iload_n 3, 1)), (474, (.iconst 1, 1)), (475, (.iadd, 1)), (476, (.iaload, 1)), (477, (.invokevirtual 56, 3)), (480, (.lcmp, 1)), (481, (.ifCond .eq 1008, 3)), (484, (.iconst 0, 1)), (485, (.ireturn, 1)), (486, (.aload_n 1, 1)), (487, (.aload_n 0, 1)), (488, (.iload_n 3, 1)), (489, (.iconst 1, 1)), (490, (.iadd, 1)), (491, (.iaload, 1)), (492, (.invokevirtual 57, 3)), (495, (.aload_n 2, 1))] = true := by decide +kernel
theorem DL_law_4 : gDec cL_law [(496, (.aload_n 0, 1)), (497, (.iload_n 3, 1)), (498, (.iconst 1, 1)), (499, (.iadd, 1)), (500, (.iaload, 1)), (501, (.invokevirtual 60, 3)), (504, (.lcmp, 1)), (505, (.ifCond .eq 984, 3)), (508, (.iconst 0, 1)), (509, (.ireturn, 1)), (510, (.aload_n 1, 1)), (511, (.invokevirtual 61, 3)), (514, (.aload_n 2, 1)), (515, (.invokevirtual 64, 3)), (518, (.if_icmp .eq 971, 3)), (521, (.iconst 0, 1)), (522, (.ireturn, 1)), (523, (.aload_n 1, 1)), (524, (.aload_n 0, 1)), (525, (.iload_n 3, 1)), (526, (.iconst 1, 1)), (527, (.iadd, 1)), (528, (.iaload, 1)), (529, (.aload_n 0, 1)), (530, (.iload_n 3, 1)), (531, (.iconst 2, 1)), (532, (.iadd, 1)), (533, (.iaload, 1)), (534, (.ifCond .eq 7, 3)), (537, (.iconst 1, 1)), (538, (.goto 4, 3)), (541, (.iconst 0, 1)), (542, (.invokevirtual 65, 3)), (545, (.aload_n 2, 1)), (546, (.aload_n 0, 1)), (547, (.iload_n 3, 1)), (548, (.iconst 1, 1)), (549, (.iadd, 1)), (550, (.iaload, 1)), (551, (.aload_n 0, 1)), (552, (.iload_n 3, 1)), (553, (.iconst 2, 1)), (554, (.iadd, 1)), (555, (.iaload, 1)), (556, (.ifCond .eq 7, 3)), (559, (.iconst 1, 1)), (560, (.goto 4, 3)), (563, (.iconst 0, 1)), (564, (.invokevirtual 69, 3)), (567, (.lcmp, 1)), (568, (.ifCond .eq 921, 3)), (571, (.iconst 0, 1)), (572, (.ireturn, 1)), (573, (.aload_n 1, 1)), (574, (.aload_n 0, 1)), (575, (.iload_n 3, 1)), (576, (.iconst 1, 1)), (577, (.iadd, 1)), (578, (.iaload, 1)), (579, (.aload_n 0, 1)), (580, (.iload_n 3, 1)), (581, (.iconst 2, 1)), (582, (.iadd, 1)), (583, (.iaload, 1))] = true := by decide +kernel
theorem DL_law_5 : gDec cL_law [(584, (.invokevirtual 70, 3)), (587, (.aload_n 2, 1)), (588, (.aload_n 0, 1)), (589, (.iload_n 3, 1)), (590, (.iconst 1, 1)), (591, (.iadd, 1)), (592, (.iaload, 1)), (593, (.aload_n 0, 1)), (594, (.iload_n 3, 1)), (595, (.iconst 2, 1)), (596, (.iadd, 1)), (597, (.iaload, 1)), (598, (.invokevirtual 74, 3)), (601, (.lcmp, 1)), (602, (.ifCond .eq 887, 3)), (605, (.iconst 0, 1)), (606, (.ireturn, 1)), (607, (.aload_n 1, 1)), (608, (.aload_n 0, 1)), (609, (.iload_n 3, 1)), (610, (.iconst 1, 1)), (611, (.iadd, 1)), (612, (.iaload, 1)), (613, (.invokevirtual 75, 3)), (616, (.aload_n 2, 1)), (617, (.aload_n 0, 1)), (618, (.iload_n 3, 1)), (619, (.iconst 1, 1)), (620, (.iadd, 1)), (621, (.iaload, 1)), (622, (.invokevirtual 79, 3)), (625, (.if_icmp .eq 864, 3)), (628, (.iconst 0, 1)), (629, (.ireturn, 1)), (630, (.aload_n 1, 1)), (631, (.invokevirtual 80, 3)), (634, (.aload_n 2, 1)), (635, (.invokevirtual 83, 3)), (638, (.if_icmp .eq 851, 3)), (641, (.iconst 0, 1)), (642, (.ireturn, 1)), (643, (.aload_n 1, 1)), (644, (.aload_n 0, 1)), (645, (.iload_n 3, 1)), (646, (.iconst 1, 1)), (647, (.iadd, 1)), (648, (.iaload, 1)), (649, (.aload_n 0, 1)), (650, (.iload_n 3, 1)), (651, (.iconst 2, 1)), (652, (.iadd, 1)), (653, (.iaload, 1)), (654, (.invokevirtual 84, 3)), (657, (.aload_n 2, 1)), (658, (.aload_n 0, 1)), (659, (.iload_n 3, 1)), (660, (.iconst 1, 1)), (661, (.iadd, 1)), (662, (.iaload, 1)), (663, (.aload_n 0, 1)), (664, (.iload_n 3, 1)), (665, (.iconst 2, 1)), (666, (.iadd, 1)), (667, (.iaload, 1))] = true := by decide +kernel
theorem DL_law_6 : gDec cL_law [(668, (.invokevirtual 87, 3)), (671, (.if_icmp .eq 818, 3)), (674, (.iconst 0, 1)), (675, (.ireturn, 1)), (676, (.aload_n 1, 1)), (677, (.aload_n 0, 1)), (678, (.iload_n 3, 1)), (679, (.iconst 1, 1)), (680, (.iadd, 1)), (681, (.iaload, 1)), (682, (.invokevirtual 88, 3)), (685, (.aload_n 2, 1)), (686, (.aload_n 0, 1)), (687, (.iload_n 3, 1)), (688, (.iconst 1, 1)), (689, (.iadd, 1)), (690, (.iaload, 1)), (691, (.invokevirtual 91, 3)), (694, (.if_icmp .eq 795, 3)), (697, (.iconst 0, 1)), (698, (.ireturn, 1)), (699, (.aload_n 1, 1)), (700, (.aload_n 0, 1)), (701, (.iload_n 3, 1)), (702, (.iconst 1, 1)), (703, (.iadd, 1)), (704, (.iaload, 1)), (705, (.invokevirtual 92, 3)), (708, (.aload_n 2, 1)), (709, (.aload_n 0, 1)), (710, (.iload_n 3, 1)), (711, (.iconst 1, 1)), (712, (.iadd, 1)), (713, (.iaload, 1)), (714, (.invokevirtual 95, 3)), (717, (.if_icmp .eq 772, 3)), (720, (.iconst 0, 1)), (721, (.ireturn, 1)), (722, (.aload_n 1, 1)), (723, (.aload_n 0, 1)), (724, (.iload_n 3, 1)), (725, (.iconst 1, 1)), (726, (.iadd, 1)), (727, (.iaload, 1)), (728, (.invokevirtual 96, 3)), (731, (.aload_n 2, 1)), (732, (.aload_n 0, 1)), (733, (.iload_n 3, 1)), (734, (.iconst 1, 1)), (735, (.iadd, 1)), (736, (.iaload, 1)), (737, (.invokevirtual 99, 3)), (740, (.if_icmp .eq 749, 3)), (743, (.iconst 0, 1)), (744, (.ireturn, 1)), (745, (.aload_n 1, 1)), (746, (.aload_n 0, 1)), (747, (.iload_n 3, 1)), (748, (.iconst 1, 1)), (749, (.iadd, 1)), (750, (.iaload, 1)), (751, (.invokevirtual 100, 3)), (754, (.aload_n 2, 1)), (755, (.aload_n 0, 1))] = true := by decide +kernel
theorem DL_law_7 : gDec cL_law [(756, (.iload_n 3, 1)), (757, (.iconst 1, 1)), (758, (.iadd, 1)), (759, (.iaload, 1)), (760, (.invokevirtual 103, 3)), (763, (.if_icmp .eq 726, 3)), (766, (.iconst 0, 1)), (767, (.ireturn, 1)), (768, (.aload_n 1, 1)), (769, (.aload_n 0, 1)), (770, (.iload_n 3, 1)), (771, (.iconst 1, 1)), (772, (.iadd, 1)), (773, (.iaload, 1)), (774, (.aload_n 0, 1)), (775, (.iload_n 3, 1)), (776, (.iconst 2, 1)), (777, (.iadd, 1)), (778, (.iaload, 1)), (779, (.invokevirtual 104, 3)), (782, (.aload_n 2, 1)), (783, (.aload_n 0, 1)), (784, (.iload_n 3, 1)), (785, (.iconst 1, 1)), (786, (.iadd, 1)), (787, (.iaload, 1)), (788, (.aload_n 0, 1)), (789, (.iload_n 3, 1)), (790, (.iconst 2, 1)), (791, (.iadd, 1)), (792, (.iaload, 1)), (793, (.invokevirtual 107, 3)), (796, (.if_icmp .eq 693, 3)), (799, (.iconst 0, 1)), (800, (.ireturn, 1)), (801, (.aload_n 1, 1)), (802, (.aload_n 0, 1)), (803, (.iload_n 3, 1)), (804, (.iconst 1, 1)), (805, (.iadd, 1)), (806, (.iaload, 1)), (807, (.aload_n 0, 1)), (808, (.iload_n 3, 1)), (809, (.iconst 2, 1)), (810, (.iadd, 1)), (811, (.iaload, 1)), (812, (.aload_n 0, 1)), (813, (.iload_n 3, 1)), (814, (.iconst 3, 1)), (815, (.iadd, 1)), (816, (.iaload, 1)), (817, (.invokevirtual 108, 3)), (820, (.aload_n 2, 1)), (821, (.aload_n 0, 1)), (822, (.iload_n 3, 1)), (823, (.iconst 1, 1)), (824, (.iadd, 1)), (825, (.iaload, 1)), (826, (.aload_n 0, 1)), (827, (.iload_n 3, 1)), (828, (.iconst 2, 1)), (829, (.iadd, 1)), (830, (.iaload, 1)), (831, (.aload_n 0, 1))] = true := by decide +kernel
theorem DL_law_8 : gDec cL_law [(832, (.iload_n 3, 1)), (833, (.iconst 3, 1)), (834, (.iadd, 1)), (835, (.iaload, 1)), (836, (.invokevirtual 112, 3)), (839, (.if_icmp .eq 650, 3)), (842, (.iconst 0, 1)), (843, (.ireturn, 1)), (844, (.aload_n 1, 1)), (845, (.aload_n 0, 1)), (846, (.iload_n 3, 1)), (847, (.iconst 1, 1)), (848, (.iadd, 1)), (849, (.iaload, 1)), (850, (.aload_n 0, 1)), (851, (.iload_n 3, 1)), (852, (.iconst 2, 1)), (853, (.iadd, 1)), (854, (.iaload, 1)), (855, (.aload_n 0, 1)), (856, (.iload_n 3, 1)), (857, (.iconst 3, 1)), (858, (.iadd, 1)), (859, (.iaload, 1)), (860, (.aload_n 0, 1)), (861, (.iload_n 3, 1)), (862, (.iconst 4, 1)), (863, (.iadd, 1)), (864, (.iaload, 1)), (865, (.invokevirtual 113, 3)), (868, (.aload_n 2, 1)), (869, (.aload_n 0, 1)), (870, (.iload_n 3, 1)), (871, (.iconst 1, 1)), (872, (.iadd, 1)), (873, (.iaload, 1)), (874, (.aload_n 0, 1)), (875, (.iload_n 3, 1)), (876, (.iconst 2, 1)), (877, (.iadd, 1)), (878, (.iaload, 1)), (879, (.aload_n 0, 1)), (880, (.iload_n 3, 1)), (881, (.iconst 3, 1)), (882, (.iadd, 1)), (883, (.iaload, 1)), (884, (.aload_n 0, 1)), (885, (.iload_n 3, 1)), (886, (.iconst 4, 1)), (887, (.iadd, 1)), (888, (.iaload, 1)), (889, (.invokevirtual 116, 3)), (892, (.if_icmp .eq 597, 3)), (895, (.iconst 0, 1)), (896, (.ireturn, 1)), (897, (.aload_n 1, 1)), (898, (.aload_n 0, 1)), (899, (.iload_n 3, 1)), (900, (.iconst 1, 1)), (901, (.iadd, 1)), (902, (.iaload, 1)), (903, (.aload_n 0, 1)), (904, (.iload_n 3, 1)), (905, (.iconst 2, 1))] = true := by decide +kernel
theorem DL_law_9 : gDec cL_law [(906, (.iadd, 1)), (907, (.iaload, 1)), (908, (.aload_n 0, 1)), (909, (.iload_n 3, 1)), (910, (.iconst 3, 1)), (911, (.iadd, 1)), (912, (.iaload, 1)), (913, (.invokevirtual 117, 3)), (916, (.aload_n 2, 1)), (917, (.aload_n 0, 1)), (918, (.iload_n 3, 1)), (919, (.iconst 1, 1)), (920, (.iadd, 1)), (921, (.iaload, 1)), (922, (.aload_n 0, 1)), (923, (.iload_n 3, 1)), (924, (.iconst 2, 1)), (925, (.iadd, 1)), (926, (.iaload, 1)), (927, (.aload_n 0, 1)), (928, (.iload_n 3, 1)), (929, (.iconst 3, 1)), (930, (.iadd, 1)), (931, (.iaload, 1)), (932, (.invokevirtual 120, 3)), (935, (.if_icmp .eq 554, 3)), (938, (.iconst 0, 1)), (939, (.ireturn, 1)), (940, (.aload_n 1, 1)), (941, (.aload_n 0, 1)), (942, (.iload_n 3, 1)), (943, (.iconst 1, 1)), (944, (.iadd, 1)), (945, (.iaload, 1)), (946, (.aload_n 0, 1)), (947, (.iload_n 3, 1)), (948, (.iconst 2, 1)), (949, (.iadd, 1)), (950, (.iaload, 1)), (951, (.invokevirtual 121, 3)), (954, (.aload_n 2, 1)), (955, (.aload_n 0, 1)), (956, (.iload_n 3, 1)), (957, (.iconst 1, 1)), (958, (.iadd, 1)), (959, (.iaload, 1)), (960, (.aload_n 0, 1)), (961, (.iload_n 3, 1)), (962, (.iconst 2, 1)), (963, (.iadd, 1)), (964, (.iaload, 1)), (965, (.invokevirtual 124, 3)), (968, (.if_icmp .eq 521, 3)), (971, (.iconst 0, 1)), (972, (.ireturn, 1)), (973, (.aload_n 1, 1)), (974, (.aload_n 0, 1)), (975, (.iload_n 3, 1)), (976, (.iconst 1, 1)), (977, (.iadd, 1)), (978, (.iaload, 1)), (979, (.aload_n 0, 1)), (980, (.iload_n 3, 1)), (981, (.iconst 2, 1))] = true := by decide +kernel
theorem DL_law_10 : gDec cL_law [(982, (.iadd, 1)), (983, (.iaload, 1)), (984, (.aload_n 0, 1)), (985, (.iload_n 3, 1)), (986, (.iconst 3, 1)), (987, (.iadd, 1)), (988, (.iaload, 1)), (989, (.ifCond .eq 7, 3)), (992, (.iconst 1, 1)), (993, (.goto 4, 3)), (996, (.iconst 0, 1)), (997, (.invokevirtual 125, 3)), (1000, (.aload_n 2, 1)), (1001, (.aload_n 0, 1)), (1002, (.iload_n 3, 1)), (1003, (.iconst 1, 1)), (1004, (.iadd, 1)), (1005, (.iaload, 1)), (1006, (.aload_n 0, 1)), (1007, (.iload_n 3, 1)), (1008, (.iconst 2, 1)), (1009, (.iadd, 1)), (1010, (.iaload, 1)), (1011, (.aload_n 0, 1)), (1012, (.iload_n 3, 1)), (1013, (.iconst 3, 1)), (1014, (.iadd, 1)), (1015, (.iaload, 1)), (1016, (.ifCond .eq 7, 3)), (1019, (.iconst 1, 1)), (1020, (.goto 4, 3)), (1023, (.iconst 0, 1)), (1024, (.invokevirtual 129, 3)), (1027, (.lcmp, 1)), (1028, (.ifCond .eq 461, 3)), (1031, (.iconst 0, 1)), (1032, (.ireturn, 1)), (1033, (.aload_n 1, 1)), (1034, (.aload_n 0, 1)), (1035, (.iload_n 3, 1)), (1036, (.iconst 1, 1)), (1037, (.iadd, 1)), (1038, (.iaload, 1)), (1039, (.aload_n 0, 1)), (1040, (.iload_n 3, 1)), (1041, (.iconst 2, 1)), (1042, (.iadd, 1)), (1043, (.iaload, 1)), (1044, (.aload_n 0, 1)), (1045, (.iload_n 3, 1)), (1046, (.iconst 3, 1)), (1047, (.iadd, 1)), (1048, (.iaload, 1)), (1049, (.ifCond .eq 7, 3)), (1052, (.iconst 1, 1)), (1053, (.goto 4, 3)), (1056, (.iconst 0, 1)), (1057, (.invokevirtual 130, 3)), (1060, (.aload_n 2, 1)), (1061, (.aload_n 0, 1)), (1062, (.iload_n 3, 1)), (1063, (.iconst 1, 1)), (1064, (.iadd, 1)), (1065, (.iaload, 1))] = true := by decide +kernel
theorem DL_law_11 : gDec cL_law [(1066, (.aload_n 0, 1)), (1067, (.iload_n 3, 1)), (1068, (.iconst 2, 1)), (1069, (.iadd, 1)), (1070, (.iaload, 1)), (1071, (.aload_n 0, 1)), (1072, (.iload_n 3, 1)), (1073, (.iconst 3, 1)), (1074, (.iadd, 1)), (1075, (.iaload, 1)), (1076, (.ifCond .eq 7, 3)), (1079, (.iconst 1, 1)), (1080, (.goto 4, 3)), (1083, (.iconst 0, 1)), (1084, (.invokevirtual 133, 3)), (1087, (.lcmp, 1)), (1088, (.ifCond .eq 401, 3)), (1091, (.iconst 0, 1)), (1092, (.ireturn, 1)), (1093, (.aload_n 1, 1)), (1094, (.aload_n 0, 1)), (1095, (.iload_n 3, 1)), (1096, (.iconst 1, 1)), (1097, (.iadd, 1)), (1098, (.iaload, 1)), (1099, (.aload_n 0, 1)), (1100, (.iload_n 3, 1)), (1101, (.iconst 2, 1)), (1102, (.iadd, 1)), (1103, (.iaload, 1)), (1104, (.aload_n 0, 1)), (1105, (.iload_n 3, 1)), (1106, (.iconst 3, 1)), (1107, (.iadd, 1)), (1108, (.iaload, 1)), (1109, (.aload_n 0, 1)), (1110, (.iload_n 3, 1)), (1111, (.iconst 4, 1)), (1112, (.iadd, 1)), (1113, (.iaload, 1)), (1114, (.aload_n 0, 1)), (1115, (.iload_n 3, 1)), (1116, (.iconst 5, 1)), (1117, (.iadd, 1)), (1118, (.iaload, 1)), (1119, (.ifCond .eq 7, 3)), (1122, (.iconst 1, 1)), (1123, (.goto 4, 3)), (1126, (.iconst 0, 1)), (1127, (.aload_n 0, 1)), (1128, (.iload_n 3, 1)), (1129, (.bipush 6, 2)), (1131, (.iadd, 1)), (1132, (.iaload, 1)), (1133, (.ifCond .eq 7, 3)), (1136, (.iconst 1, 1)), (1137, (.goto 4, 3)), (1140, (.iconst 0, 1)), (1141, (.invokevirtual 134, 3)), (1144, (.aload_n 2, 1)), (1145, (.aload_n 0, 1)), (1146, (.iload_n 3, 1)), (1147, (.iconst 1, 1)), (1148, (.iadd, 1))] = true := by decide +kernel
theorem DL_law_12 : gDec cL_law [(1149, (.iaload, 1)), (1150, (.aload_n 0, 1)), (1151, (.iload_n 3, 1)), (1152, (.iconst 2, 1)), (1153, (.iadd, 1)), (1154, (.iaload, 1)), (1155, (.aload_n 0, 1)), (1156, (.iload_n 3, 1)), (1157, (.iconst 3, 1)), (1158, (.iadd, 1)), (1159, (.iaload, 1)), (1160, (.aload_n 0, 1)), (1161, (.iload_n 3, 1)), (1162, (.iconst 4, 1)), (1163, (.iadd, 1)), (1164, (.iaload, 1)), (1165, (.aload_n 0, 1)), (1166, (.iload_n 3, 1)), (1167, (.iconst 5, 1)), (1168, (.iadd, 1)), (1169, (.iaload, 1)), (1170, (.ifCond .eq 7, 3)), (1173, (.iconst 1, 1)), (1174, (.goto 4, 3)), (1177, (.iconst 0, 1)), (1178, (.aload_n 0, 1)), (1179, (.iload_n 3, 1)), (1180, (.bipush 6, 2)), (1182, (.iadd, 1)), (1183, (.iaload, 1)), (1184, (.ifCond .eq 7, 3)), (1187, (.iconst 1, 1)), (1188, (.goto 4, 3)), (1191, (.iconst 0, 1)), (1192, (.invokevirtual 138, 3)), (1195, (.lcmp, 1)), (1196, (.ifCond .eq 293, 3)), (1199, (.iconst 0, 1)), (1200, (.ireturn, 1)), (1201, (.aload_n 1, 1)), (1202, (.aload_n 0, 1)), (1203, (.iload_n 3, 1)), (1204, (.iconst 1, 1)), (1205, (.iadd, 1)), (1206, (.iaload, 1)), (1207, (.aload_n 0, 1)), (1208, (.iload_n 3, 1)), (1209, (.iconst 2, 1)), (1210, (.iadd, 1)), (1211, (.iaload, 1)), (1212, (.invokevirtual 139, 3)), (1215, (.aload_n 2, 1)), (1216, (.aload_n 0, 1)), (1217, (.iload_n 3, 1)), (1218, (.iconst 1, 1)), (1219, (.iadd, 1)), (1220, (.iaload, 1)), (1221, (.aload_n 0, 1)), (1222, (.iload_n 3, 1)), (1223, (.iconst 2, 1)), (1224, (.iadd, 1)), (1225, (.iaload, 1)), (1226, (.invokevirtual 142, 3)), (1229, (.if_icmp .eq 260, 3))] = true := by decide +kernel
theorem DL_law_13 : gDec cL_law [(1232, (.iconst 0, 1)), (1233, (.ireturn, 1)), (1234, (.aload_n 1, 1)), (1235, (.aload_n 0, 1)), (1236, (.iload_n 3, 1)), (1237, (.iconst 1, 1)), (1238, (.iadd, 1)), (1239, (.iaload, 1)), (1240, (.invokevirtual 143, 3)), (1243, (.aload_n 2, 1)), (1244, (.aload_n 0, 1)), (1245, (.iload_n 3, 1)), (1246, (.iconst 1, 1)), (1247, (.iadd, 1)), (1248, (.iaload, 1)), (1249, (.invokevirtual 146, 3)), (1252, (.if_icmp .eq 237, 3)), (1255, (.iconst 0, 1)), (1256, (.ireturn, 1)), (1257, (.aload_n 1, 1)), (1258, (.invokevirtual 147, 3)), (1261, (.aload_n 2, 1)), (1262, (.invokevirtual 150, 3)), (1265, (.if_icmp .eq 224, 3)), (1268, (.iconst 0, 1)), (1269, (.ireturn, 1)), (1270, (.aload_n 1, 1)), (1271, (.aload_n 0, 1)), (1272, (.iload_n 3, 1)), (1273, (.iconst 1, 1)), (1274, (.iadd, 1)), (1275, (.iaload, 1)), (1276, (.aload_n 0, 1)), (1277, (.iload_n 3, 1)), (1278, (.iconst 2, 1)), (1279, (.iadd, 1)), (1280, (.iaload, 1)), (1281, (.aload_n 0, 1)), (1282, (.iload_n 3, 1)), (1283, (.iconst 3, 1)), (1284, (.iadd, 1)), (1285, (.iaload, 1)), (1286, (.aload_n 0, 1)), (1287, (.iload_n 3, 1)), (1288, (.iconst 4, 1)), (1289, (.iadd, 1)), (1290, (.iaload, 1)), (1291, (.aload_n 0, 1)), (1292, (.iload_n 3, 1)), (1293, (.iconst 5, 1)), (1294, (.iadd, 1)), (1295, (.iaload, 1)), (1296, (.ifCond .eq 7, 3)), (1299, (.iconst 1, 1)), (1300, (.goto 4, 3)), (1303, (.iconst 0, 1)), (1304, (.invokevirtual 151, 3)), (1307, (.aload_n 2, 1)), (1308, (.aload_n 0, 1)), (1309, (.iload_n 3, 1)), (1310, (.iconst 1, 1)), (1311, (.iadd, 1)), (1312, (.iaload, 1)), (1313, (.aload_n 0, 1))] = true := by decide +kernel
theorem DL_law_14 : gDec cL_law [(1314, (.iload_n 3, 1)), (1315, (.iconst 2, 1)), (1316, (.iadd, 1)), (1317, (.iaload, 1)), (1318, (.aload_n 0, 1)), (1319, (.iload_n 3, 1)), (1320, (.iconst 3, 1)), (1321, (.iadd, 1)), (1322, (.iaload, 1)), (1323, (.aload_n 0, 1)), (1324, (.iload_n 3, 1)), (1325, (.iconst 4, 1)), (1326, (.iadd, 1)), (1327, (.iaload, 1)), (1328, (.aload_n 0, 1)), (1329, (.iload_n 3, 1)), (1330, (.iconst 5, 1)), (1331, (.iadd, 1)), (1332, (.iaload, 1)), (1333, (.ifCond .eq 7, 3)), (1336, (.iconst 1, 1)), (1337, (.goto 4, 3)), (1340, (.iconst 0, 1)), (1341, (.invokevirtual 155, 3)), (1344, (.lcmp, 1)), (1345, (.ifCond .eq 144, 3)), (1348, (.iconst 0, 1)), (1349, (.ireturn, 1)), (1350, (.aload_n 1, 1)), (1351, (.aload_n 0, 1)), (1352, (.iload_n 3, 1)), (1353, (.iconst 1, 1)), (1354, (.iadd, 1)), (1355, (.iaload, 1)), (1356, (.aload_n 0, 1)), (1357, (.iload_n 3, 1)), (1358, (.iconst 2, 1)), (1359, (.iadd, 1)), (1360, (.iaload, 1)), (1361, (.aload_n 0, 1)), (1362, (.iload_n 3, 1)), (1363, (.iconst 3, 1)), (1364, (.iadd, 1)), (1365, (.iaload, 1)), (1366, (.aload_n 0, 1)), (1367, (.iload_n 3, 1)), (1368, (.iconst 4, 1)), (1369, (.iadd, 1)), (1370, (.iaload, 1)), (1371, (.ifCond .eq 7, 3)), (1374, (.iconst 1, 1)), (1375, (.goto 4, 3)), (1378, (.iconst 0, 1)), (1379, (.invokevirtual 156, 3)), (1382, (.aload_n 2, 1)), (1383, (.aload_n 0, 1)), (1384, (.iload_n 3, 1)), (1385, (.iconst 1, 1)), (1386, (.iadd, 1)), (1387, (.iaload, 1)), (1388, (.aload_n 0, 1)), (1389, (.iload_n 3, 1)), (1390, (.iconst 2, 1)), (1391, (.iadd, 1))] = true := by decide +kernel
theorem DL_law_15 : gDec cL_law [(1392, (.iaload, 1)), (1393, (.aload_n 0, 1)), (1394, (.iload_n 3, 1)), (1395, (.iconst 3, 1)), (1396, (.iadd, 1)), (1397, (.iaload, 1)), (1398, (.aload_n 0, 1)), (1399, (.iload_n 3, 1)), (1400, (.iconst 4, 1)), (1401, (.iadd, 1)), (1402, (.iaload, 1)), (1403, (.ifCond .eq 7, 3)), (1406, (.iconst 1, 1)), (1407, (.goto 4, 3)), (1410, (.iconst 0, 1)), (1411, (.invokevirtual 160, 3)), (1414, (.lcmp, 1)), (1415, (.ifCond .eq 74, 3)), (1418, (.iconst 0, 1)), (1419, (.ireturn, 1)), (1420, (.aload_n 1, 1)), (1421, (.aload_n 0, 1)), (1422, (.iload_n 3, 1)), (1423, (.iconst 1, 1)), (1424, (.iadd, 1)), (1425, (.iaload, 1)), (1426, (.invokevirtual 161, 3)), (1429, (.aload_n 2, 1)), (1430, (.aload_n 0, 1)), (1431, (.iload_n 3, 1)), (1432, (.iconst 1, 1)), (1433, (.iadd, 1)), (1434, (.iaload, 1)), (1435, (.invokevirtual 164, 3)), (1438, (.if_icmp .eq 51, 3)), (1441, (.iconst 0, 1)), (1442, (.ireturn, 1)), (1443, (.aload_n 1, 1)), (1444, (.aload_n 0, 1)), (1445, (.iload_n 3, 1)), (1446, (.iconst 1, 1)), (1447, (.iadd, 1)), (1448, (.iaload, 1)), (1449, (.invokevirtual 165, 3)), (1452, (.aload_n 2, 1)), (1453, (.aload_n 0, 1)), (1454, (.iload_n 3, 1)), (1455, (.iconst 1, 1)), (1456, (.iadd, 1)), (1457, (.iaload, 1)), (1458, (.invokevirtual 168, 3)), (1461, (.if_icmp .eq 28, 3)), (1464, (.iconst 0, 1)), (1465, (.ireturn, 1)), (1466, (.aload_n 1, 1)), (1467, (.aload_n 0, 1)), (1468, (.iload_n 3, 1)), (1469, (.iconst 1, 1)), (1470, (.iadd, 1)), (1471, (.iaload, 1)), (1472, (.invokevirtual 169, 3)), (1475, (.aload_n 2, 1)), (1476, (.aload_n 0, 1)), (1477, (.iload_n 3, 1))] = true := by decide +kernel
theorem DL_law_16 : gDec cL_law [(1478, (.iconst 1, 1)), (1479, (.iadd, 1)), (1480, (.iaload, 1)), (1481, (.invokevirtual 172, 3)), (1484, (.if_icmp .eq 5, 3)), (1487, (.iconst 0, 1)), (1488, (.ireturn, 1)), (1489, (.iinc 3 7, 3)), (1492, (.goto (-1474), 3)), (1495, (.iconst 1, 1)), (1496, (.ireturn, 1))] = true := by decide +kernel
end
section
/-! THE FRAME OF ALL WALKS: a world is a fixed number of cells at addresses that differ; its memory is a row of ints and a row of longs a cell; 'gG' is the machine at a program counter with listed locals and a stack over a memory; 'gCt' is a method's contract over such a world. -/
-- the tables' good words: every method takes all of them; the nest mates' links ride in the contracts' starts
def gTb : List Cond := lw_tbl.filter goodWord
def gNest : Cond → Bool
  | .fieldLinkNest .. => true
  | .methodLinkNest .. => true
  | _ => false
def gN (U : State) : Prop := ∀ w ∈ lw_tbl, gNest w = true → va_Nw w U
theorem gN.warm {s U : State} (hW : s.WarmedH U.vm) (h : gN s) : gN U := by
  intro w hw hn
  have h1 := h w hw hn
  cases w <;> first | exact va_Nw.warmF hW h1 | exact va_Nw.warmM hW h1 | exact absurd hn Bool.false_ne_true
theorem gN.same {s U : State} (hv : s.vm = U.vm) (h : gN s) : gN U := by
  intro w hw hn
  have h1 := h w hw hn
  cases w <;> first | exact absurd hn Bool.false_ne_true | exact va_Nw.same rfl hv h1
theorem gTb_in {w : Cond} (h : w ∈ lw_tbl) (hg : goodWord w = true) : w ∈ gTb := List.mem_filter.mpr ⟨h, hg⟩
theorem gTb_code {y : MethodName} {bytes : ByteArray} {maxL : Nat} {ret : Option FieldType} (h : Cond.code y bytes maxL ret ∈ lw_tbl) : GoodIn gTb (.code y bytes maxL ret :: gTb) := by
  intro w hw
  rcases List.mem_cons.mp hw with rfl | hw
  · exact ⟨gTb_in h rfl, Or.inl rfl⟩
  · exact ⟨hw, good_of_word (List.mem_filter.mp hw).2⟩
abbrev gM : Type := (Nat → Nat → Int32) × (Nat → Nat → Int64)
abbrev gW : Type := va_G × List (ClassId × FieldType) × Nat × (Nat → Nat) × ((Nat → Int32) → (Nat → Int64) → Nat → va_E)
def gws (n : Nat) (ad : Nat → Nat) (ct : Nat → va_E) : va_W := (List.range n).map fun i => (ad i, ct i)
theorem gws_get {n : Nat} {ad : Nat → Nat} {ct : Nat → va_E} {i : Nat} (h : i < n) : (gws n ad ct)[i]? = some (ad i, ct i) := by
  simp [gws, List.getElem?_range h]
theorem gws_of {n : Nat} {ad : Nat → Nat} {ct : Nat → va_E} {k : Nat} {q : Nat × va_E} (h : (gws n ad ct)[k]? = some q) : k < n ∧ q = (ad k, ct k) := by
  have hk : k < n := by
    have := (List.getElem?_eq_some_iff.mp h).1
    simpa [gws] using this
  rw [gws_get hk] at h
  exact ⟨hk, (Option.some.inj h).symm⟩
theorem gws_set {n : Nat} {ad : Nat → Nat} {ct ct' : Nat → va_E} {i : Nat} {e : va_E} (h : ∀ j, j < n → ct' j = if j = i then e else ct j) : (gws n ad ct).set i (ad i, e) = gws n ad ct' := by
  apply List.ext_getElem?
  intro j
  rw [List.getElem?_set]
  by_cases hj : j < n
  · rw [gws_get hj, gws_get hj, h j hj]
    by_cases e1 : i = j
    · subst e1
      have : i < (gws n ad ct).length := by simpa [gws] using hj
      simp [this]
    · rw [if_neg e1, if_neg (fun q => e1 q.symm)]
  · have l1 : (gws n ad ct).length = n := by simp [gws]
    have l2 : (gws n ad ct').length = n := by simp [gws]
    rw [List.getElem?_eq_none (l := gws n ad ct') (by omega), List.getElem?_eq_none (l := gws n ad ct) (by omega)]
    split <;> simp <;> omega
def gPic (w : gW) (M : gM) (H : Heap) : Prop := va_P w.1 vwCl (gws w.2.2.1 w.2.2.2.1 (fun i => w.2.2.2.2 (M.1 i) (M.2 i) i)) H
def gA (w : gW) : Nat → Prop := fun q => ∃ i, i < w.2.2.1 ∧ q = w.2.2.2.1 i
def gI (w : gW) : Prop := ∀ i j, i < w.2.2.1 → j < w.2.2.1 → w.2.2.2.1 i = w.2.2.2.1 j → i = j
theorem gI.D {w : gW} (h : gI w) (ct : Nat → va_E) : va_D (gA w) (gws w.2.2.1 w.2.2.2.1 ct) := by
  refine ⟨fun i j p q hp hq hpq => ?_, fun k q hq => ?_⟩
  · obtain ⟨h1, rfl⟩ := gws_of hp
    obtain ⟨h2, rfl⟩ := gws_of hq
    exact h i j h1 h2 hpq
  · obtain ⟨h1, rfl⟩ := gws_of hq
    exact ⟨k, h1, rfl⟩
abbrev gX : Type := Program × Launch × Env × Room × State × MethodId × Array Value × List Frame × Method × Code
def gRm (d : Nat) : Room := { frames := d, cells := 0, slots := 0, locals := 64 * d }
def gPc (w : gW) (As : List Value) (M : gM) : Array Value → State → Prop := fun v U => v = As.toArray ∧ gPic w M U.heap ∧ va_K w.1 vwCl w.2.1 U ∧ gI w ∧ gN U
def gQ (w : gW) (post : Option Value → gM → Prop) : Array Value → State → Outcome → State → Prop := fun _ st oc t => (∃ (v : Option Value) (M' : gM), oc = .returned v ∧ post v M' ∧ gPic w M' t.heap) ∧ va_F (gA w) st t
/-- a method's contract: from the memory M and the arguments As it returns, with 'post answer memory', and no cell outside the world has changed -/
def gCt (w : gW) (y : MethodName) (bytes : ByteArray) (maxL : Nat) (ret : Option FieldType) (d : Nat) (As : List Value) (M : gM) (post : Option Value → gM → Prop) : Prop :=
  ∀ l : Launch, Met l y (.code y bytes maxL ret :: gTb) (gRm d) (gPc w As M) (gQ w post) 0 0 (gA w)
def gG (X : gX) (w : gW) (post : Option Value → gM → Prop) (nL : Nat) (M : gM) (pc : Nat) (L : List (Nat × Value)) (st : List Value) : Prop :=
  ∀ (H : Heap) (locs : List Loc) (ls : Array Slot), gPic w M H → va_S (gA w) X.2.2.2.2.1.heap H locs → lv_has ls nL L →
    W X.1 X.2.1 X.2.2.1 X.2.2.2.1 X.2.2.2.2.1 X.2.2.2.2.2.1 X.2.2.2.2.2.2.1 X.2.2.2.2.2.2.2.1 X.2.2.2.2.2.2.2.2.1 X.2.2.2.2.2.2.2.2.2 H locs 0 0 (MQ X.2.2.2.2.2.2.2.1 (gQ w post) X.2.2.2.2.2.2.1 X.2.2.2.2.1 0 0 (gA w)) (F0 X.2.2.2.2.2.1 pc ls st)
def gC (X : gX) (w : gW) (cc : ByteArray) (nL : Nat) (own : String) (ret : Option FieldType) (d : Nat) : Prop :=
  X.1.tables.exec = Jvm.exec ∧ X.2.2.2.2.2.2.2.2.2.code = cc ∧ X.2.2.2.2.2.2.2.2.2.maxLocals = nL ∧ X.2.2.2.2.1.vm.findClass own = some X.2.2.2.2.2.1.cls ∧ (∀ w ∈ gTb, w.before X.2.2.2.2.2.2.1 X.2.2.2.2.1 = true) ∧
  X.2.2.2.2.2.2.2.2.1.sig.returnType = ret ∧ X.2.2.2.2.2.2.2.2.1.locks = false ∧ va_K w.1 vwCl w.2.1 X.2.2.2.2.1 ∧ gI w ∧ gN X.2.2.2.2.1 ∧ d ≤ X.2.2.2.1.frames ∧ 64 * d ≤ X.2.2.2.1.locals
theorem gMet {w : gW} {y : MethodName} {bytes : ByteArray} {maxL d : Nat} {ret : Option FieldType} {As : List Value} {M : gM} {post : Option Value → gM → Prop} (own : String) (hy : plainName y.cls = true) (ho : y.cls = own) (hfit : (lg_sl As).length ≤ maxL)
    (body : ∀ X : gX, gC X w bytes maxL own ret d → gG X w post maxL M 0 (lv_args 0 As) []) : gCt w y bytes maxL ret d As M post := by
  intro l
  refine Met.ofW (cc := bytes) (maxL := maxL) (ret := ret) hy rfl ?_
  intro p e s m args below meth c s₁ B hml hv
  obtain ⟨rfl, hP, hK, hI, hN⟩ := hv
  have hts := atoms_spec (ws := .code y bytes maxL ret :: gTb) B.pre
  have hown : s.vm.findClass y.cls = some m.cls := findClass_of_methodNamed B.named
  rw [ho] at hown
  rw [lg_entry_eq]
  exact body (p, l, e, gRm d, s, m, As.toArray, below, meth, c) ⟨B.exec, B.bytes, hml, hown, fun w h => hts w (List.mem_cons_of_mem _ h), B.returns, B.notSynchronized, hK, hI, hN, Nat.le_refl _, Nat.le_refl _⟩ s.heap [] _ hP va_S.rf (lv_entry As hfit)
/-- locals by their number -/
def lvg : List (Nat × Value) → Nat → Option Value
  | [], _ => none
  | (j, v) :: t, i => if j = i then some v else lvg t i
theorem lvg_mem {L : List (Nat × Value)} {i : Nat} {v : Value} (h : lvg L i = some v) : (i, v) ∈ L := by
  induction L with
  | nil => cases h
  | cons q t ih =>
    obtain ⟨j, u⟩ := q
    unfold lvg at h
    by_cases e : j = i
    · rw [if_pos e] at h
      cases h
      subst e
      exact List.mem_cons_self
    · rw [if_neg e] at h
      exact List.mem_cons_of_mem _ (ih h)
theorem lvg_at {ls : Array Slot} {nL : Nat} {L : List (Nat × Value)} {i : Nat} {v : Value} (h : lv_has ls nL L) (hl : lvg L i = some v) : ls[i]? = some (.val v) := h.2.2 (i, v) (lvg_mem hl)
section Rows
variable {X : gX} {w : gW} {post : Option Value → gM → Prop} {nL : Nat} {M : gM} {pc : Nat} {L : List (Nat × Value)} {st : List Value} {cc : ByteArray} {own : String} {ret : Option FieldType} {d : Nat}
theorem g_sub (ks : List Nat) {L' : List (Nat × Value)} (hl : lv_pick L ks = L') (k : gG X w post nL M pc L' st) : gG X w post nL M pc L st := fun H locs ls hP hS hL => k H locs ls hP hS (lv_sub hL ks hl)
theorem g_iconst (hC : gC X w cc nL own ret d) {n : Int} {v : Int32} (hd : decode cc pc = .ok (.iconst n, 1)) (hv : Int32.ofInt n = v) (k : gG X w post nL M (pc + 1) L (.int v :: st)) : gG X w post nL M pc L st := fun H locs ls hP hS hL => lv_iconst hC.1 hC.2.1 hd hv (k H locs ls hP hS hL)
theorem g_bipush (hC : gC X w cc nL own ret d) {n : Int} {v : Int32} (hd : decode cc pc = .ok (.bipush n, 2)) (hv : (Int8.ofInt n).toInt32 = v) (k : gG X w post nL M (pc + 2) L (.int v :: st)) : gG X w post nL M pc L st := fun H locs ls hP hS hL => lv_bipush hC.1 hC.2.1 hd hv (k H locs ls hP hS hL)
theorem g_sipush (hC : gC X w cc nL own ret d) {n : Int} {v : Int32} (hd : decode cc pc = .ok (.sipush n, 3)) (hv : (Int16.ofInt n).toInt32 = v) (k : gG X w post nL M (pc + 3) L (.int v :: st)) : gG X w post nL M pc L st := fun H locs ls hP hS hL => lv_sipush hC.1 hC.2.1 hd hv (k H locs ls hP hS hL)
theorem g_lconst (hC : gC X w cc nL own ret d) {n : Fin 2} {v : Int64} (hd : decode cc pc = .ok (.lconst n, 1)) (hv : Int64.ofNat (n : Nat) = v) (k : gG X w post nL M (pc + 1) L (.long v :: st)) : gG X w post nL M pc L st := fun H locs ls hP hS hL => lv_lconst hC.1 hC.2.1 hd hv (k H locs ls hP hS hL)
theorem g_ldc2 (hC : gC X w cc nL own ret d) {i : Nat} {v : Int64} (hc : Cond.constantLong own i v ∈ gTb) {v' : Int64} (hv : v = v') (hd : decode cc pc = .ok (.ldc2_w i, 3)) (k : gG X w post nL M (pc + 3) L (.long v' :: st)) : gG X w post nL M pc L st := by
  subst hv
  exact fun H locs ls hP hS hL => lv_ldc2 hC.1 hC.2.1 hC.2.2.2.1 (hC.2.2.2.2.1 _ hc) hd (k H locs ls hP hS hL)
theorem g_null (hC : gC X w cc nL own ret d) (hd : decode cc pc = .ok (.aconst_null, 1)) (k : gG X w post nL M (pc + 1) L (.null :: st)) : gG X w post nL M pc L st := fun H locs ls hP hS hL => lv_null hC.1 hC.2.1 hd (k H locs ls hP hS hL)
theorem g_iload_n (hC : gC X w cc nL own ret d) {i : Fin 4} {x : Int32} (hd : decode cc pc = .ok (.iload_n i, 1)) (hl : lvg L i = some (.int x)) (k : gG X w post nL M (pc + 1) L (.int x :: st)) : gG X w post nL M pc L st := fun H locs ls hP hS hL => lv_iload_n hC.1 hC.2.1 hd rfl (lvg_at hL hl) (k H locs ls hP hS hL)
theorem g_iload (hC : gC X w cc nL own ret d) {i : Nat} {x : Int32} (hd : decode cc pc = .ok (.iload i, 2)) (hl : lvg L i = some (.int x)) (k : gG X w post nL M (pc + 2) L (.int x :: st)) : gG X w post nL M pc L st := fun H locs ls hP hS hL => lv_iload hC.1 hC.2.1 hd (lvg_at hL hl) (k H locs ls hP hS hL)
theorem g_lload_n (hC : gC X w cc nL own ret d) {i : Fin 4} {x : Int64} (hd : decode cc pc = .ok (.lload_n i, 1)) (hl : lvg L i = some (.long x)) (k : gG X w post nL M (pc + 1) L (.long x :: st)) : gG X w post nL M pc L st := fun H locs ls hP hS hL => lv_lload_n hC.1 hC.2.1 hd rfl (lvg_at hL hl) (k H locs ls hP hS hL)
theorem g_lload (hC : gC X w cc nL own ret d) {i : Nat} {x : Int64} (hd : decode cc pc = .ok (.lload i, 2)) (hl : lvg L i = some (.long x)) (k : gG X w post nL M (pc + 2) L (.long x :: st)) : gG X w post nL M pc L st := fun H locs ls hP hS hL => lv_lload hC.1 hC.2.1 hd (lvg_at hL hl) (k H locs ls hP hS hL)
theorem g_aload_n (hC : gC X w cc nL own ret d) {i : Fin 4} {x : Nat} (hd : decode cc pc = .ok (.aload_n i, 1)) (hl : lvg L i = some (.ref x)) (k : gG X w post nL M (pc + 1) L (.ref x :: st)) : gG X w post nL M pc L st := fun H locs ls hP hS hL => lv_aload_n hC.1 hC.2.1 hd rfl (lvg_at hL hl) (k H locs ls hP hS hL)
theorem g_aload (hC : gC X w cc nL own ret d) {i : Nat} {x : Nat} (hd : decode cc pc = .ok (.aload i, 2)) (hl : lvg L i = some (.ref x)) (k : gG X w post nL M (pc + 2) L (.ref x :: st)) : gG X w post nL M pc L st := fun H locs ls hP hS hL => lv_aload hC.1 hC.2.1 hd (lvg_at hL hl) (k H locs ls hP hS hL)
theorem g_istore_n (hC : gC X w cc nL own ret d) {i : Fin 4} {x : Int32} (hd : decode cc pc = .ok (.istore_n i, 1)) (hn : (i : Nat) < nL) {L' : List (Nat × Value)} (hl : ((i : Nat), Value.int x) :: L.filter (fun q => !(q.1 == (i : Nat)) && !(q.1 + 1 == (i : Nat) && q.2.category == 2)) = L') (k : gG X w post nL M (pc + 1) L' st) : gG X w post nL M pc L (.int x :: st) := fun H locs ls hP hS hL => lv_istore_n hC.1 hC.2.1 hd rfl hL hn hl (fun ls hL => k H locs ls hP hS hL)
theorem g_istore (hC : gC X w cc nL own ret d) {i : Nat} {x : Int32} (hd : decode cc pc = .ok (.istore i, 2)) (hn : i < nL) {L' : List (Nat × Value)} (hl : (i, Value.int x) :: L.filter (fun q => !(q.1 == i) && !(q.1 + 1 == i && q.2.category == 2)) = L') (k : gG X w post nL M (pc + 2) L' st) : gG X w post nL M pc L (.int x :: st) := fun H locs ls hP hS hL => lv_istore hC.1 hC.2.1 hd hL hn hl (fun ls hL => k H locs ls hP hS hL)
theorem g_astore_n (hC : gC X w cc nL own ret d) {i : Fin 4} {x : Nat} (hd : decode cc pc = .ok (.astore_n i, 1)) (hn : (i : Nat) < nL) {L' : List (Nat × Value)} (hl : ((i : Nat), Value.ref x) :: L.filter (fun q => !(q.1 == (i : Nat)) && !(q.1 + 1 == (i : Nat) && q.2.category == 2)) = L') (k : gG X w post nL M (pc + 1) L' st) : gG X w post nL M pc L (.ref x :: st) := fun H locs ls hP hS hL => lv_astore_n hC.1 hC.2.1 hd rfl hL hn hl (fun ls hL => k H locs ls hP hS hL)
theorem g_astore (hC : gC X w cc nL own ret d) {i : Nat} {x : Nat} (hd : decode cc pc = .ok (.astore i, 2)) (hn : i < nL) {L' : List (Nat × Value)} (hl : (i, Value.ref x) :: L.filter (fun q => !(q.1 == i) && !(q.1 + 1 == i && q.2.category == 2)) = L') (k : gG X w post nL M (pc + 2) L' st) : gG X w post nL M pc L (.ref x :: st) := fun H locs ls hP hS hL => lv_astore hC.1 hC.2.1 hd hL hn hl (fun ls hL => k H locs ls hP hS hL)
theorem g_lstore_n (hC : gC X w cc nL own ret d) {i : Fin 4} {x : Int64} (hd : decode cc pc = .ok (.lstore_n i, 1)) (hn : (i : Nat) + 1 < nL) {L' : List (Nat × Value)} (hl : ((i : Nat), Value.long x) :: L.filter (fun q => !(q.1 == (i : Nat)) && (!(q.1 == (i : Nat) + 1) && !(q.1 + 1 == (i : Nat) && q.2.category == 2))) = L') (k : gG X w post nL M (pc + 1) L' st) : gG X w post nL M pc L (.long x :: st) := fun H locs ls hP hS hL => lv_lstore_n hC.1 hC.2.1 hd rfl hL hn hl (fun ls hL => k H locs ls hP hS hL)
theorem g_lstore (hC : gC X w cc nL own ret d) {i : Nat} {x : Int64} (hd : decode cc pc = .ok (.lstore i, 2)) (hn : i + 1 < nL) {L' : List (Nat × Value)} (hl : (i, Value.long x) :: L.filter (fun q => !(q.1 == i) && (!(q.1 == i + 1) && !(q.1 + 1 == i && q.2.category == 2))) = L') (k : gG X w post nL M (pc + 2) L' st) : gG X w post nL M pc L (.long x :: st) := fun H locs ls hP hS hL => lv_lstore hC.1 hC.2.1 hd hL hn hl (fun ls hL => k H locs ls hP hS hL)
theorem lvg_idx {L : List (Nat × Value)} {i : Nat} {v : Value} (h : lvg L i = some v) : ∃ k : Nat, L[k]? = some (i, v) := List.getElem?_of_mem (lvg_mem h)
theorem g_iinc (hC : gC X w cc nL own ret d) {i : Nat} {n : Int} {x v : Int32} (hd : decode cc pc = .ok (.iinc i n, 3)) (hg : lvg L i = some (.int x)) (hv : x + Int32.ofInt n = v) (hn : i < nL) {L' : List (Nat × Value)} (hl : (i, Value.int v) :: L.filter (fun q => !(q.1 == i) && !(q.1 + 1 == i && q.2.category == 2)) = L') (k : gG X w post nL M (pc + 3) L' st) : gG X w post nL M pc L st := by
  obtain ⟨j, hj⟩ := lvg_idx hg
  exact fun H locs ls hP hS hL => lv_iinc hC.1 hC.2.1 hd hL hj hv hn hl (fun ls hL => k H locs ls hP hS hL)
-- raw arithmetic; 'hv' names the answer
theorem g_iadd (hC : gC X w cc nL own ret d) {x y v : Int32} (hd : decode cc pc = .ok (.iadd, 1)) (hv : x + y = v) (k : gG X w post nL M (pc + 1) L (.int v :: st)) : gG X w post nL M pc L (.int y :: .int x :: st) := by subst hv; exact fun H locs ls hP hS hL => lv_iadd hC.1 hC.2.1 hd (k H locs ls hP hS hL)
theorem g_isub (hC : gC X w cc nL own ret d) {x y v : Int32} (hd : decode cc pc = .ok (.isub, 1)) (hv : x - y = v) (k : gG X w post nL M (pc + 1) L (.int v :: st)) : gG X w post nL M pc L (.int y :: .int x :: st) := by subst hv; exact fun H locs ls hP hS hL => lv_isub hC.1 hC.2.1 hd (k H locs ls hP hS hL)
theorem g_imul (hC : gC X w cc nL own ret d) {x y v : Int32} (hd : decode cc pc = .ok (.imul, 1)) (hv : x * y = v) (k : gG X w post nL M (pc + 1) L (.int v :: st)) : gG X w post nL M pc L (.int y :: .int x :: st) := by subst hv; exact fun H locs ls hP hS hL => lv_imul hC.1 hC.2.1 hd (k H locs ls hP hS hL)
theorem g_iand (hC : gC X w cc nL own ret d) {x y v : Int32} (hd : decode cc pc = .ok (.iand, 1)) (hv : x &&& y = v) (k : gG X w post nL M (pc + 1) L (.int v :: st)) : gG X w post nL M pc L (.int y :: .int x :: st) := by subst hv; exact fun H locs ls hP hS hL => lv_iand hC.1 hC.2.1 hd (k H locs ls hP hS hL)
theorem g_idiv (hC : gC X w cc nL own ret d) {x y v : Int32} (hd : decode cc pc = .ok (.idiv, 1)) (h0 : ¬ y = 0) (hv : x / y = v) (k : gG X w post nL M (pc + 1) L (.int v :: st)) : gG X w post nL M pc L (.int y :: .int x :: st) := by subst hv; exact fun H locs ls hP hS hL => lv_idiv hC.1 hC.2.1 hd h0 (k H locs ls hP hS hL)
theorem g_irem (hC : gC X w cc nL own ret d) {x y v : Int32} (hd : decode cc pc = .ok (.irem, 1)) (h0 : ¬ y = 0) (hv : x - x / y * y = v) (k : gG X w post nL M (pc + 1) L (.int v :: st)) : gG X w post nL M pc L (.int y :: .int x :: st) := by subst hv; exact fun H locs ls hP hS hL => lv_irem hC.1 hC.2.1 hd h0 (k H locs ls hP hS hL)
theorem g_ladd (hC : gC X w cc nL own ret d) {x y v : Int64} (hd : decode cc pc = .ok (.ladd, 1)) (hv : x + y = v) (k : gG X w post nL M (pc + 1) L (.long v :: st)) : gG X w post nL M pc L (.long y :: .long x :: st) := by subst hv; exact fun H locs ls hP hS hL => lv_ladd hC.1 hC.2.1 hd (k H locs ls hP hS hL)
theorem g_lsub (hC : gC X w cc nL own ret d) {x y v : Int64} (hd : decode cc pc = .ok (.lsub, 1)) (hv : x - y = v) (k : gG X w post nL M (pc + 1) L (.long v :: st)) : gG X w post nL M pc L (.long y :: .long x :: st) := by subst hv; exact fun H locs ls hP hS hL => lv_lsub hC.1 hC.2.1 hd (k H locs ls hP hS hL)
theorem g_lmul (hC : gC X w cc nL own ret d) {x y v : Int64} (hd : decode cc pc = .ok (.lmul, 1)) (hv : x * y = v) (k : gG X w post nL M (pc + 1) L (.long v :: st)) : gG X w post nL M pc L (.long y :: .long x :: st) := by subst hv; exact fun H locs ls hP hS hL => lv_lmul hC.1 hC.2.1 hd (k H locs ls hP hS hL)
theorem g_ldiv (hC : gC X w cc nL own ret d) {x y v : Int64} (hd : decode cc pc = .ok (.ldiv, 1)) (h0 : ¬ y = 0) (hv : x / y = v) (k : gG X w post nL M (pc + 1) L (.long v :: st)) : gG X w post nL M pc L (.long y :: .long x :: st) := by subst hv; exact fun H locs ls hP hS hL => lv_ldiv hC.1 hC.2.1 hd h0 (k H locs ls hP hS hL)
theorem g_lrem (hC : gC X w cc nL own ret d) {x y v : Int64} (hd : decode cc pc = .ok (.lrem, 1)) (h0 : ¬ y = 0) (hv : x - x / y * y = v) (k : gG X w post nL M (pc + 1) L (.long v :: st)) : gG X w post nL M pc L (.long y :: .long x :: st) := by subst hv; exact fun H locs ls hP hS hL => lv_lrem hC.1 hC.2.1 hd h0 (k H locs ls hP hS hL)
theorem g_i2l (hC : gC X w cc nL own ret d) {x : Int32} {v : Int64} (hd : decode cc pc = .ok (.i2l, 1)) (hv : x.toInt64 = v) (k : gG X w post nL M (pc + 1) L (.long v :: st)) : gG X w post nL M pc L (.int x :: st) := fun H locs ls hP hS hL => lv_i2l hC.1 hC.2.1 hd hv (k H locs ls hP hS hL)
theorem g_l2i (hC : gC X w cc nL own ret d) {x : Int64} {v : Int32} (hd : decode cc pc = .ok (.l2i, 1)) (hv : x.toInt32 = v) (k : gG X w post nL M (pc + 1) L (.int v :: st)) : gG X w post nL M pc L (.long x :: st) := fun H locs ls hP hS hL => lv_l2i hC.1 hC.2.1 hd hv (k H locs ls hP hS hL)
theorem g_lushr (hC : gC X w cc nL own ret d) {x v : Int64} {y : Int32} (hd : decode cc pc = .ok (.lushr, 1)) (hv : (x.toUInt64 >>> (y.toInt64.toUInt64 &&& Int64.toUInt64 63)).toInt64 = v) (k : gG X w post nL M (pc + 1) L (.long v :: st)) : gG X w post nL M pc L (.int y :: .long x :: st) := fun H locs ls hP hS hL => lv_lushr hC.1 hC.2.1 hd hv (k H locs ls hP hS hL)
theorem g_lshr (hC : gC X w cc nL own ret d) {x v : Int64} {y : Int32} (hd : decode cc pc = .ok (.lshr, 1)) (hv : x >>> (y.toInt64 &&& 63) = v) (k : gG X w post nL M (pc + 1) L (.long v :: st)) : gG X w post nL M pc L (.int y :: .long x :: st) := fun H locs ls hP hS hL => lv_lshr hC.1 hC.2.1 hd hv (k H locs ls hP hS hL)
theorem g_lcmp (hC : gC X w cc nL own ret d) {x y : Int64} (hd : decode cc pc = .ok (.lcmp, 1)) (k : gG X w post nL M (pc + 1) L (.int (lg_cmp x y) :: st)) : gG X w post nL M pc L (.long y :: .long x :: st) := fun H locs ls hP hS hL => W.lcmp hC.1 hC.2.1 hd (k H locs ls hP hS hL)
theorem g_dup (hC : gC X w cc nL own ret d) {v : Value} (hd : decode cc pc = .ok (.dup, 1)) (hv : v.category = 1) (k : gG X w post nL M (pc + 1) L (v :: v :: st)) : gG X w post nL M pc L (v :: st) := fun H locs ls hP hS hL => lv_dup hC.1 hC.2.1 hd hv (k H locs ls hP hS hL)
theorem g_dup2 (hC : gC X w cc nL own ret d) {v u : Value} (hd : decode cc pc = .ok (.dup2, 1)) (hv : v.category = 1) (hu : u.category = 1) (k : gG X w post nL M (pc + 1) L (v :: u :: v :: u :: st)) : gG X w post nL M pc L (v :: u :: st) := fun H locs ls hP hS hL => lv_dup2_11 hC.1 hC.2.1 hd hv hu (k H locs ls hP hS hL)
theorem g_dup_x1 (hC : gC X w cc nL own ret d) {v u : Value} (hd : decode cc pc = .ok (.dup_x1, 1)) (hv : v.category = 1) (hu : u.category = 1) (k : gG X w post nL M (pc + 1) L (v :: u :: v :: st)) : gG X w post nL M pc L (v :: u :: st) := fun H locs ls hP hS hL => lv_dup_x1 hC.1 hC.2.1 hd hv hu (k H locs ls hP hS hL)
theorem g_goto (hC : gC X w cc nL own ret d) {off : Int} (hd : decode cc pc = .ok (.goto off, 3)) (tgt : Nat) (ht : (pc : Int) + off = (tgt : Int)) (k : gG X w post nL M tgt L st) : gG X w post nL M pc L st := fun H locs ls hP hS hL => lv_goto hC.1 hC.2.1 hd ht (k H locs ls hP hS hL)
theorem g_if_eq (hC : gC X w cc nL own ret d) {x : Int32} {off : Int} (hd : decode cc pc = .ok (.ifCond .eq off, 3)) (tgt : Nat) (ht : (pc : Int) + off = (tgt : Int)) (kt : x = 0 → gG X w post nL M tgt L st) (kf : ¬ x = 0 → gG X w post nL M (pc + 3) L st) : gG X w post nL M pc L (.int x :: st) := fun H locs ls hP hS hL => lv_if_eq hC.1 hC.2.1 hd ht (fun h => kt h H locs ls hP hS hL) (fun h => kf h H locs ls hP hS hL)
theorem g_if_ne (hC : gC X w cc nL own ret d) {x : Int32} {off : Int} (hd : decode cc pc = .ok (.ifCond .ne off, 3)) (tgt : Nat) (ht : (pc : Int) + off = (tgt : Int)) (kt : ¬ x = 0 → gG X w post nL M tgt L st) (kf : x = 0 → gG X w post nL M (pc + 3) L st) : gG X w post nL M pc L (.int x :: st) := fun H locs ls hP hS hL => lv_if_ne hC.1 hC.2.1 hd ht (fun h => kt h H locs ls hP hS hL) (fun h => kf h H locs ls hP hS hL)
theorem g_if_lt (hC : gC X w cc nL own ret d) {x : Int32} {off : Int} (hd : decode cc pc = .ok (.ifCond .lt off, 3)) (tgt : Nat) (ht : (pc : Int) + off = (tgt : Int)) (kt : x < 0 → gG X w post nL M tgt L st) (kf : ¬ x < 0 → gG X w post nL M (pc + 3) L st) : gG X w post nL M pc L (.int x :: st) := fun H locs ls hP hS hL => lv_if_lt hC.1 hC.2.1 hd ht (fun h => kt h H locs ls hP hS hL) (fun h => kf h H locs ls hP hS hL)
theorem g_if_ge (hC : gC X w cc nL own ret d) {x : Int32} {off : Int} (hd : decode cc pc = .ok (.ifCond .ge off, 3)) (tgt : Nat) (ht : (pc : Int) + off = (tgt : Int)) (kt : 0 ≤ x → gG X w post nL M tgt L st) (kf : ¬ 0 ≤ x → gG X w post nL M (pc + 3) L st) : gG X w post nL M pc L (.int x :: st) := fun H locs ls hP hS hL => lv_if_ge hC.1 hC.2.1 hd ht (fun h => kt h H locs ls hP hS hL) (fun h => kf h H locs ls hP hS hL)
theorem g_if_gt (hC : gC X w cc nL own ret d) {x : Int32} {off : Int} (hd : decode cc pc = .ok (.ifCond .gt off, 3)) (tgt : Nat) (ht : (pc : Int) + off = (tgt : Int)) (kt : 0 < x → gG X w post nL M tgt L st) (kf : ¬ 0 < x → gG X w post nL M (pc + 3) L st) : gG X w post nL M pc L (.int x :: st) := fun H locs ls hP hS hL => lv_if_gt hC.1 hC.2.1 hd ht (fun h => kt h H locs ls hP hS hL) (fun h => kf h H locs ls hP hS hL)
theorem g_if_le (hC : gC X w cc nL own ret d) {x : Int32} {off : Int} (hd : decode cc pc = .ok (.ifCond .le off, 3)) (tgt : Nat) (ht : (pc : Int) + off = (tgt : Int)) (kt : x ≤ 0 → gG X w post nL M tgt L st) (kf : ¬ x ≤ 0 → gG X w post nL M (pc + 3) L st) : gG X w post nL M pc L (.int x :: st) := fun H locs ls hP hS hL => lv_if_le hC.1 hC.2.1 hd ht (fun h => kt h H locs ls hP hS hL) (fun h => kf h H locs ls hP hS hL)
theorem g_icmp_eq (hC : gC X w cc nL own ret d) {x y : Int32} {off : Int} (hd : decode cc pc = .ok (.if_icmp .eq off, 3)) (tgt : Nat) (ht : (pc : Int) + off = (tgt : Int)) (kt : x = y → gG X w post nL M tgt L st) (kf : ¬ x = y → gG X w post nL M (pc + 3) L st) : gG X w post nL M pc L (.int y :: .int x :: st) := fun H locs ls hP hS hL => lv_icmp_eq hC.1 hC.2.1 hd ht (fun h => kt h H locs ls hP hS hL) (fun h => kf h H locs ls hP hS hL)
theorem g_icmp_ne (hC : gC X w cc nL own ret d) {x y : Int32} {off : Int} (hd : decode cc pc = .ok (.if_icmp .ne off, 3)) (tgt : Nat) (ht : (pc : Int) + off = (tgt : Int)) (kt : ¬ x = y → gG X w post nL M tgt L st) (kf : x = y → gG X w post nL M (pc + 3) L st) : gG X w post nL M pc L (.int y :: .int x :: st) := fun H locs ls hP hS hL => lv_icmp_ne hC.1 hC.2.1 hd ht (fun h => kt h H locs ls hP hS hL) (fun h => kf h H locs ls hP hS hL)
theorem g_icmp_lt (hC : gC X w cc nL own ret d) {x y : Int32} {off : Int} (hd : decode cc pc = .ok (.if_icmp .lt off, 3)) (tgt : Nat) (ht : (pc : Int) + off = (tgt : Int)) (kt : x < y → gG X w post nL M tgt L st) (kf : ¬ x < y → gG X w post nL M (pc + 3) L st) : gG X w post nL M pc L (.int y :: .int x :: st) := fun H locs ls hP hS hL => lv_icmp_lt hC.1 hC.2.1 hd ht (fun h => kt h H locs ls hP hS hL) (fun h => kf h H locs ls hP hS hL)
theorem g_icmp_ge (hC : gC X w cc nL own ret d) {x y : Int32} {off : Int} (hd : decode cc pc = .ok (.if_icmp .ge off, 3)) (tgt : Nat) (ht : (pc : Int) + off = (tgt : Int)) (kt : y ≤ x → gG X w post nL M tgt L st) (kf : ¬ y ≤ x → gG X w post nL M (pc + 3) L st) : gG X w post nL M pc L (.int y :: .int x :: st) := fun H locs ls hP hS hL => lv_icmp_ge hC.1 hC.2.1 hd ht (fun h => kt h H locs ls hP hS hL) (fun h => kf h H locs ls hP hS hL)
theorem g_icmp_gt (hC : gC X w cc nL own ret d) {x y : Int32} {off : Int} (hd : decode cc pc = .ok (.if_icmp .gt off, 3)) (tgt : Nat) (ht : (pc : Int) + off = (tgt : Int)) (kt : y < x → gG X w post nL M tgt L st) (kf : ¬ y < x → gG X w post nL M (pc + 3) L st) : gG X w post nL M pc L (.int y :: .int x :: st) := fun H locs ls hP hS hL => lv_icmp_gt hC.1 hC.2.1 hd ht (fun h => kt h H locs ls hP hS hL) (fun h => kf h H locs ls hP hS hL)
theorem g_icmp_le (hC : gC X w cc nL own ret d) {x y : Int32} {off : Int} (hd : decode cc pc = .ok (.if_icmp .le off, 3)) (tgt : Nat) (ht : (pc : Int) + off = (tgt : Int)) (kt : x ≤ y → gG X w post nL M tgt L st) (kf : ¬ x ≤ y → gG X w post nL M (pc + 3) L st) : gG X w post nL M pc L (.int y :: .int x :: st) := fun H locs ls hP hS hL => lv_icmp_le hC.1 hC.2.1 hd ht (fun h => kt h H locs ls hP hS hL) (fun h => kf h H locs ls hP hS hL)
theorem g_ifnonnull (hC : gC X w cc nL own ret d) {x : Nat} {off : Int} (hd : decode cc pc = .ok (.ifnonnull off, 3)) (tgt : Nat) (ht : (pc : Int) + off = (tgt : Int)) (k : gG X w post nL M tgt L st) : gG X w post nL M pc L (.ref x :: st) := fun H locs ls hP hS hL => lv_ifnonnull hC.1 hC.2.1 hd ht (k H locs ls hP hS hL)
theorem g_ifnull (hC : gC X w cc nL own ret d) {x : Nat} {off : Int} (hd : decode cc pc = .ok (.ifnull off, 3)) (k : gG X w post nL M (pc + 3) L st) : gG X w post nL M pc L (.ref x :: st) := fun H locs ls hP hS hL => lv_ifnull hC.1 hC.2.1 hd (k H locs ls hP hS hL)
/-- another state of the stack that is the same -/
theorem g_st {st' : List Value} (h : st = st') (k : gG X w post nL M pc L st') : gG X w post nL M pc L st := h ▸ k
theorem g_M {M' : gM} (h : M = M') (k : gG X w post nL M' pc L st) : gG X w post nL M pc L st := h ▸ k
-- ends
theorem g_iret (hC : gC X w cc nL own (some .int) d) {v : Int32} (hd : decode cc pc = .ok (.ireturn, 1)) (hp : post (some (.int v)) M) : gG X w post nL M pc L [.int v] := fun H locs ls hP hS hL => by
  have hlocks := hC.2.2.2.2.2.2.1
  exact W.iret hC.1 hC.2.1 hC.2.2.2.2.2.1 (fun t ht hW => ⟨⟨_, M, rfl, hp, by rw [ht]; exact hP⟩, hS.F ht⟩) hS.2.2 hd
theorem g_lret (hC : gC X w cc nL own (some .long) d) {v : Int64} (hd : decode cc pc = .ok (.lreturn, 1)) (hp : post (some (.long v)) M) : gG X w post nL M pc L [.long v] := fun H locs ls hP hS hL => by
  have hlocks := hC.2.2.2.2.2.2.1
  exact W.lret hC.1 hC.2.1 hC.2.2.2.2.2.1 (fun t ht hW => ⟨⟨_, M, rfl, hp, by rw [ht]; exact hP⟩, hS.F ht⟩) hS.2.2 hd
theorem g_vret (hC : gC X w cc nL own none d) (hd : decode cc pc = .ok (.return_, 1)) (hp : post none M) : gG X w post nL M pc L [] := fun H locs ls hP hS hL => by
  have hlocks := hC.2.2.2.2.2.2.1
  exact W.vret hC.1 hC.2.1 hC.2.2.2.2.2.1 (fun t ht hW => ⟨⟨_, M, rfl, hp, by rw [ht]; exact hP⟩, hS.F ht⟩) hS.2.2 hd
theorem g_zret (hC : gC X w cc nL own (some .boolean) d) {v : Int32} (hn : v = 0 ∨ v = 1) (hd : decode cc pc = .ok (.ireturn, 1)) (hp : post (some (.int v)) M) : gG X w post nL M pc L [.int v] := fun H locs ls hP hS hL => by
  have hlocks := hC.2.2.2.2.2.2.1
  have hn' : narrow .boolean (.int v) = .int v := by rcases hn with rfl | rfl <;> rfl
  exact W.zret hC.1 hC.2.1 hC.2.2.2.2.2.1 hn' (fun t ht hW => ⟨⟨_, M, rfl, hp, by rw [ht]; exact hP⟩, hS.F ht⟩) hS.2.2 hd
theorem g_aret {rt : String} (hC : gC X w cc nL own (some (.object rt)) d) {v : Value} (hv : v = .null ∨ ∃ a, v = .ref a) (hd : decode cc pc = .ok (.areturn, 1)) (hp : post (some v) M) : gG X w post nL M pc L [v] := fun H locs ls hP hS hL => by
  have hlocks := hC.2.2.2.2.2.2.1
  exact W.aret hC.1 hC.2.1 hC.2.2.2.2.2.1 (Or.inl ⟨_, rfl⟩) hv (fun t ht hW => ⟨⟨_, M, rfl, hp, by rw [ht]; exact hP⟩, hS.F ht⟩) hS.2.2 hd
end Rows
end
section
/-! FIELDS, ARRAYS, CALLS over a world -/
def gFl (own : String) (idx ci k : Nat) : Prop := ∃ (C : String) (T : u_T) (N : Nat), vwCl[ci]? = some (C, T, N) ∧ k < N ∧ (T k).1 = C ∧ (∀ w ∈ u_ws C T N, w ∈ gTb) ∧ (Cond.fieldLink own idx C (T k).2.1 (T k).2.2.1 ∈ gTb ∨ ∃ host, Cond.fieldLinkNest own idx C (T k).2.1 (T k).2.2.1 host ∈ lw_tbl)
def gFp (ci k : Nat) (ty : FieldType) : Prop := ∃ (C : String) (T : u_T) (N : Nat) (ty0 : Nat → FieldType), vwCl[ci]? = some (C, T, N) ∧ (T k).2.2.2 = false ∧ parseFieldDescriptor (T k).2.2.1 = some ty ∧ (∀ k, k < N → parseFieldDescriptor (T k).2.2.1 = some (ty0 k)) ∧ (∀ a, a < N → ∀ b, b < N → a ≠ b → (T a).2.1 ≠ (T b).2.1)
def gupd (M : gM) (i k : Nat) (x : Int32) : gM := (fun j => if j = i then upd (M.1 i) k x else M.1 j, M.2)
def gupL (M : gM) (i k : Nat) (x : Int64) : gM := (M.1, fun j => if j = i then vp_updL (M.2 i) k x else M.2 j)
theorem gup_at {w : gW} {M : gM} {i k : Nat} {x : Int32} {e : va_E} (h : w.2.2.2.2 (upd (M.1 i) k x) (M.2 i) i = e) : ∀ j, j < w.2.2.1 → w.2.2.2.2 ((gupd M i k x).1 j) ((gupd M i k x).2 j) j = if j = i then e else w.2.2.2.2 (M.1 j) (M.2 j) j := by
  intro j _
  by_cases e1 : j = i
  · subst e1; simp only [gupd, if_pos]; exact h
  · simp only [gupd, if_neg e1]
theorem gupL_at {w : gW} {M : gM} {i k : Nat} {x : Int64} {e : va_E} (h : w.2.2.2.2 (M.1 i) (vp_updL (M.2 i) k x) i = e) : ∀ j, j < w.2.2.1 → w.2.2.2.2 ((gupL M i k x).1 j) ((gupL M i k x).2 j) j = if j = i then e else w.2.2.2.2 (M.1 j) (M.2 j) j := by
  intro j _
  by_cases e1 : j = i
  · subst e1; simp only [gupL, if_pos]; exact h
  · simp only [gupL, if_neg e1]
/-- what a call links, by the callee: virtual, static -/
def gVf (y : MethodName) (bytes : ByteArray) (maxL : Nat) (ret : Option FieldType) (n : Nat) : Prop := Cond.instanceMethod y ∈ gTb ∧ Cond.selects y.cls y y ∈ gTb ∧ Cond.initialized y.cls ∈ gTb ∧ Cond.code y bytes maxL ret ∈ lw_tbl ∧ (y.cls ≠ "java/lang/invoke/MethodHandle" ∧ y.cls ≠ "java/lang/invoke/VarHandle" ∧ (parseMethodDescriptor y.desc).map (fun d => d.parameters.length) = some n) ∧ maxL ≤ 30
def gSf (y : MethodName) (bytes : ByteArray) (maxL : Nat) (ret : Option FieldType) (n : Nat) : Prop := Cond.static y ∈ gTb ∧ Cond.initialized y.cls ∈ gTb ∧ Cond.code y bytes maxL ret ∈ lw_tbl ∧ (y.cls ≠ "java/lang/invoke/MethodHandle" ∧ y.cls ≠ "java/lang/invoke/VarHandle" ∧ (parseMethodDescriptor y.desc).map (fun d => d.parameters.length) = some n) ∧ maxL ≤ 30
theorem gBlind {w : gW} {As : List Value} {M : gM} : FrameBlind (gPc w As M) := by
  intro a U g mk q
  obtain ⟨q1, q2, q3, q4, q5⟩ := q
  exact ⟨q1, q2, va_K.moved (u := U) (U := U.calling g mk a) (Vm.Alike.refl U.vm) q3, q4, gN.same (s := U) (U := U.calling g mk a) rfl q5⟩
section Rows2
variable {X : gX} {w : gW} {post : Option Value → gM → Prop} {nL : Nat} {M : gM} {pc : Nat} {L : List (Nat × Value)} {st : List Value} {cc : ByteArray} {own : String} {ret : Option FieldType} {d : Nat}
theorem g_get (hC : gC X w cc nL own ret d) {idx ci k : Nat} (i : Nat) {fs : List Value} {v : Value} (hf : gFl own idx ci k) (hi : i < w.2.2.1) (hF : w.2.2.2.2 (M.1 i) (M.2 i) i = .inr (ci, fs)) (hv : fs[k]? = some v) (hd : decode cc pc = .ok (.getfield idx, 3)) (kk : gG X w post nL M (pc + 3) L (v :: st)) : gG X w post nL M pc L (.ref (w.2.2.2.1 i) :: st) := by
  intro H locs ls hP hS hL
  obtain ⟨C, T, N, h1, h2, h3, h4, h5⟩ := hf
  have he : (gws w.2.2.1 w.2.2.2.1 (fun i => w.2.2.2.2 (M.1 i) (M.2 i) i))[i]? = some (w.2.2.2.1 i, .inr (ci, fs)) := by rw [gws_get hi, hF]
  rcases h5 with h5 | ⟨host, h5⟩
  · exact va_get hC.1 hC.2.1 hC.2.2.2.2.1 h4 hC.2.2.2.1 hC.2.2.2.2.2.2.2.1 hP i he h1 k h2 (hC.2.2.2.2.1 _ h5) (fun x h => by rw [h3] at h; exact h) hv hd (kk H locs ls hP hS hL)
  · exact va_getN hC.1 hC.2.1 hC.2.2.2.2.1 h4 hC.2.2.2.1 hC.2.2.2.2.2.2.2.1 hP i he h1 k h2 (va_Nw.use rfl (hC.2.2.2.2.2.2.2.2.2.1 _ h5 rfl)) (fun x h => by rw [h3] at h; exact h) hv hd (kk H locs ls hP hS hL)
theorem g_put (hC : gC X w cc nL own ret d) {idx ci k : Nat} (i : Nat) {fs : List Value} {v : Value} {ty : FieldType} {M' : gM} (hf : gFl own idx ci k) (hp : gFp ci k ty) (hi : i < w.2.2.1) (hF : w.2.2.2.2 (M.1 i) (M.2 i) i = .inr (ci, fs)) (hl : k < fs.length) (hn : narrow ty v = v) (hfit : fits ty v = true) (hM : ∀ j, j < w.2.2.1 → w.2.2.2.2 (M'.1 j) (M'.2 j) j = if j = i then .inr (ci, fs.set k v) else w.2.2.2.2 (M.1 j) (M.2 j) j) (hd : decode cc pc = .ok (.putfield idx, 3)) (kk : gG X w post nL M' (pc + 3) L st) : gG X w post nL M pc L (v :: .ref (w.2.2.2.1 i) :: st) := by
  intro H locs ls hP hS hL
  obtain ⟨C, T, N, h1, h2, h3, h4, h5⟩ := hf
  obtain ⟨C', T', N', ty0, e1, e2, e3, e4, e5⟩ := hp
  have e0 := Option.some.inj (h1.symm.trans e1)
  cases e0
  have he : (gws w.2.2.1 w.2.2.2.1 (fun i => w.2.2.2.2 (M.1 i) (M.2 i) i))[i]? = some (w.2.2.2.1 i, .inr (ci, fs)) := by rw [gws_get hi, hF]
  have hset := gws_set (n := w.2.2.1) (ad := w.2.2.2.1) hM
  have hD := gI.D hC.2.2.2.2.2.2.2.2.1 (fun i => w.2.2.2.2 (M.1 i) (M.2 i) i)
  rcases h5 with h5 | ⟨host, h5⟩
  · exact va_put hC.1 hC.2.1 hC.2.2.2.2.1 h4 ty0 e4 e5 hC.2.2.2.1 hC.2.2.2.2.2.2.2.1 hP hD hS i he h1 k h2 (hC.2.2.2.2.1 _ h5) (fun x h => by rw [h3] at h; exact h) e2 e3 hn hfit hl hd (fun H1 locs1 hP1 _ hS1 => kk H1 locs1 ls (by rw [hset] at hP1; exact hP1) hS1 hL)
  · exact va_putN hC.1 hC.2.1 hC.2.2.2.2.1 h4 ty0 e4 e5 hC.2.2.2.1 hC.2.2.2.2.2.2.2.1 hP hD hS i he h1 k h2 (va_Nw.use rfl (hC.2.2.2.2.2.2.2.2.2.1 _ h5 rfl)) (fun x h => by rw [h3] at h; exact h) e2 e3 hn hfit hl hd (fun H1 locs1 hP1 _ hS1 => kk H1 locs1 ls (by rw [hset] at hP1; exact hP1) hS1 hL)
theorem g_putI (hC : gC X w cc nL own ret d) {idx ci k : Nat} (i : Nat) {fs fs' : List Value} {x : Int32} (hf : gFl own idx ci k) (hp : gFp ci k .int) (hi : i < w.2.2.1) (hF : w.2.2.2.2 (M.1 i) (M.2 i) i = .inr (ci, fs)) (hl : k < fs.length) (hF' : w.2.2.2.2 (upd (M.1 i) k x) (M.2 i) i = .inr (ci, fs')) (hs : fs' = fs.set k (.int x)) (hd : decode cc pc = .ok (.putfield idx, 3)) (kk : gG X w post nL (gupd M i k x) (pc + 3) L st) : gG X w post nL M pc L (.int x :: .ref (w.2.2.2.1 i) :: st) :=
  g_put hC i hf hp hi hF hl rfl rfl (gup_at (by rw [hF', hs])) hd kk
theorem g_putZ (hC : gC X w cc nL own ret d) {idx ci k : Nat} (i : Nat) {fs fs' : List Value} {x : Int32} (hx : x = 0 ∨ x = 1) (hf : gFl own idx ci k) (hp : gFp ci k .boolean) (hi : i < w.2.2.1) (hF : w.2.2.2.2 (M.1 i) (M.2 i) i = .inr (ci, fs)) (hl : k < fs.length) (hF' : w.2.2.2.2 (upd (M.1 i) k x) (M.2 i) i = .inr (ci, fs')) (hs : fs' = fs.set k (.int x)) (hd : decode cc pc = .ok (.putfield idx, 3)) (kk : gG X w post nL (gupd M i k x) (pc + 3) L st) : gG X w post nL M pc L (.int x :: .ref (w.2.2.2.1 i) :: st) :=
  g_put hC i hf hp hi hF hl (by rcases hx with rfl | rfl <;> rfl) (by rcases hx with rfl | rfl <;> rfl) (gup_at (by rw [hF', hs])) hd kk
theorem g_putJ (hC : gC X w cc nL own ret d) {idx ci k : Nat} (i : Nat) {fs fs' : List Value} {x : Int64} (hf : gFl own idx ci k) (hp : gFp ci k .long) (hi : i < w.2.2.1) (hF : w.2.2.2.2 (M.1 i) (M.2 i) i = .inr (ci, fs)) (hl : k < fs.length) (hF' : w.2.2.2.2 (M.1 i) (vp_updL (M.2 i) k x) i = .inr (ci, fs')) (hs : fs' = fs.set k (.long x)) (hd : decode cc pc = .ok (.putfield idx, 3)) (kk : gG X w post nL (gupL M i k x) (pc + 3) L st) : gG X w post nL M pc L (.long x :: .ref (w.2.2.2.1 i) :: st) :=
  g_put hC i hf hp hi hF hl rfl rfl (gupL_at (by rw [hF', hs])) hd kk
-- arrays: the place is a number
theorem g_iald (hC : gC X w cc nL own ret d) (i t0 j : Nat) {cA : ClassId} {n : Nat} {f : Nat → Int32} {x : Int32} (hi : i < w.2.2.1) (hF : w.2.2.2.2 (M.1 i) (M.2 i) i = .inl (cA, n, .inl f)) (ht : w.2.1[t0]? = some (cA, .int)) (hj : j < n) (hn : n < 2147483648) (hx : f j = x) (hd : decode cc pc = .ok (.iaload, 1)) (kk : gG X w post nL M (pc + 1) L (.int x :: st)) : gG X w post nL M pc L (.int (nI j) :: .ref (w.2.2.2.1 i) :: st) := by
  intro H locs ls hP hS hL
  have he : (gws w.2.2.1 w.2.2.2.1 (fun i => w.2.2.2.2 (M.1 i) (M.2 i) i))[i]? = some (w.2.2.2.1 i, .inl (cA, n, .inl f)) := by rw [gws_get hi, hF]
  refine va_iald hC.1 hC.2.1 hC.2.2.2.2.2.2.2.1 hP i t0 he ht (vp_in_nI hj hn) hd ?_
  rw [nI_clamp (by omega), hx]
  exact kk H locs ls hP hS hL
theorem g_zald (hC : gC X w cc nL own ret d) (i t0 j : Nat) {cA : ClassId} {n : Nat} {f : Nat → Int32} {x : Int32} (hi : i < w.2.2.1) (hF : w.2.2.2.2 (M.1 i) (M.2 i) i = .inl (cA, n, .inl f)) (ht : w.2.1[t0]? = some (cA, .boolean)) (hj : j < n) (hn : n < 2147483648) (hx : f j = x) (hd : decode cc pc = .ok (.baload, 1)) (kk : gG X w post nL M (pc + 1) L (.int x :: st)) : gG X w post nL M pc L (.int (nI j) :: .ref (w.2.2.2.1 i) :: st) := by
  intro H locs ls hP hS hL
  have he : (gws w.2.2.1 w.2.2.2.1 (fun i => w.2.2.2.2 (M.1 i) (M.2 i) i))[i]? = some (w.2.2.2.1 i, .inl (cA, n, .inl f)) := by rw [gws_get hi, hF]
  refine va_zald hC.1 hC.2.1 hC.2.2.2.2.2.2.2.1 hP i t0 he ht (vp_in_nI hj hn) hd ?_
  rw [nI_clamp (by omega), hx]
  exact kk H locs ls hP hS hL
theorem g_lald (hC : gC X w cc nL own ret d) (i t0 j : Nat) {cA : ClassId} {n : Nat} {f : Nat → Int64} {x : Int64} (hi : i < w.2.2.1) (hF : w.2.2.2.2 (M.1 i) (M.2 i) i = .inl (cA, n, .inr (.inl f))) (ht : w.2.1[t0]? = some (cA, .long)) (hj : j < n) (hn : n < 2147483648) (hx : f j = x) (hd : decode cc pc = .ok (.laload, 1)) (kk : gG X w post nL M (pc + 1) L (.long x :: st)) : gG X w post nL M pc L (.int (nI j) :: .ref (w.2.2.2.1 i) :: st) := by
  intro H locs ls hP hS hL
  have he : (gws w.2.2.1 w.2.2.2.1 (fun i => w.2.2.2.2 (M.1 i) (M.2 i) i))[i]? = some (w.2.2.2.1 i, .inl (cA, n, .inr (.inl f))) := by rw [gws_get hi, hF]
  refine va_lald hC.1 hC.2.1 hC.2.2.2.2.2.2.2.1 hP i t0 he ht (vp_in_nI hj hn) hd ?_
  rw [nI_clamp (by omega), hx]
  exact kk H locs ls hP hS hL
theorem g_aald (hC : gC X w cc nL own ret d) (i t0 j : Nat) {cA : ClassId} {C : String} {n a : Nat} {f : Nat → Option Nat} (hi : i < w.2.2.1) (hF : w.2.2.2.2 (M.1 i) (M.2 i) i = .inl (cA, n, .inr (.inr (.inr (.inr f))))) (ht : w.2.1[t0]? = some (cA, .object C)) (hj : j < n) (hn : n < 2147483648) (hx : f j = some a) (hd : decode cc pc = .ok (.aaload, 1)) (kk : gG X w post nL M (pc + 1) L (.ref a :: st)) : gG X w post nL M pc L (.int (nI j) :: .ref (w.2.2.2.1 i) :: st) := by
  intro H locs ls hP hS hL
  have he : (gws w.2.2.1 w.2.2.2.1 (fun i => w.2.2.2.2 (M.1 i) (M.2 i) i))[i]? = some (w.2.2.2.1 i, .inl (cA, n, .inr (.inr (.inr (.inr f))))) := by rw [gws_get hi, hF]
  refine va_aldq hC.1 hC.2.1 hC.2.2.2.2.2.2.2.1 hP i t0 he ht (vp_in_nI hj hn) hd ?_
  rw [nI_clamp (by omega), hx]
  exact kk H locs ls hP hS hL
theorem g_alen (hC : gC X w cc nL own ret d) (i t0 : Nat) {cA : ClassId} {x : vp_A} {ty : FieldType} (hi : i < w.2.2.1) (hF : w.2.2.2.2 (M.1 i) (M.2 i) i = .inl (cA, x)) (ht : w.2.1[t0]? = some (cA, ty)) (hd : decode cc pc = .ok (.arraylength, 1)) (kk : gG X w post nL M (pc + 1) L (.int (nI x.1) :: st)) : gG X w post nL M pc L (.ref (w.2.2.2.1 i) :: st) := by
  intro H locs ls hP hS hL
  have he : (gws w.2.2.1 w.2.2.2.1 (fun i => w.2.2.2.2 (M.1 i) (M.2 i) i))[i]? = some (w.2.2.2.1 i, .inl (cA, x)) := by rw [gws_get hi, hF]
  exact va_alen hC.1 hC.2.1 hC.2.2.2.2.2.2.2.1 hP i t0 he ht rfl hd (kk H locs ls hP hS hL)
theorem g_iast (hC : gC X w cc nL own ret d) (i t0 j : Nat) {cA : ClassId} {n : Nat} {f : Nat → Int32} {x : Int32} (hi : i < w.2.2.1) (hF : w.2.2.2.2 (M.1 i) (M.2 i) i = .inl (cA, n, .inl f)) (hF' : w.2.2.2.2 (upd (M.1 i) j x) (M.2 i) i = .inl (cA, n, .inl (upd f j x))) (ht : w.2.1[t0]? = some (cA, .int)) (hj : j < n) (hn : n < 2147483648) (hd : decode cc pc = .ok (.iastore, 1)) (kk : gG X w post nL (gupd M i j x) (pc + 1) L st) : gG X w post nL M pc L (.int x :: .int (nI j) :: .ref (w.2.2.2.1 i) :: st) := by
  intro H locs ls hP hS hL
  have he : (gws w.2.2.1 w.2.2.2.1 (fun i => w.2.2.2.2 (M.1 i) (M.2 i) i))[i]? = some (w.2.2.2.1 i, .inl (cA, n, .inl f)) := by rw [gws_get hi, hF]
  have hset := gws_set (n := w.2.2.1) (ad := w.2.2.2.1) (gup_at (M := M) hF')
  refine va_iast hC.1 hC.2.1 hC.2.2.2.2.2.2.2.1 hP (gI.D hC.2.2.2.2.2.2.2.2.1 _) hS i t0 he ht (vp_in_nI hj hn) hd (fun H1 locs1 hP1 _ hS1 => ?_)
  rw [nI_clamp (by omega), hset] at hP1
  exact kk H1 locs1 ls hP1 hS1 hL
theorem g_zast (hC : gC X w cc nL own ret d) (i t0 j : Nat) {cA : ClassId} {n : Nat} {f : Nat → Int32} {x : Int32} (hx : x = 0 ∨ x = 1) (hi : i < w.2.2.1) (hF : w.2.2.2.2 (M.1 i) (M.2 i) i = .inl (cA, n, .inl f)) (hF' : w.2.2.2.2 (upd (M.1 i) j x) (M.2 i) i = .inl (cA, n, .inl (upd f j x))) (ht : w.2.1[t0]? = some (cA, .boolean)) (hj : j < n) (hn : n < 2147483648) (hd : decode cc pc = .ok (.bastore, 1)) (kk : gG X w post nL (gupd M i j x) (pc + 1) L st) : gG X w post nL M pc L (.int x :: .int (nI j) :: .ref (w.2.2.2.1 i) :: st) := by
  intro H locs ls hP hS hL
  have he : (gws w.2.2.1 w.2.2.2.1 (fun i => w.2.2.2.2 (M.1 i) (M.2 i) i))[i]? = some (w.2.2.2.1 i, .inl (cA, n, .inl f)) := by rw [gws_get hi, hF]
  have hset := gws_set (n := w.2.2.1) (ad := w.2.2.2.1) (gup_at (M := M) hF')
  have hx' : vp_nar .boolean x = x := by rcases hx with rfl | rfl <;> rfl
  refine va_zast hC.1 hC.2.1 hC.2.2.2.2.2.2.2.1 hP (gI.D hC.2.2.2.2.2.2.2.2.1 _) hS i t0 he ht (vp_in_nI hj hn) hd (fun H1 locs1 hP1 _ hS1 => ?_)
  rw [nI_clamp (by omega), hx', hset] at hP1
  exact kk H1 locs1 ls hP1 hS1 hL
theorem g_last (hC : gC X w cc nL own ret d) (i t0 j : Nat) {cA : ClassId} {n : Nat} {f : Nat → Int64} {x : Int64} (hi : i < w.2.2.1) (hF : w.2.2.2.2 (M.1 i) (M.2 i) i = .inl (cA, n, .inr (.inl f))) (hF' : w.2.2.2.2 (M.1 i) (vp_updL (M.2 i) j x) i = .inl (cA, n, .inr (.inl (vp_updL f j x)))) (ht : w.2.1[t0]? = some (cA, .long)) (hj : j < n) (hn : n < 2147483648) (hd : decode cc pc = .ok (.lastore, 1)) (kk : gG X w post nL (gupL M i j x) (pc + 1) L st) : gG X w post nL M pc L (.long x :: .int (nI j) :: .ref (w.2.2.2.1 i) :: st) := by
  intro H locs ls hP hS hL
  have he : (gws w.2.2.1 w.2.2.2.1 (fun i => w.2.2.2.2 (M.1 i) (M.2 i) i))[i]? = some (w.2.2.2.1 i, .inl (cA, n, .inr (.inl f))) := by rw [gws_get hi, hF]
  have hset := gws_set (n := w.2.2.1) (ad := w.2.2.2.1) (gupL_at (M := M) hF')
  refine va_last hC.1 hC.2.1 hC.2.2.2.2.2.2.2.1 hP (gI.D hC.2.2.2.2.2.2.2.2.1 _) hS i t0 he ht (vp_in_nI hj hn) hd (fun H1 locs1 hP1 _ hS1 => ?_)
  rw [nI_clamp (by omega), hset] at hP1
  exact kk H1 locs1 ls hP1 hS1 hL
-- calls
theorem g_goes (hC : gC X w cc nL own ret d) {st0 : List Value} {post' : Option Value → gM → Prop} {a : Array Value} (hr : ∀ (H : Heap) (locs : List Loc) (ls : Array Slot), gPic w M H → ls.size = nL → va_Run X.1 X.2.1 X.2.2.1 X.2.2.2.1 X.2.2.2.2.1 X.2.2.2.2.2.1 X.2.2.2.2.2.2.1 X.2.2.2.2.2.2.2.1 X.2.2.2.2.2.2.2.2.1 X.2.2.2.2.2.2.2.2.2 H locs 0 0 0 0 (F0 X.2.2.2.2.2.1 pc ls st0) st (gQ w post' a) (gA w))
    (kk : ∀ (v : Option Value) (M' : gM), post' v M' → gG X w post nL M' (pc + 3) L (v.toList ++ st)) : gG X w post nL M pc L st0 := by
  intro H locs ls hP hS hL T hT XT
  obtain ⟨v, st₀, t, T', Lc, h0, X', hLc, e1, e2, ⟨⟨v', M', hv, hp, hpic⟩, hz, hk⟩, go⟩ := hr H locs ls hP hL.1 T hT XT
  cases hv
  rw [h0] at hz hk
  obtain ⟨t2, a1, b1⟩ := kk v M' hp T'.heap (locs ++ Lc) ls (by rw [e1]; exact hpic)
    ⟨Nat.le_trans hS.1 (by rw [e1]; exact hz), fun q h1 h2 => by rw [e1, hk q (Nat.lt_of_lt_of_le h1 hS.1) h2]; exact hS.2.1 q h1 h2, fun q hq => by
      rcases List.mem_append.mp hq with h | h
      · exact hS.2.2 q h
      · exact hLc q h⟩ hL T' rfl X'
  exact ⟨t2, go t2 a1, b1⟩
theorem g_room (hC : gC X w cc nL own ret d) {d' maxL : Nat} (hd : d' < d) (hm : maxL ≤ 30) : (gRm d').frames + 1 ≤ X.2.2.2.1.frames ∧ 8 + (maxL + 11) + (gRm d').locals ≤ X.2.2.2.1.locals := by
  obtain ⟨-, -, -, -, -, -, -, -, -, -, h1, h2⟩ := hC
  constructor
  · show d' + 1 ≤ _; omega
  · show 8 + (maxL + 11) + 64 * d' ≤ _; omega
theorem g_callV (hC : gC X w cc nL own ret d) {idx d' maxL n i ci : Nat} {y : MethodName} {bytes : ByteArray} {ret' : Option FieldType} {As st0 : List Value} {post' : Option Value → gM → Prop} {fs : List Value} {q : vw_C} (hct : gCt w y bytes maxL ret' d' (.ref (w.2.2.2.1 i) :: As) M post') (hf : gVf y bytes maxL ret' n) (hlk : Cond.methodLink own idx y ∈ gTb) (hd' : d' < d) (hi : i < w.2.2.1) (hF : w.2.2.2.2 (M.1 i) (M.2 i) i = .inr (ci, fs)) (hc : vwCl[ci]? = some q) (hq : q.1 = y.cls) (hn : As.length = n) (hst : st0 = As.reverse ++ .ref (w.2.2.2.1 i) :: st) (hcat : (st.map fun v => v.category).sum ≤ 8) (hd : decode cc pc = .ok (.invokevirtual idx, 3))
    (kk : ∀ (v : Option Value) (M' : gM), post' v M' → gG X w post nL M' (pc + 3) L (v.toList ++ st)) : gG X w post nL M pc L st0 := by
  refine g_goes hC (a := (Value.ref (w.2.2.2.1 i) :: As).toArray) (fun H locs ls hP hls => ?_) kk
  obtain ⟨f1, f2, f3, f4, f5, f6⟩ := hf
  have he : (gws w.2.2.1 w.2.2.2.1 (fun i => w.2.2.2.2 (M.1 i) (M.2 i) i))[i]? = some (w.2.2.2.1 i, .inr (ci, fs)) := by rw [gws_get hi, hF]
  have hts := hC.2.2.2.2.1
  exact va_runV (As := As) (rest := st) (C := y.cls) (n := n) ⟨hC.1, hC.2.1, hC.2.2.1, hC.2.2.2.1, hts⟩ (hct X.2.1) ⟨callB_of n hts (gTb_code f4) rfl rfl rfl (hts _ f3) (hts _ hlk) f5 (g_room hC hd' f6), hts _ f1, hts _ f2⟩
    ⟨gBlind, by rw [← hq]; exact va_recv hC.2.2.2.2.2.2.2.1 hP hc he, fun U hU hW => ⟨rfl, by rw [hU]; exact hP, va_K.moved hW.alike hC.2.2.2.2.2.2.2.1, hC.2.2.2.2.2.2.2.2.1, gN.warm hW hC.2.2.2.2.2.2.2.2.2.1⟩⟩ rfl hn hls hst (lv_room hcat) hd ⟨Nat.zero_le _, Nat.zero_le _⟩
theorem g_callS (hC : gC X w cc nL own ret d) {idx d' maxL n : Nat} {y : MethodName} {bytes : ByteArray} {ret' : Option FieldType} {As st0 : List Value} {post' : Option Value → gM → Prop} (hct : gCt w y bytes maxL ret' d' As M post') (hf : gSf y bytes maxL ret' n) (hlk : Cond.methodLink own idx y ∈ gTb) (hd' : d' < d) (hn : As.length = n) (hst : st0 = As.reverse ++ st) (hcat : (st.map fun v => v.category).sum ≤ 8) (hd : decode cc pc = .ok (.invokestatic idx, 3))
    (kk : ∀ (v : Option Value) (M' : gM), post' v M' → gG X w post nL M' (pc + 3) L (v.toList ++ st)) : gG X w post nL M pc L st0 := by
  refine g_goes hC (a := As.toArray) (fun H locs ls hP hls => ?_) kk
  obtain ⟨f1, f3, f4, f5, f6⟩ := hf
  have hts := hC.2.2.2.2.1
  exact va_runS (As := As) (rest := st) (n := n) ⟨hC.1, hC.2.1, hC.2.2.1, hC.2.2.2.1, hts⟩ (hct X.2.1) ⟨callB_of n hts (gTb_code f4) rfl rfl rfl (hts _ f3) (hts _ hlk) f5 (g_room hC hd' f6), hts _ f1⟩
    ⟨gBlind, fun U hU hW => ⟨rfl, by rw [hU]; exact hP, va_K.moved hW.alike hC.2.2.2.2.2.2.2.1, hC.2.2.2.2.2.2.2.2.1, gN.warm hW hC.2.2.2.2.2.2.2.2.2.1⟩⟩ rfl hn hls hst (lv_room hcat) hd ⟨Nat.zero_le _, Nat.zero_le _⟩
theorem g_callSN (hC : gC X w cc nL own ret d) {idx d' maxL n : Nat} {host : String} {y : MethodName} {bytes : ByteArray} {ret' : Option FieldType} {As st0 : List Value} {post' : Option Value → gM → Prop} (hct : gCt w y bytes maxL ret' d' As M post') (hf : gSf y bytes maxL ret' n) (hlk : Cond.methodLinkNest own idx y host ∈ lw_tbl) (hd' : d' < d) (hn : As.length = n) (hst : st0 = As.reverse ++ st) (hcat : (st.map fun v => v.category).sum ≤ 8) (hd : decode cc pc = .ok (.invokestatic idx, 3))
    (kk : ∀ (v : Option Value) (M' : gM), post' v M' → gG X w post nL M' (pc + 3) L (v.toList ++ st)) : gG X w post nL M pc L st0 := by
  refine g_goes hC (a := As.toArray) (fun H locs ls hP hls => ?_) kk
  obtain ⟨f1, f3, f4, f5, f6⟩ := hf
  have hts := hC.2.2.2.2.1
  exact va_runSN (As := As) (rest := st) (n := n) (host := host) ⟨hC.1, hC.2.1, hC.2.2.1, hC.2.2.2.1, hts⟩ (hct X.2.1) ⟨va_cnB n hts (gTb_code f4) rfl rfl rfl (hC.2.2.2.2.2.2.2.2.2.1 _ hlk rfl) (hts _ f3) f5 (g_room hC hd' f6), hts _ f1, trivial⟩
    ⟨gBlind, fun U hU hW => ⟨rfl, by rw [hU]; exact hP, va_K.moved hW.alike hC.2.2.2.2.2.2.2.1, hC.2.2.2.2.2.2.2.2.1, gN.warm hW hC.2.2.2.2.2.2.2.2.2.1⟩⟩ rfl hn hls hst (lv_room hcat) hd ⟨Nat.zero_le _, Nat.zero_le _⟩
end Rows2
end
section
/-! WHAT THE TABLES SAY, by places: field links, call links, callees, constants -/
theorem wsin_0 : ∀ w ∈ u_ws RX0 TX0 4, w ∈ gTb := by decide +kernel
theorem wsin_1 : ∀ w ∈ u_ws RX1 TX1 9, w ∈ gTb := by decide +kernel
theorem wsin_2 : ∀ w ∈ u_ws RX2 TX2 7, w ∈ gTb := by decide +kernel
theorem wsin_3 : ∀ w ∈ u_ws RX3 TX3 2, w ∈ gTb := by decide +kernel
theorem wsin_4 : ∀ w ∈ u_ws RX4 TX4 2, w ∈ gTb := by decide +kernel
theorem wsin_5 : ∀ w ∈ u_ws RX5 TX5 3, w ∈ gTb := by decide +kernel
theorem wsin_6 : ∀ w ∈ u_ws RX6 TX6 4, w ∈ gTb := by decide +kernel
theorem wsin_7 : ∀ w ∈ u_ws RX7 TX7 24, w ∈ gTb := by decide +kernel
theorem fl_X0_14 : gFl RX0 14 0 0 := ⟨RX0, TX0, 4, rfl, by decide, rfl, wsin_0, Or.inl (gTb_in (List.mem_of_getElem? (i := 148) (by decide +kernel)) rfl)⟩
theorem fl_X0_22 : gFl RX0 22 0 1 := ⟨RX0, TX0, 4, rfl, by decide, rfl, wsin_0, Or.inl (gTb_in (List.mem_of_getElem? (i := 149) (by decide +kernel)) rfl)⟩
theorem fl_X0_29 : gFl RX0 29 0 2 := ⟨RX0, TX0, 4, rfl, by decide, rfl, wsin_0, Or.inl (gTb_in (List.mem_of_getElem? (i := 151) (by decide +kernel)) rfl)⟩
theorem fl_X0_33 : gFl RX0 33 0 3 := ⟨RX0, TX0, 4, rfl, by decide, rfl, wsin_0, Or.inl (gTb_in (List.mem_of_getElem? (i := 153) (by decide +kernel)) rfl)⟩
theorem fl_X0_46 : gFl RX0 46 1 0 := ⟨RX1, TX1, 9, rfl, by decide, rfl, wsin_1, Or.inr ⟨"BowBend", List.mem_of_getElem? (i := 103) (by decide +kernel)⟩⟩
theorem fl_X0_49 : gFl RX0 49 1 1 := ⟨RX1, TX1, 9, rfl, by decide, rfl, wsin_1, Or.inr ⟨"BowBend", List.mem_of_getElem? (i := 105) (by decide +kernel)⟩⟩
theorem fl_X0_59 : gFl RX0 59 5 0 := ⟨RX5, TX5, 3, rfl, by decide, rfl, wsin_5, Or.inr ⟨"BowBend", List.mem_of_getElem? (i := 80) (by decide +kernel)⟩⟩
theorem fl_X0_62 : gFl RX0 62 5 1 := ⟨RX5, TX5, 3, rfl, by decide, rfl, wsin_5, Or.inr ⟨"BowBend", List.mem_of_getElem? (i := 83) (by decide +kernel)⟩⟩
theorem fl_X0_65 : gFl RX0 65 5 2 := ⟨RX5, TX5, 3, rfl, by decide, rfl, wsin_5, Or.inr ⟨"BowBend", List.mem_of_getElem? (i := 86) (by decide +kernel)⟩⟩
theorem fl_X0_75 : gFl RX0 75 1 2 := ⟨RX1, TX1, 9, rfl, by decide, rfl, wsin_1, Or.inr ⟨"BowBend", List.mem_of_getElem? (i := 108) (by decide +kernel)⟩⟩
theorem fl_X0_78 : gFl RX0 78 1 5 := ⟨RX1, TX1, 9, rfl, by decide, rfl, wsin_1, Or.inr ⟨"BowBend", List.mem_of_getElem? (i := 118) (by decide +kernel)⟩⟩
theorem fl_X0_85 : gFl RX0 85 1 8 := ⟨RX1, TX1, 9, rfl, by decide, rfl, wsin_1, Or.inr ⟨"BowBend", List.mem_of_getElem? (i := 128) (by decide +kernel)⟩⟩
theorem fl_X0_89 : gFl RX0 89 1 4 := ⟨RX1, TX1, 9, rfl, by decide, rfl, wsin_1, Or.inr ⟨"BowBend", List.mem_of_getElem? (i := 116) (by decide +kernel)⟩⟩
theorem fl_X0_102 : gFl RX0 102 1 3 := ⟨RX1, TX1, 9, rfl, by decide, rfl, wsin_1, Or.inr ⟨"BowBend", List.mem_of_getElem? (i := 112) (by decide +kernel)⟩⟩
theorem fl_X0_146 : gFl RX0 146 1 6 := ⟨RX1, TX1, 9, rfl, by decide, rfl, wsin_1, Or.inr ⟨"BowBend", List.mem_of_getElem? (i := 122) (by decide +kernel)⟩⟩
theorem fl_X0_173 : gFl RX0 173 1 7 := ⟨RX1, TX1, 9, rfl, by decide, rfl, wsin_1, Or.inr ⟨"BowBend", List.mem_of_getElem? (i := 125) (by decide +kernel)⟩⟩
theorem fl_X1_9 : gFl RX1 9 1 0 := ⟨RX1, TX1, 9, rfl, by decide, rfl, wsin_1, Or.inl (gTb_in (List.mem_of_getElem? (i := 102) (by decide +kernel)) rfl)⟩
theorem fl_X1_15 : gFl RX1 15 1 1 := ⟨RX1, TX1, 9, rfl, by decide, rfl, wsin_1, Or.inl (gTb_in (List.mem_of_getElem? (i := 104) (by decide +kernel)) rfl)⟩
theorem fl_X1_18 : gFl RX1 18 1 2 := ⟨RX1, TX1, 9, rfl, by decide, rfl, wsin_1, Or.inl (gTb_in (List.mem_of_getElem? (i := 106) (by decide +kernel)) rfl)⟩
theorem fl_X1_21 : gFl RX1 21 1 3 := ⟨RX1, TX1, 9, rfl, by decide, rfl, wsin_1, Or.inl (gTb_in (List.mem_of_getElem? (i := 110) (by decide +kernel)) rfl)⟩
theorem fl_X1_24 : gFl RX1 24 1 4 := ⟨RX1, TX1, 9, rfl, by decide, rfl, wsin_1, Or.inl (gTb_in (List.mem_of_getElem? (i := 113) (by decide +kernel)) rfl)⟩
theorem fl_X1_27 : gFl RX1 27 1 5 := ⟨RX1, TX1, 9, rfl, by decide, rfl, wsin_1, Or.inl (gTb_in (List.mem_of_getElem? (i := 117) (by decide +kernel)) rfl)⟩
theorem fl_X1_30 : gFl RX1 30 1 6 := ⟨RX1, TX1, 9, rfl, by decide, rfl, wsin_1, Or.inl (gTb_in (List.mem_of_getElem? (i := 120) (by decide +kernel)) rfl)⟩
theorem fl_X1_33 : gFl RX1 33 1 7 := ⟨RX1, TX1, 9, rfl, by decide, rfl, wsin_1, Or.inl (gTb_in (List.mem_of_getElem? (i := 123) (by decide +kernel)) rfl)⟩
theorem fl_X1_36 : gFl RX1 36 1 8 := ⟨RX1, TX1, 9, rfl, by decide, rfl, wsin_1, Or.inl (gTb_in (List.mem_of_getElem? (i := 126) (by decide +kernel)) rfl)⟩
theorem fl_X2_9 : gFl RX2 9 2 0 := ⟨RX2, TX2, 7, rfl, by decide, rfl, wsin_2, Or.inl (gTb_in (List.mem_of_getElem? (i := 170) (by decide +kernel)) rfl)⟩
theorem fl_X2_15 : gFl RX2 15 2 1 := ⟨RX2, TX2, 7, rfl, by decide, rfl, wsin_2, Or.inl (gTb_in (List.mem_of_getElem? (i := 171) (by decide +kernel)) rfl)⟩
theorem fl_X2_18 : gFl RX2 18 2 3 := ⟨RX2, TX2, 7, rfl, by decide, rfl, wsin_2, Or.inl (gTb_in (List.mem_of_getElem? (i := 173) (by decide +kernel)) rfl)⟩
theorem fl_X2_36 : gFl RX2 36 0 1 := ⟨RX0, TX0, 4, rfl, by decide, rfl, wsin_0, Or.inr ⟨"BowBend", List.mem_of_getElem? (i := 150) (by decide +kernel)⟩⟩
theorem fl_X2_44 : gFl RX2 44 1 4 := ⟨RX1, TX1, 9, rfl, by decide, rfl, wsin_1, Or.inr ⟨"BowBend", List.mem_of_getElem? (i := 114) (by decide +kernel)⟩⟩
theorem fl_X2_53 : gFl RX2 53 1 2 := ⟨RX1, TX1, 9, rfl, by decide, rfl, wsin_1, Or.inr ⟨"BowBend", List.mem_of_getElem? (i := 107) (by decide +kernel)⟩⟩
theorem fl_X2_56 : gFl RX2 56 2 4 := ⟨RX2, TX2, 7, rfl, by decide, rfl, wsin_2, Or.inl (gTb_in (List.mem_of_getElem? (i := 175) (by decide +kernel)) rfl)⟩
theorem fl_X2_60 : gFl RX2 60 2 5 := ⟨RX2, TX2, 7, rfl, by decide, rfl, wsin_2, Or.inl (gTb_in (List.mem_of_getElem? (i := 176) (by decide +kernel)) rfl)⟩
theorem fl_X2_63 : gFl RX2 63 2 6 := ⟨RX2, TX2, 7, rfl, by decide, rfl, wsin_2, Or.inl (gTb_in (List.mem_of_getElem? (i := 177) (by decide +kernel)) rfl)⟩
theorem fl_X2_66 : gFl RX2 66 2 2 := ⟨RX2, TX2, 7, rfl, by decide, rfl, wsin_2, Or.inl (gTb_in (List.mem_of_getElem? (i := 172) (by decide +kernel)) rfl)⟩
theorem fl_X3_10 : gFl RX3 10 3 0 := ⟨RX3, TX3, 2, rfl, by decide, rfl, wsin_3, Or.inl (gTb_in (List.mem_of_getElem? (i := 202) (by decide +kernel)) rfl)⟩
theorem fl_X3_16 : gFl RX3 16 3 1 := ⟨RX3, TX3, 2, rfl, by decide, rfl, wsin_3, Or.inl (gTb_in (List.mem_of_getElem? (i := 204) (by decide +kernel)) rfl)⟩
theorem fl_X4_9 : gFl RX4 9 4 0 := ⟨RX4, TX4, 2, rfl, by decide, rfl, wsin_4, Or.inl (gTb_in (List.mem_of_getElem? (i := 57) (by decide +kernel)) rfl)⟩
theorem fl_X4_15 : gFl RX4 15 4 1 := ⟨RX4, TX4, 2, rfl, by decide, rfl, wsin_4, Or.inl (gTb_in (List.mem_of_getElem? (i := 58) (by decide +kernel)) rfl)⟩
theorem fl_X5_7 : gFl RX5 7 5 0 := ⟨RX5, TX5, 3, rfl, by decide, rfl, wsin_5, Or.inl (gTb_in (List.mem_of_getElem? (i := 79) (by decide +kernel)) rfl)⟩
theorem fl_X5_13 : gFl RX5 13 5 1 := ⟨RX5, TX5, 3, rfl, by decide, rfl, wsin_5, Or.inl (gTb_in (List.mem_of_getElem? (i := 82) (by decide +kernel)) rfl)⟩
theorem fl_X5_16 : gFl RX5 16 5 2 := ⟨RX5, TX5, 3, rfl, by decide, rfl, wsin_5, Or.inl (gTb_in (List.mem_of_getElem? (i := 85) (by decide +kernel)) rfl)⟩
theorem fl_X6_10 : gFl RX6 10 6 0 := ⟨RX6, TX6, 4, rfl, by decide, rfl, wsin_6, Or.inl (gTb_in (List.mem_of_getElem? (i := 211) (by decide +kernel)) rfl)⟩
theorem fl_X6_19 : gFl RX6 19 6 1 := ⟨RX6, TX6, 4, rfl, by decide, rfl, wsin_6, Or.inl (gTb_in (List.mem_of_getElem? (i := 212) (by decide +kernel)) rfl)⟩
theorem fl_X6_26 : gFl RX6 26 6 2 := ⟨RX6, TX6, 4, rfl, by decide, rfl, wsin_6, Or.inl (gTb_in (List.mem_of_getElem? (i := 213) (by decide +kernel)) rfl)⟩
theorem fl_X6_33 : gFl RX6 33 6 3 := ⟨RX6, TX6, 4, rfl, by decide, rfl, wsin_6, Or.inl (gTb_in (List.mem_of_getElem? (i := 214) (by decide +kernel)) rfl)⟩
theorem fl_X6_37 : gFl RX6 37 4 1 := ⟨RX4, TX4, 2, rfl, by decide, rfl, wsin_4, Or.inr ⟨"BowBend", List.mem_of_getElem? (i := 59) (by decide +kernel)⟩⟩
theorem fl_X6_53 : gFl RX6 53 0 2 := ⟨RX0, TX0, 4, rfl, by decide, rfl, wsin_0, Or.inr ⟨"BowBend", List.mem_of_getElem? (i := 152) (by decide +kernel)⟩⟩
theorem fl_X6_64 : gFl RX6 64 5 0 := ⟨RX5, TX5, 3, rfl, by decide, rfl, wsin_5, Or.inr ⟨"BowBend", List.mem_of_getElem? (i := 81) (by decide +kernel)⟩⟩
theorem fl_X6_73 : gFl RX6 73 5 1 := ⟨RX5, TX5, 3, rfl, by decide, rfl, wsin_5, Or.inr ⟨"BowBend", List.mem_of_getElem? (i := 84) (by decide +kernel)⟩⟩
theorem fl_X6_76 : gFl RX6 76 5 2 := ⟨RX5, TX5, 3, rfl, by decide, rfl, wsin_5, Or.inr ⟨"BowBend", List.mem_of_getElem? (i := 87) (by decide +kernel)⟩⟩
theorem fl_X6_83 : gFl RX6 83 1 8 := ⟨RX1, TX1, 9, rfl, by decide, rfl, wsin_1, Or.inr ⟨"BowBend", List.mem_of_getElem? (i := 127) (by decide +kernel)⟩⟩
theorem fl_X6_89 : gFl RX6 89 1 3 := ⟨RX1, TX1, 9, rfl, by decide, rfl, wsin_1, Or.inr ⟨"BowBend", List.mem_of_getElem? (i := 111) (by decide +kernel)⟩⟩
theorem fl_X6_92 : gFl RX6 92 1 4 := ⟨RX1, TX1, 9, rfl, by decide, rfl, wsin_1, Or.inr ⟨"BowBend", List.mem_of_getElem? (i := 115) (by decide +kernel)⟩⟩
theorem fl_X6_95 : gFl RX6 95 1 5 := ⟨RX1, TX1, 9, rfl, by decide, rfl, wsin_1, Or.inr ⟨"BowBend", List.mem_of_getElem? (i := 119) (by decide +kernel)⟩⟩
theorem fl_X6_98 : gFl RX6 98 1 6 := ⟨RX1, TX1, 9, rfl, by decide, rfl, wsin_1, Or.inr ⟨"BowBend", List.mem_of_getElem? (i := 121) (by decide +kernel)⟩⟩
theorem fl_X6_101 : gFl RX6 101 1 7 := ⟨RX1, TX1, 9, rfl, by decide, rfl, wsin_1, Or.inr ⟨"BowBend", List.mem_of_getElem? (i := 124) (by decide +kernel)⟩⟩
theorem fl_X6_138 : gFl RX6 138 0 3 := ⟨RX0, TX0, 4, rfl, by decide, rfl, wsin_0, Or.inr ⟨"BowBend", List.mem_of_getElem? (i := 154) (by decide +kernel)⟩⟩
theorem fl_X6_145 : gFl RX6 145 1 2 := ⟨RX1, TX1, 9, rfl, by decide, rfl, wsin_1, Or.inr ⟨"BowBend", List.mem_of_getElem? (i := 109) (by decide +kernel)⟩⟩
theorem fl_X6_170 : gFl RX6 170 2 3 := ⟨RX2, TX2, 7, rfl, by decide, rfl, wsin_2, Or.inr ⟨"BowBend", List.mem_of_getElem? (i := 174) (by decide +kernel)⟩⟩
theorem fl_X6_225 : gFl RX6 225 3 0 := ⟨RX3, TX3, 2, rfl, by decide, rfl, wsin_3, Or.inr ⟨"BowBend", List.mem_of_getElem? (i := 203) (by decide +kernel)⟩⟩
theorem fl_X6_230 : gFl RX6 230 3 1 := ⟨RX3, TX3, 2, rfl, by decide, rfl, wsin_3, Or.inr ⟨"BowBend", List.mem_of_getElem? (i := 205) (by decide +kernel)⟩⟩
theorem fl_X7_7 : gFl RX7 7 7 1 := ⟨RX7, TX7, 24, rfl, by decide, rfl, wsin_7, Or.inl (gTb_in (List.mem_of_getElem? (i := 636) (by decide +kernel)) rfl)⟩
theorem fl_X7_13 : gFl RX7 13 7 4 := ⟨RX7, TX7, 24, rfl, by decide, rfl, wsin_7, Or.inl (gTb_in (List.mem_of_getElem? (i := 639) (by decide +kernel)) rfl)⟩
theorem fl_X7_17 : gFl RX7 17 7 5 := ⟨RX7, TX7, 24, rfl, by decide, rfl, wsin_7, Or.inl (gTb_in (List.mem_of_getElem? (i := 640) (by decide +kernel)) rfl)⟩
theorem fl_X7_20 : gFl RX7 20 7 6 := ⟨RX7, TX7, 24, rfl, by decide, rfl, wsin_7, Or.inl (gTb_in (List.mem_of_getElem? (i := 641) (by decide +kernel)) rfl)⟩
theorem fl_X7_23 : gFl RX7 23 7 7 := ⟨RX7, TX7, 24, rfl, by decide, rfl, wsin_7, Or.inl (gTb_in (List.mem_of_getElem? (i := 642) (by decide +kernel)) rfl)⟩
theorem fl_X7_26 : gFl RX7 26 7 8 := ⟨RX7, TX7, 24, rfl, by decide, rfl, wsin_7, Or.inl (gTb_in (List.mem_of_getElem? (i := 643) (by decide +kernel)) rfl)⟩
theorem fl_X7_29 : gFl RX7 29 7 9 := ⟨RX7, TX7, 24, rfl, by decide, rfl, wsin_7, Or.inl (gTb_in (List.mem_of_getElem? (i := 644) (by decide +kernel)) rfl)⟩
theorem fl_X7_32 : gFl RX7 32 7 10 := ⟨RX7, TX7, 24, rfl, by decide, rfl, wsin_7, Or.inl (gTb_in (List.mem_of_getElem? (i := 645) (by decide +kernel)) rfl)⟩
theorem fl_X7_35 : gFl RX7 35 7 11 := ⟨RX7, TX7, 24, rfl, by decide, rfl, wsin_7, Or.inl (gTb_in (List.mem_of_getElem? (i := 646) (by decide +kernel)) rfl)⟩
theorem fl_X7_38 : gFl RX7 38 7 13 := ⟨RX7, TX7, 24, rfl, by decide, rfl, wsin_7, Or.inl (gTb_in (List.mem_of_getElem? (i := 648) (by decide +kernel)) rfl)⟩
theorem fl_X7_41 : gFl RX7 41 7 14 := ⟨RX7, TX7, 24, rfl, by decide, rfl, wsin_7, Or.inl (gTb_in (List.mem_of_getElem? (i := 649) (by decide +kernel)) rfl)⟩
theorem fl_X7_44 : gFl RX7 44 7 15 := ⟨RX7, TX7, 24, rfl, by decide, rfl, wsin_7, Or.inl (gTb_in (List.mem_of_getElem? (i := 650) (by decide +kernel)) rfl)⟩
theorem fl_X7_47 : gFl RX7 47 7 16 := ⟨RX7, TX7, 24, rfl, by decide, rfl, wsin_7, Or.inl (gTb_in (List.mem_of_getElem? (i := 651) (by decide +kernel)) rfl)⟩
theorem fl_X7_50 : gFl RX7 50 7 17 := ⟨RX7, TX7, 24, rfl, by decide, rfl, wsin_7, Or.inl (gTb_in (List.mem_of_getElem? (i := 652) (by decide +kernel)) rfl)⟩
theorem fl_X7_53 : gFl RX7 53 7 18 := ⟨RX7, TX7, 24, rfl, by decide, rfl, wsin_7, Or.inl (gTb_in (List.mem_of_getElem? (i := 653) (by decide +kernel)) rfl)⟩
theorem fl_X7_57 : gFl RX7 57 7 21 := ⟨RX7, TX7, 24, rfl, by decide, rfl, wsin_7, Or.inl (gTb_in (List.mem_of_getElem? (i := 656) (by decide +kernel)) rfl)⟩
theorem fl_X7_60 : gFl RX7 60 7 22 := ⟨RX7, TX7, 24, rfl, by decide, rfl, wsin_7, Or.inl (gTb_in (List.mem_of_getElem? (i := 657) (by decide +kernel)) rfl)⟩
theorem fl_X7_63 : gFl RX7 63 7 23 := ⟨RX7, TX7, 24, rfl, by decide, rfl, wsin_7, Or.inl (gTb_in (List.mem_of_getElem? (i := 658) (by decide +kernel)) rfl)⟩
theorem fl_X7_67 : gFl RX7 67 7 0 := ⟨RX7, TX7, 24, rfl, by decide, rfl, wsin_7, Or.inl (gTb_in (List.mem_of_getElem? (i := 635) (by decide +kernel)) rfl)⟩
theorem fl_X7_80 : gFl RX7 80 7 2 := ⟨RX7, TX7, 24, rfl, by decide, rfl, wsin_7, Or.inl (gTb_in (List.mem_of_getElem? (i := 637) (by decide +kernel)) rfl)⟩
theorem fl_X7_83 : gFl RX7 83 7 3 := ⟨RX7, TX7, 24, rfl, by decide, rfl, wsin_7, Or.inl (gTb_in (List.mem_of_getElem? (i := 638) (by decide +kernel)) rfl)⟩
theorem fl_X7_90 : gFl RX7 90 7 12 := ⟨RX7, TX7, 24, rfl, by decide, rfl, wsin_7, Or.inl (gTb_in (List.mem_of_getElem? (i := 647) (by decide +kernel)) rfl)⟩
theorem fl_X7_181 : gFl RX7 181 7 19 := ⟨RX7, TX7, 24, rfl, by decide, rfl, wsin_7, Or.inl (gTb_in (List.mem_of_getElem? (i := 654) (by decide +kernel)) rfl)⟩
theorem fl_X7_184 : gFl RX7 184 7 20 := ⟨RX7, TX7, 24, rfl, by decide, rfl, wsin_7, Or.inl (gTb_in (List.mem_of_getElem? (i := 655) (by decide +kernel)) rfl)⟩
theorem fp_0_2 : gFp 0 2 .int := ⟨RX0, TX0, 4, tyX0, rfl, rfl, rfl, tyX0_ok, nmX0⟩
theorem fp_0_3 : gFp 0 3 .int := ⟨RX0, TX0, 4, tyX0, rfl, rfl, rfl, tyX0_ok, nmX0⟩
theorem fp_1_3 : gFp 1 3 .int := ⟨RX1, TX1, 9, tyX1, rfl, rfl, rfl, tyX1_ok, nmX1⟩
theorem fp_1_4 : gFp 1 4 .int := ⟨RX1, TX1, 9, tyX1, rfl, rfl, rfl, tyX1_ok, nmX1⟩
theorem fp_1_5 : gFp 1 5 .int := ⟨RX1, TX1, 9, tyX1, rfl, rfl, rfl, tyX1_ok, nmX1⟩
theorem fp_1_6 : gFp 1 6 .int := ⟨RX1, TX1, 9, tyX1, rfl, rfl, rfl, tyX1_ok, nmX1⟩
theorem fp_1_7 : gFp 1 7 .int := ⟨RX1, TX1, 9, tyX1, rfl, rfl, rfl, tyX1_ok, nmX1⟩
theorem fp_1_8 : gFp 1 8 .boolean := ⟨RX1, TX1, 9, tyX1, rfl, rfl, rfl, tyX1_ok, nmX1⟩
theorem fp_2_2 : gFp 2 2 .int := ⟨RX2, TX2, 7, tyX2, rfl, rfl, rfl, tyX2_ok, nmX2⟩
theorem fp_2_3 : gFp 2 3 .int := ⟨RX2, TX2, 7, tyX2, rfl, rfl, rfl, tyX2_ok, nmX2⟩
theorem fp_2_4 : gFp 2 4 .long := ⟨RX2, TX2, 7, tyX2, rfl, rfl, rfl, tyX2_ok, nmX2⟩
theorem fp_2_5 : gFp 2 5 .int := ⟨RX2, TX2, 7, tyX2, rfl, rfl, rfl, tyX2_ok, nmX2⟩
theorem fp_2_6 : gFp 2 6 .int := ⟨RX2, TX2, 7, tyX2, rfl, rfl, rfl, tyX2_ok, nmX2⟩
theorem fp_3_1 : gFp 3 1 .boolean := ⟨RX3, TX3, 2, tyX3, rfl, rfl, rfl, tyX3_ok, nmX3⟩
theorem fp_4_1 : gFp 4 1 .int := ⟨RX4, TX4, 2, tyX4, rfl, rfl, rfl, tyX4_ok, nmX4⟩
theorem fp_5_0 : gFp 5 0 .int := ⟨RX5, TX5, 3, tyX5, rfl, rfl, rfl, tyX5_ok, nmX5⟩
theorem fp_5_1 : gFp 5 1 .int := ⟨RX5, TX5, 3, tyX5, rfl, rfl, rfl, tyX5_ok, nmX5⟩
theorem fp_5_2 : gFp 5 2 .int := ⟨RX5, TX5, 3, tyX5, rfl, rfl, rfl, tyX5_ok, nmX5⟩
theorem fp_7_0 : gFp 7 0 .int := ⟨RX7, TX7, 24, tyX7, rfl, rfl, rfl, tyX7_ok, nmX7⟩
theorem fp_7_2 : gFp 7 2 .int := ⟨RX7, TX7, 24, tyX7, rfl, rfl, rfl, tyX7_ok, nmX7⟩
theorem fp_7_3 : gFp 7 3 .int := ⟨RX7, TX7, 24, tyX7, rfl, rfl, rfl, tyX7_ok, nmX7⟩
theorem fp_7_4 : gFp 7 4 .int := ⟨RX7, TX7, 24, tyX7, rfl, rfl, rfl, tyX7_ok, nmX7⟩
theorem fp_7_11 : gFp 7 11 .int := ⟨RX7, TX7, 24, tyX7, rfl, rfl, rfl, tyX7_ok, nmX7⟩
theorem fp_7_12 : gFp 7 12 .int := ⟨RX7, TX7, 24, tyX7, rfl, rfl, rfl, tyX7_ok, nmX7⟩
theorem fp_7_19 : gFp 7 19 .int := ⟨RX7, TX7, 24, tyX7, rfl, rfl, rfl, tyX7_ok, nmX7⟩
theorem fp_7_20 : gFp 7 20 .int := ⟨RX7, TX7, 24, tyX7, rfl, rfl, rfl, tyX7_ok, nmX7⟩
theorem ml_L_9 : Cond.methodLink RL 9 yX6_init ∈ gTb := gTb_in (List.mem_of_getElem? (i := 45) (by decide +kernel)) rfl
theorem ml_L_12 : Cond.methodLink RL 12 yX7_init ∈ gTb := gTb_in (List.mem_of_getElem? (i := 631) (by decide +kernel)) rfl
theorem ml_L_15 : Cond.methodLink RL 15 yX6_write ∈ gTb := gTb_in (List.mem_of_getElem? (i := 224) (by decide +kernel)) rfl
theorem ml_L_19 : Cond.methodLink RL 19 yX7_write ∈ gTb := gTb_in (List.mem_of_getElem? (i := 710) (by decide +kernel)) rfl
theorem ml_L_20 : Cond.methodLink RL 20 yX6_wipe ∈ gTb := gTb_in (List.mem_of_getElem? (i := 232) (by decide +kernel)) rfl
theorem ml_L_24 : Cond.methodLink RL 24 yX7_wipe ∈ gTb := gTb_in (List.mem_of_getElem? (i := 718) (by decide +kernel)) rfl
theorem ml_L_25 : Cond.methodLink RL 25 yX6_fault ∈ gTb := gTb_in (List.mem_of_getElem? (i := 236) (by decide +kernel)) rfl
theorem ml_L_28 : Cond.methodLink RL 28 yX7_fault ∈ gTb := gTb_in (List.mem_of_getElem? (i := 722) (by decide +kernel)) rfl
theorem ml_L_29 : Cond.methodLink RL 29 yX6_stave ∈ gTb := gTb_in (List.mem_of_getElem? (i := 268) (by decide +kernel)) rfl
theorem ml_L_32 : Cond.methodLink RL 32 yX7_stave ∈ gTb := gTb_in (List.mem_of_getElem? (i := 738) (by decide +kernel)) rfl
theorem ml_L_33 : Cond.methodLink RL 33 yX6_wood ∈ gTb := gTb_in (List.mem_of_getElem? (i := 286) (by decide +kernel)) rfl
theorem ml_L_37 : Cond.methodLink RL 37 yX7_wood ∈ gTb := gTb_in (List.mem_of_getElem? (i := 742) (by decide +kernel)) rfl
theorem ml_L_38 : Cond.methodLink RL 38 yX6_grown ∈ gTb := gTb_in (List.mem_of_getElem? (i := 301) (by decide +kernel)) rfl
theorem ml_L_42 : Cond.methodLink RL 42 yX7_grown ∈ gTb := gTb_in (List.mem_of_getElem? (i := 752) (by decide +kernel)) rfl
theorem ml_L_43 : Cond.methodLink RL 43 yX6_knot ∈ gTb := gTb_in (List.mem_of_getElem? (i := 305) (by decide +kernel)) rfl
theorem ml_L_47 : Cond.methodLink RL 47 yX7_knot ∈ gTb := gTb_in (List.mem_of_getElem? (i := 756) (by decide +kernel)) rfl
theorem ml_L_48 : Cond.methodLink RL 48 yX6_about ∈ gTb := gTb_in (List.mem_of_getElem? (i := 313) (by decide +kernel)) rfl
theorem ml_L_51 : Cond.methodLink RL 51 yX7_about ∈ gTb := gTb_in (List.mem_of_getElem? (i := 767) (by decide +kernel)) rfl
theorem ml_L_52 : Cond.methodLink RL 52 yX6_give ∈ gTb := gTb_in (List.mem_of_getElem? (i := 317) (by decide +kernel)) rfl
theorem ml_L_56 : Cond.methodLink RL 56 yX7_give ∈ gTb := gTb_in (List.mem_of_getElem? (i := 771) (by decide +kernel)) rfl
theorem ml_L_57 : Cond.methodLink RL 57 yX6_limb ∈ gTb := gTb_in (List.mem_of_getElem? (i := 338) (by decide +kernel)) rfl
theorem ml_L_60 : Cond.methodLink RL 60 yX7_limb ∈ gTb := gTb_in (List.mem_of_getElem? (i := 785) (by decide +kernel)) rfl
theorem ml_L_61 : Cond.methodLink RL 61 yX6_follow ∈ gTb := gTb_in (List.mem_of_getElem? (i := 347) (by decide +kernel)) rfl
theorem ml_L_64 : Cond.methodLink RL 64 yX7_follow ∈ gTb := gTb_in (List.mem_of_getElem? (i := 793) (by decide +kernel)) rfl
theorem ml_L_65 : Cond.methodLink RL 65 yX6_weight ∈ gTb := gTb_in (List.mem_of_getElem? (i := 359) (by decide +kernel)) rfl
theorem ml_L_69 : Cond.methodLink RL 69 yX7_weight ∈ gTb := gTb_in (List.mem_of_getElem? (i := 805) (by decide +kernel)) rfl
theorem ml_L_70 : Cond.methodLink RL 70 yX6_strain ∈ gTb := gTb_in (List.mem_of_getElem? (i := 388) (by decide +kernel)) rfl
theorem ml_L_74 : Cond.methodLink RL 74 yX7_strain ∈ gTb := gTb_in (List.mem_of_getElem? (i := 826) (by decide +kernel)) rfl
theorem ml_L_75 : Cond.methodLink RL 75 yX6_draw ∈ gTb := gTb_in (List.mem_of_getElem? (i := 397) (by decide +kernel)) rfl
theorem ml_L_79 : Cond.methodLink RL 79 yX7_draw ∈ gTb := gTb_in (List.mem_of_getElem? (i := 835) (by decide +kernel)) rfl
theorem ml_L_80 : Cond.methodLink RL 80 yX6_broken ∈ gTb := gTb_in (List.mem_of_getElem? (i := 425) (by decide +kernel)) rfl
theorem ml_L_83 : Cond.methodLink RL 83 yX7_broken ∈ gTb := gTb_in (List.mem_of_getElem? (i := 848) (by decide +kernel)) rfl
theorem ml_L_84 : Cond.methodLink RL 84 yX6_scrape ∈ gTb := gTb_in (List.mem_of_getElem? (i := 429) (by decide +kernel)) rfl
theorem ml_L_87 : Cond.methodLink RL 87 yX7_scrape ∈ gTb := gTb_in (List.mem_of_getElem? (i := 852) (by decide +kernel)) rfl
theorem ml_L_88 : Cond.methodLink RL 88 yX6_steam ∈ gTb := gTb_in (List.mem_of_getElem? (i := 433) (by decide +kernel)) rfl
theorem ml_L_91 : Cond.methodLink RL 91 yX7_steam ∈ gTb := gTb_in (List.mem_of_getElem? (i := 856) (by decide +kernel)) rfl
theorem ml_L_92 : Cond.methodLink RL 92 yX6_hinge ∈ gTb := gTb_in (List.mem_of_getElem? (i := 437) (by decide +kernel)) rfl
theorem ml_L_95 : Cond.methodLink RL 95 yX7_hinge ∈ gTb := gTb_in (List.mem_of_getElem? (i := 860) (by decide +kernel)) rfl
theorem ml_L_96 : Cond.methodLink RL 96 yX6_stiff ∈ gTb := gTb_in (List.mem_of_getElem? (i := 447) (by decide +kernel)) rfl
theorem ml_L_99 : Cond.methodLink RL 99 yX7_stiff ∈ gTb := gTb_in (List.mem_of_getElem? (i := 868) (by decide +kernel)) rfl
theorem ml_L_100 : Cond.methodLink RL 100 yX6_even ∈ gTb := gTb_in (List.mem_of_getElem? (i := 451) (by decide +kernel)) rfl
theorem ml_L_103 : Cond.methodLink RL 103 yX7_even ∈ gTb := gTb_in (List.mem_of_getElem? (i := 872) (by decide +kernel)) rfl
theorem ml_L_104 : Cond.methodLink RL 104 yX6_next ∈ gTb := gTb_in (List.mem_of_getElem? (i := 463) (by decide +kernel)) rfl
theorem ml_L_107 : Cond.methodLink RL 107 yX7_next ∈ gTb := gTb_in (List.mem_of_getElem? (i := 880) (by decide +kernel)) rfl
theorem ml_L_108 : Cond.methodLink RL 108 yX6_best ∈ gTb := gTb_in (List.mem_of_getElem? (i := 479) (by decide +kernel)) rfl
theorem ml_L_112 : Cond.methodLink RL 112 yX7_best ∈ gTb := gTb_in (List.mem_of_getElem? (i := 888) (by decide +kernel)) rfl
theorem ml_L_113 : Cond.methodLink RL 113 yX6_bestAt ∈ gTb := gTb_in (List.mem_of_getElem? (i := 504) (by decide +kernel)) rfl
theorem ml_L_116 : Cond.methodLink RL 116 yX7_bestAt ∈ gTb := gTb_in (List.mem_of_getElem? (i := 912) (by decide +kernel)) rfl
theorem ml_L_117 : Cond.methodLink RL 117 yX6_form ∈ gTb := gTb_in (List.mem_of_getElem? (i := 512) (by decide +kernel)) rfl
theorem ml_L_120 : Cond.methodLink RL 120 yX7_form ∈ gTb := gTb_in (List.mem_of_getElem? (i := 916) (by decide +kernel)) rfl
theorem ml_L_121 : Cond.methodLink RL 121 yX6_shape ∈ gTb := gTb_in (List.mem_of_getElem? (i := 523) (by decide +kernel)) rfl
theorem ml_L_124 : Cond.methodLink RL 124 yX7_shape ∈ gTb := gTb_in (List.mem_of_getElem? (i := 927) (by decide +kernel)) rfl
theorem ml_L_125 : Cond.methodLink RL 125 yX6_pace ∈ gTb := gTb_in (List.mem_of_getElem? (i := 536) (by decide +kernel)) rfl
theorem ml_L_129 : Cond.methodLink RL 129 yX7_pace ∈ gTb := gTb_in (List.mem_of_getElem? (i := 931) (by decide +kernel)) rfl
theorem ml_L_130 : Cond.methodLink RL 130 yX6_wet ∈ gTb := gTb_in (List.mem_of_getElem? (i := 545) (by decide +kernel)) rfl
theorem ml_L_133 : Cond.methodLink RL 133 yX7_wet ∈ gTb := gTb_in (List.mem_of_getElem? (i := 935) (by decide +kernel)) rfl
theorem ml_L_134 : Cond.methodLink RL 134 yX6_lost ∈ gTb := gTb_in (List.mem_of_getElem? (i := 550) (by decide +kernel)) rfl
theorem ml_L_138 : Cond.methodLink RL 138 yX7_lost ∈ gTb := gTb_in (List.mem_of_getElem? (i := 941) (by decide +kernel)) rfl
theorem ml_L_139 : Cond.methodLink RL 139 yX6_see ∈ gTb := gTb_in (List.mem_of_getElem? (i := 558) (by decide +kernel)) rfl
theorem ml_L_142 : Cond.methodLink RL 142 yX7_see ∈ gTb := gTb_in (List.mem_of_getElem? (i := 946) (by decide +kernel)) rfl
theorem ml_L_143 : Cond.methodLink RL 143 yX6_off ∈ gTb := gTb_in (List.mem_of_getElem? (i := 562) (by decide +kernel)) rfl
theorem ml_L_146 : Cond.methodLink RL 146 yX7_off ∈ gTb := gTb_in (List.mem_of_getElem? (i := 950) (by decide +kernel)) rfl
theorem ml_L_147 : Cond.methodLink RL 147 yX6_tooStiff ∈ gTb := gTb_in (List.mem_of_getElem? (i := 574) (by decide +kernel)) rfl
theorem ml_L_150 : Cond.methodLink RL 150 yX7_tooStiff ∈ gTb := gTb_in (List.mem_of_getElem? (i := 962) (by decide +kernel)) rfl
theorem ml_L_151 : Cond.methodLink RL 151 yX6_slips ∈ gTb := gTb_in (List.mem_of_getElem? (i := 584) (by decide +kernel)) rfl
theorem ml_L_155 : Cond.methodLink RL 155 yX7_slips ∈ gTb := gTb_in (List.mem_of_getElem? (i := 966) (by decide +kernel)) rfl
theorem ml_L_156 : Cond.methodLink RL 156 yX6_good ∈ gTb := gTb_in (List.mem_of_getElem? (i := 595) (by decide +kernel)) rfl
theorem ml_L_160 : Cond.methodLink RL 160 yX7_good ∈ gTb := gTb_in (List.mem_of_getElem? (i := 978) (by decide +kernel)) rfl
theorem ml_L_161 : Cond.methodLink RL 161 yX6_keep ∈ gTb := gTb_in (List.mem_of_getElem? (i := 599) (by decide +kernel)) rfl
theorem ml_L_164 : Cond.methodLink RL 164 yX7_keep ∈ gTb := gTb_in (List.mem_of_getElem? (i := 982) (by decide +kernel)) rfl
theorem ml_L_165 : Cond.methodLink RL 165 yX6_again ∈ gTb := gTb_in (List.mem_of_getElem? (i := 616) (by decide +kernel)) rfl
theorem ml_L_168 : Cond.methodLink RL 168 yX7_again ∈ gTb := gTb_in (List.mem_of_getElem? (i := 986) (by decide +kernel)) rfl
theorem ml_L_169 : Cond.methodLink RL 169 yX6_count ∈ gTb := gTb_in (List.mem_of_getElem? (i := 620) (by decide +kernel)) rfl
theorem ml_L_172 : Cond.methodLink RL 172 yX7_count ∈ gTb := gTb_in (List.mem_of_getElem? (i := 990) (by decide +kernel)) rfl
theorem ml_X0_3 : Cond.methodLink RX0 3 objectInit ∈ gTb := gTb_in (List.mem_of_getElem? (i := 71) (by decide +kernel)) rfl
theorem ml_X0_11 : Cond.methodLink RX0 11 yX5_init ∈ gTb := gTb_in (List.mem_of_getElem? (i := 75) (by decide +kernel)) rfl
theorem ml_X0_26 : Cond.methodLink RX0 26 yX1_init ∈ gTb := gTb_in (List.mem_of_getElem? (i := 98) (by decide +kernel)) rfl
theorem ml_X0_36 : Cond.methodLink RX0 36 yX4_slashAt ∈ gTb := gTb_in (List.mem_of_getElem? (i := 276) (by decide +kernel)) rfl
theorem ml_X0_42 : Cond.methodLink RX0 42 yX0_has ∈ gTb := gTb_in (List.mem_of_getElem? (i := 277) (by decide +kernel)) rfl
theorem ml_X0_52 : Cond.methodLink RX0 52 yX4_figureAt ∈ gTb := gTb_in (List.mem_of_getElem? (i := 281) (by decide +kernel)) rfl
theorem ml_X0_56 : Cond.methodLink RX0 56 yX1_makeAnew ∈ gTb := gTb_in (List.mem_of_getElem? (i := 282) (by decide +kernel)) rfl
theorem ml_X0_68 : Cond.methodLink RX0 68 yX5_become ∈ gTb := gTb_in (List.mem_of_getElem? (i := 611) (by decide +kernel)) rfl
theorem ml_X0_71 : Cond.methodLink RX0 71 yX1_copyFrom ∈ gTb := gTb_in (List.mem_of_getElem? (i := 612) (by decide +kernel)) rfl
theorem ml_X0_81 : Cond.methodLink RX0 81 yX0_woodNumbered ∈ gTb := gTb_in (List.mem_of_getElem? (i := 411) (by decide +kernel)) rfl
theorem ml_X0_92 : Cond.methodLink RX0 92 yX0_giveAtDepth ∈ gTb := gTb_in (List.mem_of_getElem? (i := 326) (by decide +kernel)) rfl
theorem ml_X0_98 : Cond.methodLink RX0 98 yX0_eOf ∈ gTb := gTb_in (List.mem_of_getElem? (i := 331) (by decide +kernel)) rfl
theorem ml_X0_105 : Cond.methodLinkNest RX0 105 yX6_quotient "BowBend" ∈ lw_tbl := List.mem_of_getElem? (i := 335) (by decide +kernel)
theorem ml_X0_109 : Cond.methodLink RX0 109 yX0_giveOf ∈ gTb := gTb_in (List.mem_of_getElem? (i := 346) (by decide +kernel)) rfl
theorem ml_X0_112 : Cond.methodLink RX0 112 yX0_limbGives ∈ gTb := gTb_in (List.mem_of_getElem? (i := 380) (by decide +kernel)) rfl
theorem ml_X0_116 : Cond.methodLink RX0 116 yX0_allSets ∈ gTb := gTb_in (List.mem_of_getElem? (i := 355) (by decide +kernel)) rfl
theorem ml_X0_121 : Cond.methodLink RX0 121 yX0_followed ∈ gTb := gTb_in (List.mem_of_getElem? (i := 372) (by decide +kernel)) rfl
theorem ml_X0_124 : Cond.methodLink RX0 124 Lib.Math.max.name ∈ gTb := gTb_in (List.mem_of_getElem? (i := 373) (by decide +kernel)) rfl
theorem ml_X0_132 : Cond.methodLink RX0 132 yX0_strainOf ∈ gTb := gTb_in (List.mem_of_getElem? (i := 405) (by decide +kernel)) rfl
theorem ml_X0_138 : Cond.methodLink RX0 138 yX0_pullLineOf ∈ gTb := gTb_in (List.mem_of_getElem? (i := 407) (by decide +kernel)) rfl
theorem ml_X0_141 : Cond.methodLink RX0 141 yX0_pressLineOf ∈ gTb := gTb_in (List.mem_of_getElem? (i := 416) (by decide +kernel)) rfl
theorem ml_X0_151 : Cond.methodLink RX0 151 Lib.MathLoose.min_long.x ∈ gTb := gTb_in (List.mem_of_getElem? (i := 422) (by decide +kernel)) rfl
theorem ml_X0_154 : Cond.methodLink RX0 154 yX0_pullAt ∈ gTb := gTb_in (List.mem_of_getElem? (i := 445) (by decide +kernel)) rfl
theorem ml_X0_157 : Cond.methodLink RX0 157 yX0_allGives ∈ gTb := gTb_in (List.mem_of_getElem? (i := 446) (by decide +kernel)) rfl
theorem ml_X0_165 : Cond.methodLink RX0 165 Lib.MathLoose.max_long.x ∈ gTb := gTb_in (List.mem_of_getElem? (i := 460) (by decide +kernel)) rfl
theorem ml_X0_167 : Cond.methodLink RX0 167 yX0_formDepth ∈ gTb := gTb_in (List.mem_of_getElem? (i := 531) (by decide +kernel)) rfl
theorem ml_X0_176 : Cond.methodLink RX0 176 yX0_allSeen ∈ gTb := gTb_in (List.mem_of_getElem? (i := 582) (by decide +kernel)) rfl
theorem ml_X0_179 : Cond.methodLink RX0 179 yX0_offBy ∈ gTb := gTb_in (List.mem_of_getElem? (i := 583) (by decide +kernel)) rfl
theorem ml_X1_3 : Cond.methodLink RX1 3 objectInit ∈ gTb := gTb_in (List.mem_of_getElem? (i := 101) (by decide +kernel)) rfl
theorem ml_X2_3 : Cond.methodLink RX2 3 objectInit ∈ gTb := gTb_in (List.mem_of_getElem? (i := 169) (by decide +kernel)) rfl
theorem ml_X2_22 : Cond.methodLink RX2 22 yX0_pullAt ∈ gTb := gTb_in (List.mem_of_getElem? (i := 471) (by decide +kernel)) rfl
theorem ml_X2_28 : Cond.methodLink RX2 28 yX0_allGives ∈ gTb := gTb_in (List.mem_of_getElem? (i := 472) (by decide +kernel)) rfl
theorem ml_X2_32 : Cond.methodLink RX2 32 yX0_evenness ∈ gTb := gTb_in (List.mem_of_getElem? (i := 473) (by decide +kernel)) rfl
theorem ml_X2_40 : Cond.methodLink RX2 40 yX0_has ∈ gTb := gTb_in (List.mem_of_getElem? (i := 474) (by decide +kernel)) rfl
theorem ml_X2_49 : Cond.methodLink RX2 49 yX0_weighs ∈ gTb := gTb_in (List.mem_of_getElem? (i := 475) (by decide +kernel)) rfl
theorem ml_X2_69 : Cond.methodLink RX2 69 yX2_tryWays ∈ gTb := gTb_in (List.mem_of_getElem? (i := 490) (by decide +kernel)) rfl
theorem ml_X2_73 : Cond.methodLink RX2 73 yX2_judge ∈ gTb := gTb_in (List.mem_of_getElem? (i := 493) (by decide +kernel)) rfl
theorem ml_X2_77 : Cond.methodLink RX2 77 yX0_giveOf ∈ gTb := gTb_in (List.mem_of_getElem? (i := 503) (by decide +kernel)) rfl
theorem ml_X2_81 : Cond.methodLink RX2 81 Lib.Math.min.name ∈ gTb := gTb_in (List.mem_of_getElem? (i := 497) (by decide +kernel)) rfl
theorem ml_X2_87 : Cond.methodLink RX2 87 arraycopyName ∈ gTb := gTb_in (List.mem_of_getElem? (i := 500) (by decide +kernel)) rfl
theorem ml_X3_1 : Cond.methodLink RX3 1 objectInit ∈ gTb := gTb_in (List.mem_of_getElem? (i := 199) (by decide +kernel)) rfl
theorem ml_X3_9 : Cond.methodLink RX3 9 yX0_init ∈ gTb := gTb_in (List.mem_of_getElem? (i := 201) (by decide +kernel)) rfl
theorem ml_X4_3 : Cond.methodLink RX4 3 objectInit ∈ gTb := gTb_in (List.mem_of_getElem? (i := 56) (by decide +kernel)) rfl
theorem ml_X4_19 : Cond.methodLink RX4 19 yX4_signAt ∈ gTb := gTb_in (List.mem_of_getElem? (i := 248) (by decide +kernel)) rfl
theorem ml_X4_23 : Cond.methodLink RX4 23 yX4_slashAt ∈ gTb := gTb_in (List.mem_of_getElem? (i := 244) (by decide +kernel)) rfl
theorem ml_X4_27 : Cond.methodLink RX4 27 yX4_fits ∈ gTb := gTb_in (List.mem_of_getElem? (i := 252) (by decide +kernel)) rfl
theorem ml_X4_31 : Cond.methodLink RX4 31 yX4_figureFits ∈ gTb := gTb_in (List.mem_of_getElem? (i := 256) (by decide +kernel)) rfl
theorem ml_X4_34 : Cond.methodLink RX4 34 yX4_figureAt ∈ gTb := gTb_in (List.mem_of_getElem? (i := 260) (by decide +kernel)) rfl
theorem ml_X4_37 : Cond.methodLink RX4 37 yX4_depthFits ∈ gTb := gTb_in (List.mem_of_getElem? (i := 264) (by decide +kernel)) rfl
theorem ml_X5_1 : Cond.methodLink RX5 1 objectInit ∈ gTb := gTb_in (List.mem_of_getElem? (i := 78) (by decide +kernel)) rfl
theorem ml_X6_1 : Cond.methodLink RX6 1 objectInit ∈ gTb := gTb_in (List.mem_of_getElem? (i := 48) (by decide +kernel)) rfl
theorem ml_X6_9 : Cond.methodLink RX6 9 yX4_init ∈ gTb := gTb_in (List.mem_of_getElem? (i := 53) (by decide +kernel)) rfl
theorem ml_X6_18 : Cond.methodLink RX6 18 yX0_init ∈ gTb := gTb_in (List.mem_of_getElem? (i := 68) (by decide +kernel)) rfl
theorem ml_X6_25 : Cond.methodLink RX6 25 yX2_init ∈ gTb := gTb_in (List.mem_of_getElem? (i := 166) (by decide +kernel)) rfl
theorem ml_X6_32 : Cond.methodLink RX6 32 yX3_init ∈ gTb := gTb_in (List.mem_of_getElem? (i := 196) (by decide +kernel)) rfl
theorem ml_X6_41 : Cond.methodLink RX6 41 yX4_append ∈ gTb := gTb_in (List.mem_of_getElem? (i := 228) (by decide +kernel)) rfl
theorem ml_X6_45 : Cond.methodLink RX6 45 yX4_firstFault ∈ gTb := gTb_in (List.mem_of_getElem? (i := 240) (by decide +kernel)) rfl
theorem ml_X6_49 : Cond.methodLink RX6 49 yX0_makeAnew ∈ gTb := gTb_in (List.mem_of_getElem? (i := 272) (by decide +kernel)) rfl
theorem ml_X6_56 : Cond.methodLink RX6 56 yX0_woodNumbered ∈ gTb := gTb_in (List.mem_of_getElem? (i := 290) (by decide +kernel)) rfl
theorem ml_X6_60 : Cond.methodLink RX6 60 yX6_isOutside ∈ gTb := gTb_in (List.mem_of_getElem? (i := 294) (by decide +kernel)) rfl
theorem ml_X6_69 : Cond.methodLink RX6 69 yX5_become ∈ gTb := gTb_in (List.mem_of_getElem? (i := 297) (by decide +kernel)) rfl
theorem ml_X6_79 : Cond.methodLink RX6 79 yX0_placeTold ∈ gTb := gTb_in (List.mem_of_getElem? (i := 309) (by decide +kernel)) rfl
theorem ml_X6_106 : Cond.methodLink RX6 106 yX0_giveOf ∈ gTb := gTb_in (List.mem_of_getElem? (i := 322) (by decide +kernel)) rfl
theorem ml_X6_110 : Cond.methodLink RX6 110 yX0_limbGives ∈ gTb := gTb_in (List.mem_of_getElem? (i := 342) (by decide +kernel)) rfl
theorem ml_X6_114 : Cond.methodLink RX6 114 yX0_followed ∈ gTb := gTb_in (List.mem_of_getElem? (i := 351) (by decide +kernel)) rfl
theorem ml_X6_117 : Cond.methodLink RX6 117 yX6_isBadDraw ∈ gTb := gTb_in (List.mem_of_getElem? (i := 363) (by decide +kernel)) rfl
theorem ml_X6_123 : Cond.methodLink RX6 123 yX0_pullAt ∈ gTb := gTb_in (List.mem_of_getElem? (i := 367) (by decide +kernel)) rfl
theorem ml_X6_126 : Cond.methodLink RX6 126 yX0_allGives ∈ gTb := gTb_in (List.mem_of_getElem? (i := 376) (by decide +kernel)) rfl
theorem ml_X6_130 : Cond.methodLink RX6 130 yX6_fractionPart ∈ gTb := gTb_in (List.mem_of_getElem? (i := 381) (by decide +kernel)) rfl
theorem ml_X6_134 : Cond.methodLink RX6 134 yX0_strainOf ∈ gTb := gTb_in (List.mem_of_getElem? (i := 392) (by decide +kernel)) rfl
theorem ml_X6_141 : Cond.methodLink RX6 141 yX0_breakingPlace ∈ gTb := gTb_in (List.mem_of_getElem? (i := 401) (by decide +kernel)) rfl
theorem ml_X6_148 : Cond.methodLink RX6 148 yX0_takeSets ∈ gTb := gTb_in (List.mem_of_getElem? (i := 412) (by decide +kernel)) rfl
theorem ml_X6_152 : Cond.methodLink RX6 152 yX0_extremePlace ∈ gTb := gTb_in (List.mem_of_getElem? (i := 441) (by decide +kernel)) rfl
theorem ml_X6_156 : Cond.methodLink RX6 156 yX0_evenness ∈ gTb := gTb_in (List.mem_of_getElem? (i := 455) (by decide +kernel)) rfl
theorem ml_X6_159 : Cond.methodLink RX6 159 yX2_nextPlace ∈ gTb := gTb_in (List.mem_of_getElem? (i := 467) (by decide +kernel)) rfl
theorem ml_X6_163 : Cond.methodLink RX6 163 yX6_isBadSearch ∈ gTb := gTb_in (List.mem_of_getElem? (i := 483) (by decide +kernel)) rfl
theorem ml_X6_166 : Cond.methodLink RX6 166 yX2_seek ∈ gTb := gTb_in (List.mem_of_getElem? (i := 486) (by decide +kernel)) rfl
theorem ml_X6_173 : Cond.methodLink RX6 173 yX2_foundPlace ∈ gTb := gTb_in (List.mem_of_getElem? (i := 508) (by decide +kernel)) rfl
theorem ml_X6_177 : Cond.methodLink RX6 177 yX6_isBadForm ∈ gTb := gTb_in (List.mem_of_getElem? (i := 516) (by decide +kernel)) rfl
theorem ml_X6_181 : Cond.methodLink RX6 181 yX0_formDepth ∈ gTb := gTb_in (List.mem_of_getElem? (i := 519) (by decide +kernel)) rfl
theorem ml_X6_185 : Cond.methodLink RX6 185 yX0_hasForm ∈ gTb := gTb_in (List.mem_of_getElem? (i := 527) (by decide +kernel)) rfl
theorem ml_X6_188 : Cond.methodLink RX6 188 yX0_takeForm ∈ gTb := gTb_in (List.mem_of_getElem? (i := 532) (by decide +kernel)) rfl
theorem ml_X6_192 : Cond.methodLink RX6 192 yX0_load ∈ gTb := gTb_in (List.mem_of_getElem? (i := 540) (by decide +kernel)) rfl
theorem ml_X6_197 : Cond.methodLink RX6 197 yX0_givesIfLost ∈ gTb := gTb_in (List.mem_of_getElem? (i := 554) (by decide +kernel)) rfl
theorem ml_X6_201 : Cond.methodLink RX6 201 yX0_allSeen ∈ gTb := gTb_in (List.mem_of_getElem? (i := 566) (by decide +kernel)) rfl
theorem ml_X6_204 : Cond.methodLink RX6 204 yX0_offBy ∈ gTb := gTb_in (List.mem_of_getElem? (i := 570) (by decide +kernel)) rfl
theorem ml_X6_208 : Cond.methodLink RX6 208 yX0_leastOffPlace ∈ gTb := gTb_in (List.mem_of_getElem? (i := 578) (by decide +kernel)) rfl
theorem ml_X6_211 : Cond.methodLink RX6 211 yX6_waysBetween ∈ gTb := gTb_in (List.mem_of_getElem? (i := 588) (by decide +kernel)) rfl
theorem ml_X6_217 : Cond.methodLink RX6 217 yX6_power ∈ gTb := gTb_in (List.mem_of_getElem? (i := 591) (by decide +kernel)) rfl
theorem ml_X6_221 : Cond.methodLink RX6 221 yX6_slotNumbered ∈ gTb := gTb_in (List.mem_of_getElem? (i := 603) (by decide +kernel)) rfl
theorem ml_X6_226 : Cond.methodLink RX6 226 yX0_copyFrom ∈ gTb := gTb_in (List.mem_of_getElem? (i := 607) (by decide +kernel)) rfl
theorem ml_X6_233 : Cond.methodLink RX6 233 yX0_allKnots ∈ gTb := gTb_in (List.mem_of_getElem? (i := 624) (by decide +kernel)) rfl
theorem ml_X6_236 : Cond.methodLink RX6 236 yX0_allSets ∈ gTb := gTb_in (List.mem_of_getElem? (i := 628) (by decide +kernel)) rfl
theorem ml_X6_239 : Cond.methodLink RX6 239 yX6_commonDivisor ∈ gTb := gTb_in (List.mem_of_getElem? (i := 384) (by decide +kernel)) rfl
theorem ml_X6_243 : Cond.methodLink RX6 243 yX6_quotient ∈ gTb := gTb_in (List.mem_of_getElem? (i := 387) (by decide +kernel)) rfl
theorem ml_X7_1 : Cond.methodLink RX7 1 objectInit ∈ gTb := gTb_in (List.mem_of_getElem? (i := 634) (by decide +kernel)) rfl
theorem ml_X7_72 : Cond.methodLink RX7 72 yX7_in ∈ gTb := gTb_in (List.mem_of_getElem? (i := 715) (by decide +kernel)) rfl
theorem ml_X7_86 : Cond.methodLink RX7 86 yX7_figure ∈ gTb := gTb_in (List.mem_of_getElem? (i := 734) (by decide +kernel)) rfl
theorem ml_X7_93 : Cond.methodLink RX7 93 yX7_readPlace ∈ gTb := gTb_in (List.mem_of_getElem? (i := 730) (by decide +kernel)) rfl
theorem ml_X7_97 : Cond.methodLink RX7 97 yX7_readStave ∈ gTb := gTb_in (List.mem_of_getElem? (i := 726) (by decide +kernel)) rfl
theorem ml_X7_101 : Cond.methodLink RX7 101 yX7_noWood ∈ gTb := gTb_in (List.mem_of_getElem? (i := 746) (by decide +kernel)) rfl
theorem ml_X7_108 : Cond.methodLink RX7 108 yX7_noPlace ∈ gTb := gTb_in (List.mem_of_getElem? (i := 760) (by decide +kernel)) rfl
theorem ml_X7_111 : Cond.methodLink RX7 111 yX7_index ∈ gTb := gTb_in (List.mem_of_getElem? (i := 764) (by decide +kernel)) rfl
theorem ml_X7_117 : Cond.methodLink RX7 117 yX7_giveBy ∈ gTb := gTb_in (List.mem_of_getElem? (i := 780) (by decide +kernel)) rfl
theorem ml_X7_121 : Cond.methodLink RX7 121 yX7_giveOf ∈ gTb := gTb_in (List.mem_of_getElem? (i := 776) (by decide +kernel)) rfl
theorem ml_X7_125 : Cond.methodLink RX7 125 yX7_limbOf ∈ gTb := gTb_in (List.mem_of_getElem? (i := 789) (by decide +kernel)) rfl
theorem ml_X7_128 : Cond.methodLink RX7 128 yX7_isThere ∈ gTb := gTb_in (List.mem_of_getElem? (i := 801) (by decide +kernel)) rfl
theorem ml_X7_131 : Cond.methodLink RX7 131 yX7_allSets ∈ gTb := gTb_in (List.mem_of_getElem? (i := 797) (by decide +kernel)) rfl
theorem ml_X7_136 : Cond.methodLink RX7 136 yX7_pull ∈ gTb := gTb_in (List.mem_of_getElem? (i := 814) (by decide +kernel)) rfl
theorem ml_X7_141 : Cond.methodLink RX7 141 yX7_allGive ∈ gTb := gTb_in (List.mem_of_getElem? (i := 819) (by decide +kernel)) rfl
theorem ml_X7_147 : Cond.methodLink RX7 147 yX7_noInches ∈ gTb := gTb_in (List.mem_of_getElem? (i := 809) (by decide +kernel)) rfl
theorem ml_X7_152 : Cond.methodLink RX7 152 yX7_told ∈ gTb := gTb_in (List.mem_of_getElem? (i := 823) (by decide +kernel)) rfl
theorem ml_X7_156 : Cond.methodLink RX7 156 yX7_strainOf ∈ gTb := gTb_in (List.mem_of_getElem? (i := 830) (by decide +kernel)) rfl
theorem ml_X7_162 : Cond.methodLink RX7 162 yX7_pullLine ∈ gTb := gTb_in (List.mem_of_getElem? (i := 839) (by decide +kernel)) rfl
theorem ml_X7_165 : Cond.methodLink RX7 165 yX7_code ∈ gTb := gTb_in (List.mem_of_getElem? (i := 844) (by decide +kernel)) rfl
theorem ml_X7_170 : Cond.methodLink RX7 170 yX7_extreme ∈ gTb := gTb_in (List.mem_of_getElem? (i := 864) (by decide +kernel)) rfl
theorem ml_X7_174 : Cond.methodLink RX7 174 yX7_evenOf ∈ gTb := gTb_in (List.mem_of_getElem? (i := 876) (by decide +kernel)) rfl
theorem ml_X7_177 : Cond.methodLink RX7 177 yX7_isHeavy ∈ gTb := gTb_in (List.mem_of_getElem? (i := 884) (by decide +kernel)) rfl
theorem ml_X7_187 : Cond.methodLink RX7 187 yX7_weigh ∈ gTb := gTb_in (List.mem_of_getElem? (i := 900) (by decide +kernel)) rfl
theorem ml_X7_191 : Cond.methodLink RX7 191 yX7_lay ∈ gTb := gTb_in (List.mem_of_getElem? (i := 904) (by decide +kernel)) rfl
theorem ml_X7_194 : Cond.methodLink RX7 194 yX7_findThird ∈ gTb := gTb_in (List.mem_of_getElem? (i := 908) (by decide +kernel)) rfl
theorem ml_X7_199 : Cond.methodLink RX7 199 yX7_noSearch ∈ gTb := gTb_in (List.mem_of_getElem? (i := 892) (by decide +kernel)) rfl
theorem ml_X7_203 : Cond.methodLink RX7 203 yX7_findBest ∈ gTb := gTb_in (List.mem_of_getElem? (i := 896) (by decide +kernel)) rfl
theorem ml_X7_206 : Cond.methodLink RX7 206 yX7_noForm ∈ gTb := gTb_in (List.mem_of_getElem? (i := 920) (by decide +kernel)) rfl
theorem ml_X7_209 : Cond.methodLink RX7 209 yX7_formOf ∈ gTb := gTb_in (List.mem_of_getElem? (i := 923) (by decide +kernel)) rfl
theorem ml_X7_219 : Cond.methodLink RX7 219 yX7_allSeen ∈ gTb := gTb_in (List.mem_of_getElem? (i := 954) (by decide +kernel)) rfl
theorem ml_X7_222 : Cond.methodLink RX7 222 yX7_offOf ∈ gTb := gTb_in (List.mem_of_getElem? (i := 958) (by decide +kernel)) rfl
theorem ml_X7_225 : Cond.methodLink RX7 225 yX7_power ∈ gTb := gTb_in (List.mem_of_getElem? (i := 975) (by decide +kernel)) rfl
theorem ml_X7_233 : Cond.methodLink RX7 233 yX7_just ∈ gTb := gTb_in (List.mem_of_getElem? (i := 972) (by decide +kernel)) rfl
theorem if_X6_init : Cond.instanceMethod yX6_init ∈ gTb ∧ Cond.initialized yX6_init.cls ∈ gTb ∧ Cond.code yX6_init cX6_init 1 none ∈ lw_tbl := ⟨gTb_in (List.mem_of_getElem? (i := 46) (by decide +kernel)) rfl, gTb_in (List.mem_of_getElem? (i := 33) (by decide +kernel)) rfl, List.mem_of_getElem? (i := 47) (by decide +kernel)⟩
theorem vf_X6_about : gVf yX6_about cX6_about 4 (some .int) 2 := ⟨gTb_in (List.mem_of_getElem? (i := 314) (by decide +kernel)) rfl, gTb_in (List.mem_of_getElem? (i := 315) (by decide +kernel)) rfl, gTb_in (List.mem_of_getElem? (i := 33) (by decide +kernel)) rfl, List.mem_of_getElem? (i := 316) (by decide +kernel), ⟨by decide +kernel, by decide +kernel, by decide +kernel⟩, by decide⟩
theorem vf_X6_again : gVf yX6_again cX6_again 3 (some .int) 1 := ⟨gTb_in (List.mem_of_getElem? (i := 617) (by decide +kernel)) rfl, gTb_in (List.mem_of_getElem? (i := 618) (by decide +kernel)) rfl, gTb_in (List.mem_of_getElem? (i := 33) (by decide +kernel)) rfl, List.mem_of_getElem? (i := 619) (by decide +kernel), ⟨by decide +kernel, by decide +kernel, by decide +kernel⟩, by decide⟩
theorem vf_X6_best : gVf yX6_best cX6_best 4 (some .int) 3 := ⟨gTb_in (List.mem_of_getElem? (i := 480) (by decide +kernel)) rfl, gTb_in (List.mem_of_getElem? (i := 481) (by decide +kernel)) rfl, gTb_in (List.mem_of_getElem? (i := 33) (by decide +kernel)) rfl, List.mem_of_getElem? (i := 482) (by decide +kernel), ⟨by decide +kernel, by decide +kernel, by decide +kernel⟩, by decide⟩
theorem vf_X6_bestAt : gVf yX6_bestAt cX6_bestAt 5 (some .int) 4 := ⟨gTb_in (List.mem_of_getElem? (i := 505) (by decide +kernel)) rfl, gTb_in (List.mem_of_getElem? (i := 506) (by decide +kernel)) rfl, gTb_in (List.mem_of_getElem? (i := 33) (by decide +kernel)) rfl, List.mem_of_getElem? (i := 507) (by decide +kernel), ⟨by decide +kernel, by decide +kernel, by decide +kernel⟩, by decide⟩
theorem vf_X6_broken : gVf yX6_broken cX6_broken 1 (some .int) 0 := ⟨gTb_in (List.mem_of_getElem? (i := 426) (by decide +kernel)) rfl, gTb_in (List.mem_of_getElem? (i := 427) (by decide +kernel)) rfl, gTb_in (List.mem_of_getElem? (i := 33) (by decide +kernel)) rfl, List.mem_of_getElem? (i := 428) (by decide +kernel), ⟨by decide +kernel, by decide +kernel, by decide +kernel⟩, by decide⟩
theorem sf_X6_commonDivisor : gSf yX6_commonDivisor cX6_commonDivisor 11 (some .long) 2 := ⟨gTb_in (List.mem_of_getElem? (i := 385) (by decide +kernel)) rfl, gTb_in (List.mem_of_getElem? (i := 33) (by decide +kernel)) rfl, List.mem_of_getElem? (i := 386) (by decide +kernel), ⟨by decide +kernel, by decide +kernel, by decide +kernel⟩, by decide⟩
theorem vf_X6_count : gVf yX6_count cX6_count 2 (some .int) 1 := ⟨gTb_in (List.mem_of_getElem? (i := 621) (by decide +kernel)) rfl, gTb_in (List.mem_of_getElem? (i := 622) (by decide +kernel)) rfl, gTb_in (List.mem_of_getElem? (i := 33) (by decide +kernel)) rfl, List.mem_of_getElem? (i := 623) (by decide +kernel), ⟨by decide +kernel, by decide +kernel, by decide +kernel⟩, by decide⟩
theorem vf_X6_draw : gVf yX6_draw cX6_draw 7 (some .int) 1 := ⟨gTb_in (List.mem_of_getElem? (i := 398) (by decide +kernel)) rfl, gTb_in (List.mem_of_getElem? (i := 399) (by decide +kernel)) rfl, gTb_in (List.mem_of_getElem? (i := 33) (by decide +kernel)) rfl, List.mem_of_getElem? (i := 400) (by decide +kernel), ⟨by decide +kernel, by decide +kernel, by decide +kernel⟩, by decide⟩
theorem vf_X6_even : gVf yX6_even cX6_even 2 (some .int) 1 := ⟨gTb_in (List.mem_of_getElem? (i := 452) (by decide +kernel)) rfl, gTb_in (List.mem_of_getElem? (i := 453) (by decide +kernel)) rfl, gTb_in (List.mem_of_getElem? (i := 33) (by decide +kernel)) rfl, List.mem_of_getElem? (i := 454) (by decide +kernel), ⟨by decide +kernel, by decide +kernel, by decide +kernel⟩, by decide⟩
theorem vf_X6_fault : gVf yX6_fault cX6_fault 1 (some .int) 0 := ⟨gTb_in (List.mem_of_getElem? (i := 237) (by decide +kernel)) rfl, gTb_in (List.mem_of_getElem? (i := 238) (by decide +kernel)) rfl, gTb_in (List.mem_of_getElem? (i := 33) (by decide +kernel)) rfl, List.mem_of_getElem? (i := 239) (by decide +kernel), ⟨by decide +kernel, by decide +kernel, by decide +kernel⟩, by decide⟩
theorem vf_X6_follow : gVf yX6_follow cX6_follow 1 (some .int) 0 := ⟨gTb_in (List.mem_of_getElem? (i := 348) (by decide +kernel)) rfl, gTb_in (List.mem_of_getElem? (i := 349) (by decide +kernel)) rfl, gTb_in (List.mem_of_getElem? (i := 33) (by decide +kernel)) rfl, List.mem_of_getElem? (i := 350) (by decide +kernel), ⟨by decide +kernel, by decide +kernel, by decide +kernel⟩, by decide⟩
theorem vf_X6_form : gVf yX6_form cX6_form 5 (some .int) 3 := ⟨gTb_in (List.mem_of_getElem? (i := 513) (by decide +kernel)) rfl, gTb_in (List.mem_of_getElem? (i := 514) (by decide +kernel)) rfl, gTb_in (List.mem_of_getElem? (i := 33) (by decide +kernel)) rfl, List.mem_of_getElem? (i := 515) (by decide +kernel), ⟨by decide +kernel, by decide +kernel, by decide +kernel⟩, by decide⟩
theorem sf_X6_fractionPart : gSf yX6_fractionPart cX6_fractionPart 5 (some .long) 3 := ⟨gTb_in (List.mem_of_getElem? (i := 382) (by decide +kernel)) rfl, gTb_in (List.mem_of_getElem? (i := 33) (by decide +kernel)) rfl, List.mem_of_getElem? (i := 383) (by decide +kernel), ⟨by decide +kernel, by decide +kernel, by decide +kernel⟩, by decide⟩
theorem vf_X6_give : gVf yX6_give cX6_give 3 (some .long) 1 := ⟨gTb_in (List.mem_of_getElem? (i := 318) (by decide +kernel)) rfl, gTb_in (List.mem_of_getElem? (i := 319) (by decide +kernel)) rfl, gTb_in (List.mem_of_getElem? (i := 33) (by decide +kernel)) rfl, List.mem_of_getElem? (i := 320) (by decide +kernel), ⟨by decide +kernel, by decide +kernel, by decide +kernel⟩, by decide⟩
theorem vf_X6_good : gVf yX6_good cX6_good 5 (some .long) 4 := ⟨gTb_in (List.mem_of_getElem? (i := 596) (by decide +kernel)) rfl, gTb_in (List.mem_of_getElem? (i := 597) (by decide +kernel)) rfl, gTb_in (List.mem_of_getElem? (i := 33) (by decide +kernel)) rfl, List.mem_of_getElem? (i := 598) (by decide +kernel), ⟨by decide +kernel, by decide +kernel, by decide +kernel⟩, by decide⟩
theorem vf_X6_grown : gVf yX6_grown cX6_grown 4 (some .int) 2 := ⟨gTb_in (List.mem_of_getElem? (i := 302) (by decide +kernel)) rfl, gTb_in (List.mem_of_getElem? (i := 303) (by decide +kernel)) rfl, gTb_in (List.mem_of_getElem? (i := 33) (by decide +kernel)) rfl, List.mem_of_getElem? (i := 304) (by decide +kernel), ⟨by decide +kernel, by decide +kernel, by decide +kernel⟩, by decide⟩
theorem vf_X6_hinge : gVf yX6_hinge cX6_hinge 2 (some .int) 1 := ⟨gTb_in (List.mem_of_getElem? (i := 438) (by decide +kernel)) rfl, gTb_in (List.mem_of_getElem? (i := 439) (by decide +kernel)) rfl, gTb_in (List.mem_of_getElem? (i := 33) (by decide +kernel)) rfl, List.mem_of_getElem? (i := 440) (by decide +kernel), ⟨by decide +kernel, by decide +kernel, by decide +kernel⟩, by decide⟩
theorem sf_X6_isBadDraw : gSf yX6_isBadDraw cX6_isBadDraw 1 (some .boolean) 1 := ⟨gTb_in (List.mem_of_getElem? (i := 364) (by decide +kernel)) rfl, gTb_in (List.mem_of_getElem? (i := 33) (by decide +kernel)) rfl, List.mem_of_getElem? (i := 365) (by decide +kernel), ⟨by decide +kernel, by decide +kernel, by decide +kernel⟩, by decide⟩
theorem sf_X6_isBadForm : gSf yX6_isBadForm cX6_isBadForm 2 (some .boolean) 2 := ⟨gTb_in (List.mem_of_getElem? (i := 517) (by decide +kernel)) rfl, gTb_in (List.mem_of_getElem? (i := 33) (by decide +kernel)) rfl, List.mem_of_getElem? (i := 518) (by decide +kernel), ⟨by decide +kernel, by decide +kernel, by decide +kernel⟩, by decide⟩
theorem sf_X6_isBadSearch : gSf yX6_isBadSearch cX6_isBadSearch 3 (some .boolean) 3 := ⟨gTb_in (List.mem_of_getElem? (i := 484) (by decide +kernel)) rfl, gTb_in (List.mem_of_getElem? (i := 33) (by decide +kernel)) rfl, List.mem_of_getElem? (i := 485) (by decide +kernel), ⟨by decide +kernel, by decide +kernel, by decide +kernel⟩, by decide⟩
theorem sf_X6_isOutside : gSf yX6_isOutside cX6_isOutside 3 (some .boolean) 3 := ⟨gTb_in (List.mem_of_getElem? (i := 295) (by decide +kernel)) rfl, gTb_in (List.mem_of_getElem? (i := 33) (by decide +kernel)) rfl, List.mem_of_getElem? (i := 296) (by decide +kernel), ⟨by decide +kernel, by decide +kernel, by decide +kernel⟩, by decide⟩
theorem vf_X6_keep : gVf yX6_keep cX6_keep 3 (some .int) 1 := ⟨gTb_in (List.mem_of_getElem? (i := 600) (by decide +kernel)) rfl, gTb_in (List.mem_of_getElem? (i := 601) (by decide +kernel)) rfl, gTb_in (List.mem_of_getElem? (i := 33) (by decide +kernel)) rfl, List.mem_of_getElem? (i := 602) (by decide +kernel), ⟨by decide +kernel, by decide +kernel, by decide +kernel⟩, by decide⟩
theorem vf_X6_knot : gVf yX6_knot cX6_knot 5 (some .int) 2 := ⟨gTb_in (List.mem_of_getElem? (i := 306) (by decide +kernel)) rfl, gTb_in (List.mem_of_getElem? (i := 307) (by decide +kernel)) rfl, gTb_in (List.mem_of_getElem? (i := 33) (by decide +kernel)) rfl, List.mem_of_getElem? (i := 308) (by decide +kernel), ⟨by decide +kernel, by decide +kernel, by decide +kernel⟩, by decide⟩
theorem vf_X6_limb : gVf yX6_limb cX6_limb 2 (some .long) 1 := ⟨gTb_in (List.mem_of_getElem? (i := 339) (by decide +kernel)) rfl, gTb_in (List.mem_of_getElem? (i := 340) (by decide +kernel)) rfl, gTb_in (List.mem_of_getElem? (i := 33) (by decide +kernel)) rfl, List.mem_of_getElem? (i := 341) (by decide +kernel), ⟨by decide +kernel, by decide +kernel, by decide +kernel⟩, by decide⟩
theorem vf_X6_lost : gVf yX6_lost cX6_lost 8 (some .long) 6 := ⟨gTb_in (List.mem_of_getElem? (i := 551) (by decide +kernel)) rfl, gTb_in (List.mem_of_getElem? (i := 552) (by decide +kernel)) rfl, gTb_in (List.mem_of_getElem? (i := 33) (by decide +kernel)) rfl, List.mem_of_getElem? (i := 553) (by decide +kernel), ⟨by decide +kernel, by decide +kernel, by decide +kernel⟩, by decide⟩
theorem vf_X6_next : gVf yX6_next cX6_next 3 (some .int) 2 := ⟨gTb_in (List.mem_of_getElem? (i := 464) (by decide +kernel)) rfl, gTb_in (List.mem_of_getElem? (i := 465) (by decide +kernel)) rfl, gTb_in (List.mem_of_getElem? (i := 33) (by decide +kernel)) rfl, List.mem_of_getElem? (i := 466) (by decide +kernel), ⟨by decide +kernel, by decide +kernel, by decide +kernel⟩, by decide⟩
theorem vf_X6_off : gVf yX6_off cX6_off 4 (some .int) 1 := ⟨gTb_in (List.mem_of_getElem? (i := 563) (by decide +kernel)) rfl, gTb_in (List.mem_of_getElem? (i := 564) (by decide +kernel)) rfl, gTb_in (List.mem_of_getElem? (i := 33) (by decide +kernel)) rfl, List.mem_of_getElem? (i := 565) (by decide +kernel), ⟨by decide +kernel, by decide +kernel, by decide +kernel⟩, by decide⟩
theorem vf_X6_pace : gVf yX6_pace cX6_pace 4 (some .long) 3 := ⟨gTb_in (List.mem_of_getElem? (i := 537) (by decide +kernel)) rfl, gTb_in (List.mem_of_getElem? (i := 538) (by decide +kernel)) rfl, gTb_in (List.mem_of_getElem? (i := 33) (by decide +kernel)) rfl, List.mem_of_getElem? (i := 539) (by decide +kernel), ⟨by decide +kernel, by decide +kernel, by decide +kernel⟩, by decide⟩
theorem sf_X6_power : gSf yX6_power cX6_power 6 (some .long) 2 := ⟨gTb_in (List.mem_of_getElem? (i := 592) (by decide +kernel)) rfl, gTb_in (List.mem_of_getElem? (i := 33) (by decide +kernel)) rfl, List.mem_of_getElem? (i := 593) (by decide +kernel), ⟨by decide +kernel, by decide +kernel, by decide +kernel⟩, by decide⟩
theorem sf_X6_quotient : gSf yX6_quotient cX6_quotient 4 (some .long) 2 := ⟨gTb_in (List.mem_of_getElem? (i := 336) (by decide +kernel)) rfl, gTb_in (List.mem_of_getElem? (i := 33) (by decide +kernel)) rfl, List.mem_of_getElem? (i := 337) (by decide +kernel), ⟨by decide +kernel, by decide +kernel, by decide +kernel⟩, by decide⟩
theorem vf_X6_scrape : gVf yX6_scrape cX6_scrape 4 (some .int) 2 := ⟨gTb_in (List.mem_of_getElem? (i := 430) (by decide +kernel)) rfl, gTb_in (List.mem_of_getElem? (i := 431) (by decide +kernel)) rfl, gTb_in (List.mem_of_getElem? (i := 33) (by decide +kernel)) rfl, List.mem_of_getElem? (i := 432) (by decide +kernel), ⟨by decide +kernel, by decide +kernel, by decide +kernel⟩, by decide⟩
theorem vf_X6_see : gVf yX6_see cX6_see 5 (some .int) 2 := ⟨gTb_in (List.mem_of_getElem? (i := 559) (by decide +kernel)) rfl, gTb_in (List.mem_of_getElem? (i := 560) (by decide +kernel)) rfl, gTb_in (List.mem_of_getElem? (i := 33) (by decide +kernel)) rfl, List.mem_of_getElem? (i := 561) (by decide +kernel), ⟨by decide +kernel, by decide +kernel, by decide +kernel⟩, by decide⟩
theorem vf_X6_shape : gVf yX6_shape cX6_shape 3 (some .int) 2 := ⟨gTb_in (List.mem_of_getElem? (i := 524) (by decide +kernel)) rfl, gTb_in (List.mem_of_getElem? (i := 525) (by decide +kernel)) rfl, gTb_in (List.mem_of_getElem? (i := 33) (by decide +kernel)) rfl, List.mem_of_getElem? (i := 526) (by decide +kernel), ⟨by decide +kernel, by decide +kernel, by decide +kernel⟩, by decide⟩
theorem vf_X6_slips : gVf yX6_slips cX6_slips 7 (some .long) 5 := ⟨gTb_in (List.mem_of_getElem? (i := 585) (by decide +kernel)) rfl, gTb_in (List.mem_of_getElem? (i := 586) (by decide +kernel)) rfl, gTb_in (List.mem_of_getElem? (i := 33) (by decide +kernel)) rfl, List.mem_of_getElem? (i := 587) (by decide +kernel), ⟨by decide +kernel, by decide +kernel, by decide +kernel⟩, by decide⟩
theorem vf_X6_slotNumbered : gVf yX6_slotNumbered cX6_slotNumbered 2 (some (.object "BowBend$Slot")) 1 := ⟨gTb_in (List.mem_of_getElem? (i := 605) (by decide +kernel)) rfl, gTb_in (List.mem_of_getElem? (i := 8) (by decide +kernel)) rfl, gTb_in (List.mem_of_getElem? (i := 33) (by decide +kernel)) rfl, List.mem_of_getElem? (i := 606) (by decide +kernel), ⟨by decide +kernel, by decide +kernel, by decide +kernel⟩, by decide⟩
theorem vf_X6_stave : gVf yX6_stave cX6_stave 1 (some .int) 0 := ⟨gTb_in (List.mem_of_getElem? (i := 269) (by decide +kernel)) rfl, gTb_in (List.mem_of_getElem? (i := 270) (by decide +kernel)) rfl, gTb_in (List.mem_of_getElem? (i := 33) (by decide +kernel)) rfl, List.mem_of_getElem? (i := 271) (by decide +kernel), ⟨by decide +kernel, by decide +kernel, by decide +kernel⟩, by decide⟩
theorem vf_X6_steam : gVf yX6_steam cX6_steam 3 (some .int) 1 := ⟨gTb_in (List.mem_of_getElem? (i := 434) (by decide +kernel)) rfl, gTb_in (List.mem_of_getElem? (i := 435) (by decide +kernel)) rfl, gTb_in (List.mem_of_getElem? (i := 33) (by decide +kernel)) rfl, List.mem_of_getElem? (i := 436) (by decide +kernel), ⟨by decide +kernel, by decide +kernel, by decide +kernel⟩, by decide⟩
theorem vf_X6_stiff : gVf yX6_stiff cX6_stiff 2 (some .int) 1 := ⟨gTb_in (List.mem_of_getElem? (i := 448) (by decide +kernel)) rfl, gTb_in (List.mem_of_getElem? (i := 449) (by decide +kernel)) rfl, gTb_in (List.mem_of_getElem? (i := 33) (by decide +kernel)) rfl, List.mem_of_getElem? (i := 450) (by decide +kernel), ⟨by decide +kernel, by decide +kernel, by decide +kernel⟩, by decide⟩
theorem vf_X6_strain : gVf yX6_strain cX6_strain 4 (some .long) 2 := ⟨gTb_in (List.mem_of_getElem? (i := 389) (by decide +kernel)) rfl, gTb_in (List.mem_of_getElem? (i := 390) (by decide +kernel)) rfl, gTb_in (List.mem_of_getElem? (i := 33) (by decide +kernel)) rfl, List.mem_of_getElem? (i := 391) (by decide +kernel), ⟨by decide +kernel, by decide +kernel, by decide +kernel⟩, by decide⟩
theorem vf_X6_tooStiff : gVf yX6_tooStiff cX6_tooStiff 1 (some .int) 0 := ⟨gTb_in (List.mem_of_getElem? (i := 575) (by decide +kernel)) rfl, gTb_in (List.mem_of_getElem? (i := 576) (by decide +kernel)) rfl, gTb_in (List.mem_of_getElem? (i := 33) (by decide +kernel)) rfl, List.mem_of_getElem? (i := 577) (by decide +kernel), ⟨by decide +kernel, by decide +kernel, by decide +kernel⟩, by decide⟩
theorem sf_X6_waysBetween : gSf yX6_waysBetween cX6_waysBetween 9 (some .long) 4 := ⟨gTb_in (List.mem_of_getElem? (i := 589) (by decide +kernel)) rfl, gTb_in (List.mem_of_getElem? (i := 33) (by decide +kernel)) rfl, List.mem_of_getElem? (i := 590) (by decide +kernel), ⟨by decide +kernel, by decide +kernel, by decide +kernel⟩, by decide⟩
theorem vf_X6_weight : gVf yX6_weight cX6_weight 3 (some .long) 2 := ⟨gTb_in (List.mem_of_getElem? (i := 360) (by decide +kernel)) rfl, gTb_in (List.mem_of_getElem? (i := 361) (by decide +kernel)) rfl, gTb_in (List.mem_of_getElem? (i := 33) (by decide +kernel)) rfl, List.mem_of_getElem? (i := 362) (by decide +kernel), ⟨by decide +kernel, by decide +kernel, by decide +kernel⟩, by decide⟩
theorem vf_X6_wet : gVf yX6_wet cX6_wet 4 (some .long) 3 := ⟨gTb_in (List.mem_of_getElem? (i := 546) (by decide +kernel)) rfl, gTb_in (List.mem_of_getElem? (i := 547) (by decide +kernel)) rfl, gTb_in (List.mem_of_getElem? (i := 33) (by decide +kernel)) rfl, List.mem_of_getElem? (i := 548) (by decide +kernel), ⟨by decide +kernel, by decide +kernel, by decide +kernel⟩, by decide⟩
theorem vf_X6_wipe : gVf yX6_wipe cX6_wipe 2 (some .int) 0 := ⟨gTb_in (List.mem_of_getElem? (i := 233) (by decide +kernel)) rfl, gTb_in (List.mem_of_getElem? (i := 234) (by decide +kernel)) rfl, gTb_in (List.mem_of_getElem? (i := 33) (by decide +kernel)) rfl, List.mem_of_getElem? (i := 235) (by decide +kernel), ⟨by decide +kernel, by decide +kernel, by decide +kernel⟩, by decide⟩
theorem vf_X6_wood : gVf yX6_wood cX6_wood 7 (some .int) 4 := ⟨gTb_in (List.mem_of_getElem? (i := 287) (by decide +kernel)) rfl, gTb_in (List.mem_of_getElem? (i := 288) (by decide +kernel)) rfl, gTb_in (List.mem_of_getElem? (i := 33) (by decide +kernel)) rfl, List.mem_of_getElem? (i := 289) (by decide +kernel), ⟨by decide +kernel, by decide +kernel, by decide +kernel⟩, by decide⟩
theorem vf_X6_write : gVf yX6_write cX6_write 5 (some .int) 2 := ⟨gTb_in (List.mem_of_getElem? (i := 225) (by decide +kernel)) rfl, gTb_in (List.mem_of_getElem? (i := 226) (by decide +kernel)) rfl, gTb_in (List.mem_of_getElem? (i := 33) (by decide +kernel)) rfl, List.mem_of_getElem? (i := 227) (by decide +kernel), ⟨by decide +kernel, by decide +kernel, by decide +kernel⟩, by decide⟩
theorem if_X0_init : Cond.instanceMethod yX0_init ∈ gTb ∧ Cond.initialized yX0_init.cls ∈ gTb ∧ Cond.code yX0_init cX0_init 2 none ∈ lw_tbl := ⟨gTb_in (List.mem_of_getElem? (i := 69) (by decide +kernel)) rfl, gTb_in (List.mem_of_getElem? (i := 35) (by decide +kernel)) rfl, List.mem_of_getElem? (i := 70) (by decide +kernel)⟩
theorem vf_X0_allGives : gVf yX0_allGives cX0_allGives 1 (some .long) 0 := ⟨gTb_in (List.mem_of_getElem? (i := 377) (by decide +kernel)) rfl, gTb_in (List.mem_of_getElem? (i := 378) (by decide +kernel)) rfl, gTb_in (List.mem_of_getElem? (i := 35) (by decide +kernel)) rfl, List.mem_of_getElem? (i := 379) (by decide +kernel), ⟨by decide +kernel, by decide +kernel, by decide +kernel⟩, by decide⟩
theorem vf_X0_allKnots : gVf yX0_allKnots cX0_allKnots 6 (some .int) 0 := ⟨gTb_in (List.mem_of_getElem? (i := 625) (by decide +kernel)) rfl, gTb_in (List.mem_of_getElem? (i := 626) (by decide +kernel)) rfl, gTb_in (List.mem_of_getElem? (i := 35) (by decide +kernel)) rfl, List.mem_of_getElem? (i := 627) (by decide +kernel), ⟨by decide +kernel, by decide +kernel, by decide +kernel⟩, by decide⟩
theorem vf_X0_allSeen : gVf yX0_allSeen cX0_allSeen 6 (some .int) 0 := ⟨gTb_in (List.mem_of_getElem? (i := 567) (by decide +kernel)) rfl, gTb_in (List.mem_of_getElem? (i := 568) (by decide +kernel)) rfl, gTb_in (List.mem_of_getElem? (i := 35) (by decide +kernel)) rfl, List.mem_of_getElem? (i := 569) (by decide +kernel), ⟨by decide +kernel, by decide +kernel, by decide +kernel⟩, by decide⟩
theorem vf_X0_allSets : gVf yX0_allSets cX0_allSets 6 (some .int) 0 := ⟨gTb_in (List.mem_of_getElem? (i := 356) (by decide +kernel)) rfl, gTb_in (List.mem_of_getElem? (i := 357) (by decide +kernel)) rfl, gTb_in (List.mem_of_getElem? (i := 35) (by decide +kernel)) rfl, List.mem_of_getElem? (i := 358) (by decide +kernel), ⟨by decide +kernel, by decide +kernel, by decide +kernel⟩, by decide⟩
theorem vf_X0_breakingPlace : gVf yX0_breakingPlace cX0_breakingPlace 14 (some (.object "BowBend$Place")) 2 := ⟨gTb_in (List.mem_of_getElem? (i := 402) (by decide +kernel)) rfl, gTb_in (List.mem_of_getElem? (i := 403) (by decide +kernel)) rfl, gTb_in (List.mem_of_getElem? (i := 35) (by decide +kernel)) rfl, List.mem_of_getElem? (i := 404) (by decide +kernel), ⟨by decide +kernel, by decide +kernel, by decide +kernel⟩, by decide⟩
theorem vf_X0_copyFrom : gVf yX0_copyFrom cX0_copyFrom 3 none 1 := ⟨gTb_in (List.mem_of_getElem? (i := 608) (by decide +kernel)) rfl, gTb_in (List.mem_of_getElem? (i := 609) (by decide +kernel)) rfl, gTb_in (List.mem_of_getElem? (i := 35) (by decide +kernel)) rfl, List.mem_of_getElem? (i := 610) (by decide +kernel), ⟨by decide +kernel, by decide +kernel, by decide +kernel⟩, by decide⟩
theorem vf_X0_eOf : gVf yX0_eOf cX0_eOf 2 (some .long) 1 := ⟨gTb_in (List.mem_of_getElem? (i := 333) (by decide +kernel)) rfl, gTb_in (List.mem_of_getElem? (i := 4) (by decide +kernel)) rfl, gTb_in (List.mem_of_getElem? (i := 35) (by decide +kernel)) rfl, List.mem_of_getElem? (i := 334) (by decide +kernel), ⟨by decide +kernel, by decide +kernel, by decide +kernel⟩, by decide⟩
theorem vf_X0_evenness : gVf yX0_evenness cX0_evenness 15 (some .int) 2 := ⟨gTb_in (List.mem_of_getElem? (i := 456) (by decide +kernel)) rfl, gTb_in (List.mem_of_getElem? (i := 457) (by decide +kernel)) rfl, gTb_in (List.mem_of_getElem? (i := 35) (by decide +kernel)) rfl, List.mem_of_getElem? (i := 458) (by decide +kernel), ⟨by decide +kernel, by decide +kernel, by decide +kernel⟩, by decide⟩
theorem vf_X0_extremePlace : gVf yX0_extremePlace cX0_extremePlace 17 (some .int) 2 := ⟨gTb_in (List.mem_of_getElem? (i := 442) (by decide +kernel)) rfl, gTb_in (List.mem_of_getElem? (i := 443) (by decide +kernel)) rfl, gTb_in (List.mem_of_getElem? (i := 35) (by decide +kernel)) rfl, List.mem_of_getElem? (i := 444) (by decide +kernel), ⟨by decide +kernel, by decide +kernel, by decide +kernel⟩, by decide⟩
theorem vf_X0_followed : gVf yX0_followed cX0_followed 1 (some .int) 0 := ⟨gTb_in (List.mem_of_getElem? (i := 352) (by decide +kernel)) rfl, gTb_in (List.mem_of_getElem? (i := 353) (by decide +kernel)) rfl, gTb_in (List.mem_of_getElem? (i := 35) (by decide +kernel)) rfl, List.mem_of_getElem? (i := 354) (by decide +kernel), ⟨by decide +kernel, by decide +kernel, by decide +kernel⟩, by decide⟩
theorem vf_X0_formDepth : gVf yX0_formDepth cX0_formDepth 7 (some .int) 3 := ⟨gTb_in (List.mem_of_getElem? (i := 520) (by decide +kernel)) rfl, gTb_in (List.mem_of_getElem? (i := 521) (by decide +kernel)) rfl, gTb_in (List.mem_of_getElem? (i := 35) (by decide +kernel)) rfl, List.mem_of_getElem? (i := 522) (by decide +kernel), ⟨by decide +kernel, by decide +kernel, by decide +kernel⟩, by decide⟩
theorem vf_X0_giveAtDepth : gVf yX0_giveAtDepth cX0_giveAtDepth 4 (some .long) 2 := ⟨gTb_in (List.mem_of_getElem? (i := 328) (by decide +kernel)) rfl, gTb_in (List.mem_of_getElem? (i := 3) (by decide +kernel)) rfl, gTb_in (List.mem_of_getElem? (i := 35) (by decide +kernel)) rfl, List.mem_of_getElem? (i := 329) (by decide +kernel), ⟨by decide +kernel, by decide +kernel, by decide +kernel⟩, by decide⟩
theorem vf_X0_giveOf : gVf yX0_giveOf cX0_giveOf 2 (some .long) 1 := ⟨gTb_in (List.mem_of_getElem? (i := 323) (by decide +kernel)) rfl, gTb_in (List.mem_of_getElem? (i := 324) (by decide +kernel)) rfl, gTb_in (List.mem_of_getElem? (i := 35) (by decide +kernel)) rfl, List.mem_of_getElem? (i := 325) (by decide +kernel), ⟨by decide +kernel, by decide +kernel, by decide +kernel⟩, by decide⟩
theorem vf_X0_givesIfLost : gVf yX0_givesIfLost cX0_givesIfLost 10 (some .long) 2 := ⟨gTb_in (List.mem_of_getElem? (i := 555) (by decide +kernel)) rfl, gTb_in (List.mem_of_getElem? (i := 556) (by decide +kernel)) rfl, gTb_in (List.mem_of_getElem? (i := 35) (by decide +kernel)) rfl, List.mem_of_getElem? (i := 557) (by decide +kernel), ⟨by decide +kernel, by decide +kernel, by decide +kernel⟩, by decide⟩
theorem vf_X0_has : gVf yX0_has cX0_has 2 (some .boolean) 1 := ⟨gTb_in (List.mem_of_getElem? (i := 278) (by decide +kernel)) rfl, gTb_in (List.mem_of_getElem? (i := 279) (by decide +kernel)) rfl, gTb_in (List.mem_of_getElem? (i := 35) (by decide +kernel)) rfl, List.mem_of_getElem? (i := 280) (by decide +kernel), ⟨by decide +kernel, by decide +kernel, by decide +kernel⟩, by decide⟩
theorem vf_X0_hasForm : gVf yX0_hasForm cX0_hasForm 7 (some .boolean) 2 := ⟨gTb_in (List.mem_of_getElem? (i := 528) (by decide +kernel)) rfl, gTb_in (List.mem_of_getElem? (i := 529) (by decide +kernel)) rfl, gTb_in (List.mem_of_getElem? (i := 35) (by decide +kernel)) rfl, List.mem_of_getElem? (i := 530) (by decide +kernel), ⟨by decide +kernel, by decide +kernel, by decide +kernel⟩, by decide⟩
theorem vf_X0_leastOffPlace : gVf yX0_leastOffPlace cX0_leastOffPlace 11 (some .int) 0 := ⟨gTb_in (List.mem_of_getElem? (i := 579) (by decide +kernel)) rfl, gTb_in (List.mem_of_getElem? (i := 580) (by decide +kernel)) rfl, gTb_in (List.mem_of_getElem? (i := 35) (by decide +kernel)) rfl, List.mem_of_getElem? (i := 581) (by decide +kernel), ⟨by decide +kernel, by decide +kernel, by decide +kernel⟩, by decide⟩
theorem vf_X0_limbGives : gVf yX0_limbGives cX0_limbGives 8 (some .long) 1 := ⟨gTb_in (List.mem_of_getElem? (i := 343) (by decide +kernel)) rfl, gTb_in (List.mem_of_getElem? (i := 344) (by decide +kernel)) rfl, gTb_in (List.mem_of_getElem? (i := 35) (by decide +kernel)) rfl, List.mem_of_getElem? (i := 345) (by decide +kernel), ⟨by decide +kernel, by decide +kernel, by decide +kernel⟩, by decide⟩
theorem vf_X0_load : gVf yX0_load cX0_load 7 (some .long) 0 := ⟨gTb_in (List.mem_of_getElem? (i := 541) (by decide +kernel)) rfl, gTb_in (List.mem_of_getElem? (i := 542) (by decide +kernel)) rfl, gTb_in (List.mem_of_getElem? (i := 35) (by decide +kernel)) rfl, List.mem_of_getElem? (i := 543) (by decide +kernel), ⟨by decide +kernel, by decide +kernel, by decide +kernel⟩, by decide⟩
theorem vf_X0_makeAnew : gVf yX0_makeAnew cX0_makeAnew 9 none 1 := ⟨gTb_in (List.mem_of_getElem? (i := 273) (by decide +kernel)) rfl, gTb_in (List.mem_of_getElem? (i := 274) (by decide +kernel)) rfl, gTb_in (List.mem_of_getElem? (i := 35) (by decide +kernel)) rfl, List.mem_of_getElem? (i := 275) (by decide +kernel), ⟨by decide +kernel, by decide +kernel, by decide +kernel⟩, by decide⟩
theorem vf_X0_offBy : gVf yX0_offBy cX0_offBy 5 (some .int) 3 := ⟨gTb_in (List.mem_of_getElem? (i := 571) (by decide +kernel)) rfl, gTb_in (List.mem_of_getElem? (i := 572) (by decide +kernel)) rfl, gTb_in (List.mem_of_getElem? (i := 35) (by decide +kernel)) rfl, List.mem_of_getElem? (i := 573) (by decide +kernel), ⟨by decide +kernel, by decide +kernel, by decide +kernel⟩, by decide⟩
theorem vf_X0_placeTold : gVf yX0_placeTold cX0_placeTold 6 (some (.object "BowBend$Place")) 1 := ⟨gTb_in (List.mem_of_getElem? (i := 310) (by decide +kernel)) rfl, gTb_in (List.mem_of_getElem? (i := 311) (by decide +kernel)) rfl, gTb_in (List.mem_of_getElem? (i := 35) (by decide +kernel)) rfl, List.mem_of_getElem? (i := 312) (by decide +kernel), ⟨by decide +kernel, by decide +kernel, by decide +kernel⟩, by decide⟩
theorem vf_X0_pressLineOf : gVf yX0_pressLineOf cX0_pressLineOf 3 (some .long) 1 := ⟨gTb_in (List.mem_of_getElem? (i := 418) (by decide +kernel)) rfl, gTb_in (List.mem_of_getElem? (i := 6) (by decide +kernel)) rfl, gTb_in (List.mem_of_getElem? (i := 35) (by decide +kernel)) rfl, List.mem_of_getElem? (i := 419) (by decide +kernel), ⟨by decide +kernel, by decide +kernel, by decide +kernel⟩, by decide⟩
theorem vf_X0_pullAt : gVf yX0_pullAt cX0_pullAt 2 (some .long) 1 := ⟨gTb_in (List.mem_of_getElem? (i := 368) (by decide +kernel)) rfl, gTb_in (List.mem_of_getElem? (i := 369) (by decide +kernel)) rfl, gTb_in (List.mem_of_getElem? (i := 35) (by decide +kernel)) rfl, List.mem_of_getElem? (i := 370) (by decide +kernel), ⟨by decide +kernel, by decide +kernel, by decide +kernel⟩, by decide⟩
theorem vf_X0_pullLineOf : gVf yX0_pullLineOf cX0_pullLineOf 3 (some .long) 1 := ⟨gTb_in (List.mem_of_getElem? (i := 409) (by decide +kernel)) rfl, gTb_in (List.mem_of_getElem? (i := 5) (by decide +kernel)) rfl, gTb_in (List.mem_of_getElem? (i := 35) (by decide +kernel)) rfl, List.mem_of_getElem? (i := 410) (by decide +kernel), ⟨by decide +kernel, by decide +kernel, by decide +kernel⟩, by decide⟩
theorem vf_X0_strainOf : gVf yX0_strainOf cX0_strainOf 8 (some .long) 3 := ⟨gTb_in (List.mem_of_getElem? (i := 393) (by decide +kernel)) rfl, gTb_in (List.mem_of_getElem? (i := 394) (by decide +kernel)) rfl, gTb_in (List.mem_of_getElem? (i := 35) (by decide +kernel)) rfl, List.mem_of_getElem? (i := 395) (by decide +kernel), ⟨by decide +kernel, by decide +kernel, by decide +kernel⟩, by decide⟩
theorem vf_X0_takeForm : gVf yX0_takeForm cX0_takeForm 9 (some .int) 2 := ⟨gTb_in (List.mem_of_getElem? (i := 533) (by decide +kernel)) rfl, gTb_in (List.mem_of_getElem? (i := 534) (by decide +kernel)) rfl, gTb_in (List.mem_of_getElem? (i := 35) (by decide +kernel)) rfl, List.mem_of_getElem? (i := 535) (by decide +kernel), ⟨by decide +kernel, by decide +kernel, by decide +kernel⟩, by decide⟩
theorem vf_X0_takeSets : gVf yX0_takeSets cX0_takeSets 12 (some .int) 2 := ⟨gTb_in (List.mem_of_getElem? (i := 413) (by decide +kernel)) rfl, gTb_in (List.mem_of_getElem? (i := 414) (by decide +kernel)) rfl, gTb_in (List.mem_of_getElem? (i := 35) (by decide +kernel)) rfl, List.mem_of_getElem? (i := 415) (by decide +kernel), ⟨by decide +kernel, by decide +kernel, by decide +kernel⟩, by decide⟩
theorem vf_X0_weighs : gVf yX0_weighs cX0_weighs 6 (some .boolean) 3 := ⟨gTb_in (List.mem_of_getElem? (i := 476) (by decide +kernel)) rfl, gTb_in (List.mem_of_getElem? (i := 477) (by decide +kernel)) rfl, gTb_in (List.mem_of_getElem? (i := 35) (by decide +kernel)) rfl, List.mem_of_getElem? (i := 478) (by decide +kernel), ⟨by decide +kernel, by decide +kernel, by decide +kernel⟩, by decide⟩
theorem vf_X0_woodNumbered : gVf yX0_woodNumbered cX0_woodNumbered 2 (some (.object "BowBend$Wood")) 1 := ⟨gTb_in (List.mem_of_getElem? (i := 291) (by decide +kernel)) rfl, gTb_in (List.mem_of_getElem? (i := 292) (by decide +kernel)) rfl, gTb_in (List.mem_of_getElem? (i := 35) (by decide +kernel)) rfl, List.mem_of_getElem? (i := 293) (by decide +kernel), ⟨by decide +kernel, by decide +kernel, by decide +kernel⟩, by decide⟩
theorem if_X1_init : Cond.instanceMethod yX1_init ∈ gTb ∧ Cond.initialized yX1_init.cls ∈ gTb ∧ Cond.code yX1_init cX1_init 3 none ∈ lw_tbl := ⟨gTb_in (List.mem_of_getElem? (i := 99) (by decide +kernel)) rfl, gTb_in (List.mem_of_getElem? (i := 37) (by decide +kernel)) rfl, List.mem_of_getElem? (i := 100) (by decide +kernel)⟩
theorem vf_X1_copyFrom : gVf yX1_copyFrom cX1_copyFrom 2 none 1 := ⟨gTb_in (List.mem_of_getElem? (i := 613) (by decide +kernel)) rfl, gTb_in (List.mem_of_getElem? (i := 614) (by decide +kernel)) rfl, gTb_in (List.mem_of_getElem? (i := 37) (by decide +kernel)) rfl, List.mem_of_getElem? (i := 615) (by decide +kernel), ⟨by decide +kernel, by decide +kernel, by decide +kernel⟩, by decide⟩
theorem vf_X1_makeAnew : gVf yX1_makeAnew cX1_makeAnew 4 none 3 := ⟨gTb_in (List.mem_of_getElem? (i := 283) (by decide +kernel)) rfl, gTb_in (List.mem_of_getElem? (i := 284) (by decide +kernel)) rfl, gTb_in (List.mem_of_getElem? (i := 37) (by decide +kernel)) rfl, List.mem_of_getElem? (i := 285) (by decide +kernel), ⟨by decide +kernel, by decide +kernel, by decide +kernel⟩, by decide⟩
theorem if_X2_init : Cond.instanceMethod yX2_init ∈ gTb ∧ Cond.initialized yX2_init.cls ∈ gTb ∧ Cond.code yX2_init cX2_init 1 none ∈ lw_tbl := ⟨gTb_in (List.mem_of_getElem? (i := 167) (by decide +kernel)) rfl, gTb_in (List.mem_of_getElem? (i := 38) (by decide +kernel)) rfl, List.mem_of_getElem? (i := 168) (by decide +kernel)⟩
theorem vf_X2_foundPlace : gVf yX2_foundPlace cX2_foundPlace 2 (some .int) 1 := ⟨gTb_in (List.mem_of_getElem? (i := 509) (by decide +kernel)) rfl, gTb_in (List.mem_of_getElem? (i := 510) (by decide +kernel)) rfl, gTb_in (List.mem_of_getElem? (i := 38) (by decide +kernel)) rfl, List.mem_of_getElem? (i := 511) (by decide +kernel), ⟨by decide +kernel, by decide +kernel, by decide +kernel⟩, by decide⟩
theorem vf_X2_judge : gVf yX2_judge cX2_judge 6 none 3 := ⟨gTb_in (List.mem_of_getElem? (i := 495) (by decide +kernel)) rfl, gTb_in (List.mem_of_getElem? (i := 7) (by decide +kernel)) rfl, gTb_in (List.mem_of_getElem? (i := 38) (by decide +kernel)) rfl, List.mem_of_getElem? (i := 496) (by decide +kernel), ⟨by decide +kernel, by decide +kernel, by decide +kernel⟩, by decide⟩
theorem vf_X2_nextPlace : gVf yX2_nextPlace cX2_nextPlace 15 (some .int) 3 := ⟨gTb_in (List.mem_of_getElem? (i := 468) (by decide +kernel)) rfl, gTb_in (List.mem_of_getElem? (i := 469) (by decide +kernel)) rfl, gTb_in (List.mem_of_getElem? (i := 38) (by decide +kernel)) rfl, List.mem_of_getElem? (i := 470) (by decide +kernel), ⟨by decide +kernel, by decide +kernel, by decide +kernel⟩, by decide⟩
theorem vf_X2_seek : gVf yX2_seek cX2_seek 5 none 4 := ⟨gTb_in (List.mem_of_getElem? (i := 487) (by decide +kernel)) rfl, gTb_in (List.mem_of_getElem? (i := 488) (by decide +kernel)) rfl, gTb_in (List.mem_of_getElem? (i := 38) (by decide +kernel)) rfl, List.mem_of_getElem? (i := 489) (by decide +kernel), ⟨by decide +kernel, by decide +kernel, by decide +kernel⟩, by decide⟩
theorem sf_X2_tryWays : gSf yX2_tryWays cX2_tryWays 12 none 5 := ⟨gTb_in (List.mem_of_getElem? (i := 491) (by decide +kernel)) rfl, gTb_in (List.mem_of_getElem? (i := 38) (by decide +kernel)) rfl, List.mem_of_getElem? (i := 492) (by decide +kernel), ⟨by decide +kernel, by decide +kernel, by decide +kernel⟩, by decide⟩
theorem if_X3_init : Cond.instanceMethod yX3_init ∈ gTb ∧ Cond.initialized yX3_init.cls ∈ gTb ∧ Cond.code yX3_init cX3_init 1 none ∈ lw_tbl := ⟨gTb_in (List.mem_of_getElem? (i := 197) (by decide +kernel)) rfl, gTb_in (List.mem_of_getElem? (i := 39) (by decide +kernel)) rfl, List.mem_of_getElem? (i := 198) (by decide +kernel)⟩
theorem if_X4_init : Cond.instanceMethod yX4_init ∈ gTb ∧ Cond.initialized yX4_init.cls ∈ gTb ∧ Cond.code yX4_init cX4_init 1 none ∈ lw_tbl := ⟨gTb_in (List.mem_of_getElem? (i := 54) (by decide +kernel)) rfl, gTb_in (List.mem_of_getElem? (i := 34) (by decide +kernel)) rfl, List.mem_of_getElem? (i := 55) (by decide +kernel)⟩
theorem vf_X4_append : gVf yX4_append cX4_append 2 none 1 := ⟨gTb_in (List.mem_of_getElem? (i := 229) (by decide +kernel)) rfl, gTb_in (List.mem_of_getElem? (i := 230) (by decide +kernel)) rfl, gTb_in (List.mem_of_getElem? (i := 34) (by decide +kernel)) rfl, List.mem_of_getElem? (i := 231) (by decide +kernel), ⟨by decide +kernel, by decide +kernel, by decide +kernel⟩, by decide⟩
theorem vf_X4_depthFits : gVf yX4_depthFits cX4_depthFits 2 (some .boolean) 1 := ⟨gTb_in (List.mem_of_getElem? (i := 266) (by decide +kernel)) rfl, gTb_in (List.mem_of_getElem? (i := 2) (by decide +kernel)) rfl, gTb_in (List.mem_of_getElem? (i := 34) (by decide +kernel)) rfl, List.mem_of_getElem? (i := 267) (by decide +kernel), ⟨by decide +kernel, by decide +kernel, by decide +kernel⟩, by decide⟩
theorem vf_X4_figureAt : gVf yX4_figureAt cX4_figureAt 2 (some .int) 1 := ⟨gTb_in (List.mem_of_getElem? (i := 261) (by decide +kernel)) rfl, gTb_in (List.mem_of_getElem? (i := 262) (by decide +kernel)) rfl, gTb_in (List.mem_of_getElem? (i := 34) (by decide +kernel)) rfl, List.mem_of_getElem? (i := 263) (by decide +kernel), ⟨by decide +kernel, by decide +kernel, by decide +kernel⟩, by decide⟩
theorem vf_X4_figureFits : gVf yX4_figureFits cX4_figureFits 4 (some .boolean) 2 := ⟨gTb_in (List.mem_of_getElem? (i := 258) (by decide +kernel)) rfl, gTb_in (List.mem_of_getElem? (i := 1) (by decide +kernel)) rfl, gTb_in (List.mem_of_getElem? (i := 34) (by decide +kernel)) rfl, List.mem_of_getElem? (i := 259) (by decide +kernel), ⟨by decide +kernel, by decide +kernel, by decide +kernel⟩, by decide⟩
theorem vf_X4_firstFault : gVf yX4_firstFault cX4_firstFault 3 (some .int) 0 := ⟨gTb_in (List.mem_of_getElem? (i := 241) (by decide +kernel)) rfl, gTb_in (List.mem_of_getElem? (i := 242) (by decide +kernel)) rfl, gTb_in (List.mem_of_getElem? (i := 34) (by decide +kernel)) rfl, List.mem_of_getElem? (i := 243) (by decide +kernel), ⟨by decide +kernel, by decide +kernel, by decide +kernel⟩, by decide⟩
theorem vf_X4_fits : gVf yX4_fits cX4_fits 3 (some .boolean) 2 := ⟨gTb_in (List.mem_of_getElem? (i := 254) (by decide +kernel)) rfl, gTb_in (List.mem_of_getElem? (i := 0) (by decide +kernel)) rfl, gTb_in (List.mem_of_getElem? (i := 34) (by decide +kernel)) rfl, List.mem_of_getElem? (i := 255) (by decide +kernel), ⟨by decide +kernel, by decide +kernel, by decide +kernel⟩, by decide⟩
theorem vf_X4_signAt : gVf yX4_signAt cX4_signAt 2 (some .int) 1 := ⟨gTb_in (List.mem_of_getElem? (i := 249) (by decide +kernel)) rfl, gTb_in (List.mem_of_getElem? (i := 250) (by decide +kernel)) rfl, gTb_in (List.mem_of_getElem? (i := 34) (by decide +kernel)) rfl, List.mem_of_getElem? (i := 251) (by decide +kernel), ⟨by decide +kernel, by decide +kernel, by decide +kernel⟩, by decide⟩
theorem vf_X4_slashAt : gVf yX4_slashAt cX4_slashAt 2 (some .int) 0 := ⟨gTb_in (List.mem_of_getElem? (i := 245) (by decide +kernel)) rfl, gTb_in (List.mem_of_getElem? (i := 246) (by decide +kernel)) rfl, gTb_in (List.mem_of_getElem? (i := 34) (by decide +kernel)) rfl, List.mem_of_getElem? (i := 247) (by decide +kernel), ⟨by decide +kernel, by decide +kernel, by decide +kernel⟩, by decide⟩
theorem if_X5_init : Cond.instanceMethod yX5_init ∈ gTb ∧ Cond.initialized yX5_init.cls ∈ gTb ∧ Cond.code yX5_init cX5_init 4 none ∈ lw_tbl := ⟨gTb_in (List.mem_of_getElem? (i := 76) (by decide +kernel)) rfl, gTb_in (List.mem_of_getElem? (i := 36) (by decide +kernel)) rfl, List.mem_of_getElem? (i := 77) (by decide +kernel)⟩
theorem vf_X5_become : gVf yX5_become cX5_become 4 none 3 := ⟨gTb_in (List.mem_of_getElem? (i := 298) (by decide +kernel)) rfl, gTb_in (List.mem_of_getElem? (i := 299) (by decide +kernel)) rfl, gTb_in (List.mem_of_getElem? (i := 36) (by decide +kernel)) rfl, List.mem_of_getElem? (i := 300) (by decide +kernel), ⟨by decide +kernel, by decide +kernel, by decide +kernel⟩, by decide⟩
theorem if_X7_init : Cond.instanceMethod yX7_init ∈ gTb ∧ Cond.initialized yX7_init.cls ∈ gTb ∧ Cond.code yX7_init cX7_init 2 none ∈ lw_tbl := ⟨gTb_in (List.mem_of_getElem? (i := 632) (by decide +kernel)) rfl, gTb_in (List.mem_of_getElem? (i := 40) (by decide +kernel)) rfl, List.mem_of_getElem? (i := 633) (by decide +kernel)⟩
theorem vf_X7_about : gVf yX7_about cX7_about 4 (some .int) 2 := ⟨gTb_in (List.mem_of_getElem? (i := 768) (by decide +kernel)) rfl, gTb_in (List.mem_of_getElem? (i := 769) (by decide +kernel)) rfl, gTb_in (List.mem_of_getElem? (i := 40) (by decide +kernel)) rfl, List.mem_of_getElem? (i := 770) (by decide +kernel), ⟨by decide +kernel, by decide +kernel, by decide +kernel⟩, by decide⟩
theorem vf_X7_again : gVf yX7_again cX7_again 3 (some .int) 1 := ⟨gTb_in (List.mem_of_getElem? (i := 987) (by decide +kernel)) rfl, gTb_in (List.mem_of_getElem? (i := 988) (by decide +kernel)) rfl, gTb_in (List.mem_of_getElem? (i := 40) (by decide +kernel)) rfl, List.mem_of_getElem? (i := 989) (by decide +kernel), ⟨by decide +kernel, by decide +kernel, by decide +kernel⟩, by decide⟩
theorem vf_X7_allGive : gVf yX7_allGive cX7_allGive 1 (some .long) 0 := ⟨gTb_in (List.mem_of_getElem? (i := 821) (by decide +kernel)) rfl, gTb_in (List.mem_of_getElem? (i := 19) (by decide +kernel)) rfl, gTb_in (List.mem_of_getElem? (i := 40) (by decide +kernel)) rfl, List.mem_of_getElem? (i := 822) (by decide +kernel), ⟨by decide +kernel, by decide +kernel, by decide +kernel⟩, by decide⟩
theorem vf_X7_allSeen : gVf yX7_allSeen cX7_allSeen 3 (some .int) 0 := ⟨gTb_in (List.mem_of_getElem? (i := 956) (by decide +kernel)) rfl, gTb_in (List.mem_of_getElem? (i := 30) (by decide +kernel)) rfl, gTb_in (List.mem_of_getElem? (i := 40) (by decide +kernel)) rfl, List.mem_of_getElem? (i := 957) (by decide +kernel), ⟨by decide +kernel, by decide +kernel, by decide +kernel⟩, by decide⟩
theorem vf_X7_allSets : gVf yX7_allSets cX7_allSets 3 (some .int) 0 := ⟨gTb_in (List.mem_of_getElem? (i := 799) (by decide +kernel)) rfl, gTb_in (List.mem_of_getElem? (i := 16) (by decide +kernel)) rfl, gTb_in (List.mem_of_getElem? (i := 40) (by decide +kernel)) rfl, List.mem_of_getElem? (i := 800) (by decide +kernel), ⟨by decide +kernel, by decide +kernel, by decide +kernel⟩, by decide⟩
theorem vf_X7_best : gVf yX7_best cX7_best 4 (some .int) 3 := ⟨gTb_in (List.mem_of_getElem? (i := 889) (by decide +kernel)) rfl, gTb_in (List.mem_of_getElem? (i := 890) (by decide +kernel)) rfl, gTb_in (List.mem_of_getElem? (i := 40) (by decide +kernel)) rfl, List.mem_of_getElem? (i := 891) (by decide +kernel), ⟨by decide +kernel, by decide +kernel, by decide +kernel⟩, by decide⟩
theorem vf_X7_bestAt : gVf yX7_bestAt cX7_bestAt 5 (some .int) 4 := ⟨gTb_in (List.mem_of_getElem? (i := 913) (by decide +kernel)) rfl, gTb_in (List.mem_of_getElem? (i := 914) (by decide +kernel)) rfl, gTb_in (List.mem_of_getElem? (i := 40) (by decide +kernel)) rfl, List.mem_of_getElem? (i := 915) (by decide +kernel), ⟨by decide +kernel, by decide +kernel, by decide +kernel⟩, by decide⟩
theorem vf_X7_broken : gVf yX7_broken cX7_broken 1 (some .int) 0 := ⟨gTb_in (List.mem_of_getElem? (i := 849) (by decide +kernel)) rfl, gTb_in (List.mem_of_getElem? (i := 850) (by decide +kernel)) rfl, gTb_in (List.mem_of_getElem? (i := 40) (by decide +kernel)) rfl, List.mem_of_getElem? (i := 851) (by decide +kernel), ⟨by decide +kernel, by decide +kernel, by decide +kernel⟩, by decide⟩
theorem sf_X7_code : gSf yX7_code cX7_code 1 (some .int) 1 := ⟨gTb_in (List.mem_of_getElem? (i := 845) (by decide +kernel)) rfl, gTb_in (List.mem_of_getElem? (i := 40) (by decide +kernel)) rfl, List.mem_of_getElem? (i := 846) (by decide +kernel), ⟨by decide +kernel, by decide +kernel, by decide +kernel⟩, by decide⟩
theorem vf_X7_count : gVf yX7_count cX7_count 4 (some .int) 1 := ⟨gTb_in (List.mem_of_getElem? (i := 991) (by decide +kernel)) rfl, gTb_in (List.mem_of_getElem? (i := 992) (by decide +kernel)) rfl, gTb_in (List.mem_of_getElem? (i := 40) (by decide +kernel)) rfl, List.mem_of_getElem? (i := 993) (by decide +kernel), ⟨by decide +kernel, by decide +kernel, by decide +kernel⟩, by decide⟩
theorem vf_X7_draw : gVf yX7_draw cX7_draw 8 (some .int) 1 := ⟨gTb_in (List.mem_of_getElem? (i := 836) (by decide +kernel)) rfl, gTb_in (List.mem_of_getElem? (i := 837) (by decide +kernel)) rfl, gTb_in (List.mem_of_getElem? (i := 40) (by decide +kernel)) rfl, List.mem_of_getElem? (i := 838) (by decide +kernel), ⟨by decide +kernel, by decide +kernel, by decide +kernel⟩, by decide⟩
theorem vf_X7_even : gVf yX7_even cX7_even 2 (some .int) 1 := ⟨gTb_in (List.mem_of_getElem? (i := 873) (by decide +kernel)) rfl, gTb_in (List.mem_of_getElem? (i := 874) (by decide +kernel)) rfl, gTb_in (List.mem_of_getElem? (i := 40) (by decide +kernel)) rfl, List.mem_of_getElem? (i := 875) (by decide +kernel), ⟨by decide +kernel, by decide +kernel, by decide +kernel⟩, by decide⟩
theorem vf_X7_evenOf : gVf yX7_evenOf cX7_evenOf 4 (some .int) 1 := ⟨gTb_in (List.mem_of_getElem? (i := 878) (by decide +kernel)) rfl, gTb_in (List.mem_of_getElem? (i := 23) (by decide +kernel)) rfl, gTb_in (List.mem_of_getElem? (i := 40) (by decide +kernel)) rfl, List.mem_of_getElem? (i := 879) (by decide +kernel), ⟨by decide +kernel, by decide +kernel, by decide +kernel⟩, by decide⟩
theorem vf_X7_extreme : gVf yX7_extreme cX7_extreme 7 (some .int) 2 := ⟨gTb_in (List.mem_of_getElem? (i := 866) (by decide +kernel)) rfl, gTb_in (List.mem_of_getElem? (i := 22) (by decide +kernel)) rfl, gTb_in (List.mem_of_getElem? (i := 40) (by decide +kernel)) rfl, List.mem_of_getElem? (i := 867) (by decide +kernel), ⟨by decide +kernel, by decide +kernel, by decide +kernel⟩, by decide⟩
theorem vf_X7_fault : gVf yX7_fault cX7_fault 1 (some .int) 0 := ⟨gTb_in (List.mem_of_getElem? (i := 723) (by decide +kernel)) rfl, gTb_in (List.mem_of_getElem? (i := 724) (by decide +kernel)) rfl, gTb_in (List.mem_of_getElem? (i := 40) (by decide +kernel)) rfl, List.mem_of_getElem? (i := 725) (by decide +kernel), ⟨by decide +kernel, by decide +kernel, by decide +kernel⟩, by decide⟩
theorem vf_X7_figure : gVf yX7_figure cX7_figure 3 (some .int) 2 := ⟨gTb_in (List.mem_of_getElem? (i := 736) (by decide +kernel)) rfl, gTb_in (List.mem_of_getElem? (i := 11) (by decide +kernel)) rfl, gTb_in (List.mem_of_getElem? (i := 40) (by decide +kernel)) rfl, List.mem_of_getElem? (i := 737) (by decide +kernel), ⟨by decide +kernel, by decide +kernel, by decide +kernel⟩, by decide⟩
theorem vf_X7_findBest : gVf yX7_findBest cX7_findBest 6 none 3 := ⟨gTb_in (List.mem_of_getElem? (i := 898) (by decide +kernel)) rfl, gTb_in (List.mem_of_getElem? (i := 25) (by decide +kernel)) rfl, gTb_in (List.mem_of_getElem? (i := 40) (by decide +kernel)) rfl, List.mem_of_getElem? (i := 899) (by decide +kernel), ⟨by decide +kernel, by decide +kernel, by decide +kernel⟩, by decide⟩
theorem vf_X7_findThird : gVf yX7_findThird cX7_findThird 6 none 3 := ⟨gTb_in (List.mem_of_getElem? (i := 910) (by decide +kernel)) rfl, gTb_in (List.mem_of_getElem? (i := 28) (by decide +kernel)) rfl, gTb_in (List.mem_of_getElem? (i := 40) (by decide +kernel)) rfl, List.mem_of_getElem? (i := 911) (by decide +kernel), ⟨by decide +kernel, by decide +kernel, by decide +kernel⟩, by decide⟩
theorem vf_X7_follow : gVf yX7_follow cX7_follow 1 (some .int) 0 := ⟨gTb_in (List.mem_of_getElem? (i := 794) (by decide +kernel)) rfl, gTb_in (List.mem_of_getElem? (i := 795) (by decide +kernel)) rfl, gTb_in (List.mem_of_getElem? (i := 40) (by decide +kernel)) rfl, List.mem_of_getElem? (i := 796) (by decide +kernel), ⟨by decide +kernel, by decide +kernel, by decide +kernel⟩, by decide⟩
theorem vf_X7_form : gVf yX7_form cX7_form 4 (some .int) 3 := ⟨gTb_in (List.mem_of_getElem? (i := 917) (by decide +kernel)) rfl, gTb_in (List.mem_of_getElem? (i := 918) (by decide +kernel)) rfl, gTb_in (List.mem_of_getElem? (i := 40) (by decide +kernel)) rfl, List.mem_of_getElem? (i := 919) (by decide +kernel), ⟨by decide +kernel, by decide +kernel, by decide +kernel⟩, by decide⟩
theorem vf_X7_formOf : gVf yX7_formOf cX7_formOf 5 (some .int) 3 := ⟨gTb_in (List.mem_of_getElem? (i := 925) (by decide +kernel)) rfl, gTb_in (List.mem_of_getElem? (i := 29) (by decide +kernel)) rfl, gTb_in (List.mem_of_getElem? (i := 40) (by decide +kernel)) rfl, List.mem_of_getElem? (i := 926) (by decide +kernel), ⟨by decide +kernel, by decide +kernel, by decide +kernel⟩, by decide⟩
theorem vf_X7_give : gVf yX7_give cX7_give 2 (some .long) 1 := ⟨gTb_in (List.mem_of_getElem? (i := 772) (by decide +kernel)) rfl, gTb_in (List.mem_of_getElem? (i := 773) (by decide +kernel)) rfl, gTb_in (List.mem_of_getElem? (i := 40) (by decide +kernel)) rfl, List.mem_of_getElem? (i := 774) (by decide +kernel), ⟨by decide +kernel, by decide +kernel, by decide +kernel⟩, by decide⟩
theorem vf_X7_giveBy : gVf yX7_giveBy cX7_giveBy 6 (some .long) 2 := ⟨gTb_in (List.mem_of_getElem? (i := 782) (by decide +kernel)) rfl, gTb_in (List.mem_of_getElem? (i := 14) (by decide +kernel)) rfl, gTb_in (List.mem_of_getElem? (i := 40) (by decide +kernel)) rfl, List.mem_of_getElem? (i := 783) (by decide +kernel), ⟨by decide +kernel, by decide +kernel, by decide +kernel⟩, by decide⟩
theorem vf_X7_giveOf : gVf yX7_giveOf cX7_giveOf 2 (some .long) 1 := ⟨gTb_in (List.mem_of_getElem? (i := 778) (by decide +kernel)) rfl, gTb_in (List.mem_of_getElem? (i := 13) (by decide +kernel)) rfl, gTb_in (List.mem_of_getElem? (i := 40) (by decide +kernel)) rfl, List.mem_of_getElem? (i := 779) (by decide +kernel), ⟨by decide +kernel, by decide +kernel, by decide +kernel⟩, by decide⟩
theorem vf_X7_good : gVf yX7_good cX7_good 8 (some .long) 4 := ⟨gTb_in (List.mem_of_getElem? (i := 979) (by decide +kernel)) rfl, gTb_in (List.mem_of_getElem? (i := 980) (by decide +kernel)) rfl, gTb_in (List.mem_of_getElem? (i := 40) (by decide +kernel)) rfl, List.mem_of_getElem? (i := 981) (by decide +kernel), ⟨by decide +kernel, by decide +kernel, by decide +kernel⟩, by decide⟩
theorem vf_X7_grown : gVf yX7_grown cX7_grown 3 (some .int) 2 := ⟨gTb_in (List.mem_of_getElem? (i := 753) (by decide +kernel)) rfl, gTb_in (List.mem_of_getElem? (i := 754) (by decide +kernel)) rfl, gTb_in (List.mem_of_getElem? (i := 40) (by decide +kernel)) rfl, List.mem_of_getElem? (i := 755) (by decide +kernel), ⟨by decide +kernel, by decide +kernel, by decide +kernel⟩, by decide⟩
theorem vf_X7_hinge : gVf yX7_hinge cX7_hinge 2 (some .int) 1 := ⟨gTb_in (List.mem_of_getElem? (i := 861) (by decide +kernel)) rfl, gTb_in (List.mem_of_getElem? (i := 862) (by decide +kernel)) rfl, gTb_in (List.mem_of_getElem? (i := 40) (by decide +kernel)) rfl, List.mem_of_getElem? (i := 863) (by decide +kernel), ⟨by decide +kernel, by decide +kernel, by decide +kernel⟩, by decide⟩
theorem sf_X7_in : gSf yX7_in cX7_in 6 (some .boolean) 3 := ⟨gTb_in (List.mem_of_getElem? (i := 716) (by decide +kernel)) rfl, gTb_in (List.mem_of_getElem? (i := 40) (by decide +kernel)) rfl, List.mem_of_getElem? (i := 717) (by decide +kernel), ⟨by decide +kernel, by decide +kernel, by decide +kernel⟩, by decide⟩
theorem sf_X7_index : gSf yX7_index cX7_index 1 (some .int) 1 := ⟨gTb_in (List.mem_of_getElem? (i := 765) (by decide +kernel)) rfl, gTb_in (List.mem_of_getElem? (i := 40) (by decide +kernel)) rfl, List.mem_of_getElem? (i := 766) (by decide +kernel), ⟨by decide +kernel, by decide +kernel, by decide +kernel⟩, by decide⟩
theorem vf_X7_isHeavy : gVf yX7_isHeavy cX7_isHeavy 3 (some .boolean) 2 := ⟨gTb_in (List.mem_of_getElem? (i := 886) (by decide +kernel)) rfl, gTb_in (List.mem_of_getElem? (i := 24) (by decide +kernel)) rfl, gTb_in (List.mem_of_getElem? (i := 40) (by decide +kernel)) rfl, List.mem_of_getElem? (i := 887) (by decide +kernel), ⟨by decide +kernel, by decide +kernel, by decide +kernel⟩, by decide⟩
theorem vf_X7_isThere : gVf yX7_isThere cX7_isThere 2 (some .boolean) 1 := ⟨gTb_in (List.mem_of_getElem? (i := 803) (by decide +kernel)) rfl, gTb_in (List.mem_of_getElem? (i := 17) (by decide +kernel)) rfl, gTb_in (List.mem_of_getElem? (i := 40) (by decide +kernel)) rfl, List.mem_of_getElem? (i := 804) (by decide +kernel), ⟨by decide +kernel, by decide +kernel, by decide +kernel⟩, by decide⟩
theorem sf_X7_just : gSf yX7_just cX7_just 6 (some .long) 3 := ⟨gTb_in (List.mem_of_getElem? (i := 973) (by decide +kernel)) rfl, gTb_in (List.mem_of_getElem? (i := 40) (by decide +kernel)) rfl, List.mem_of_getElem? (i := 974) (by decide +kernel), ⟨by decide +kernel, by decide +kernel, by decide +kernel⟩, by decide⟩
theorem vf_X7_keep : gVf yX7_keep cX7_keep 3 (some .int) 1 := ⟨gTb_in (List.mem_of_getElem? (i := 983) (by decide +kernel)) rfl, gTb_in (List.mem_of_getElem? (i := 984) (by decide +kernel)) rfl, gTb_in (List.mem_of_getElem? (i := 40) (by decide +kernel)) rfl, List.mem_of_getElem? (i := 985) (by decide +kernel), ⟨by decide +kernel, by decide +kernel, by decide +kernel⟩, by decide⟩
theorem vf_X7_knot : gVf yX7_knot cX7_knot 4 (some .int) 2 := ⟨gTb_in (List.mem_of_getElem? (i := 757) (by decide +kernel)) rfl, gTb_in (List.mem_of_getElem? (i := 758) (by decide +kernel)) rfl, gTb_in (List.mem_of_getElem? (i := 40) (by decide +kernel)) rfl, List.mem_of_getElem? (i := 759) (by decide +kernel), ⟨by decide +kernel, by decide +kernel, by decide +kernel⟩, by decide⟩
theorem vf_X7_lay : gVf yX7_lay cX7_lay 3 (some .boolean) 2 := ⟨gTb_in (List.mem_of_getElem? (i := 906) (by decide +kernel)) rfl, gTb_in (List.mem_of_getElem? (i := 27) (by decide +kernel)) rfl, gTb_in (List.mem_of_getElem? (i := 40) (by decide +kernel)) rfl, List.mem_of_getElem? (i := 907) (by decide +kernel), ⟨by decide +kernel, by decide +kernel, by decide +kernel⟩, by decide⟩
theorem vf_X7_limb : gVf yX7_limb cX7_limb 2 (some .long) 1 := ⟨gTb_in (List.mem_of_getElem? (i := 786) (by decide +kernel)) rfl, gTb_in (List.mem_of_getElem? (i := 787) (by decide +kernel)) rfl, gTb_in (List.mem_of_getElem? (i := 40) (by decide +kernel)) rfl, List.mem_of_getElem? (i := 788) (by decide +kernel), ⟨by decide +kernel, by decide +kernel, by decide +kernel⟩, by decide⟩
theorem vf_X7_limbOf : gVf yX7_limbOf cX7_limbOf 5 (some .long) 1 := ⟨gTb_in (List.mem_of_getElem? (i := 791) (by decide +kernel)) rfl, gTb_in (List.mem_of_getElem? (i := 15) (by decide +kernel)) rfl, gTb_in (List.mem_of_getElem? (i := 40) (by decide +kernel)) rfl, List.mem_of_getElem? (i := 792) (by decide +kernel), ⟨by decide +kernel, by decide +kernel, by decide +kernel⟩, by decide⟩
theorem vf_X7_lost : gVf yX7_lost cX7_lost 11 (some .long) 6 := ⟨gTb_in (List.mem_of_getElem? (i := 942) (by decide +kernel)) rfl, gTb_in (List.mem_of_getElem? (i := 943) (by decide +kernel)) rfl, gTb_in (List.mem_of_getElem? (i := 40) (by decide +kernel)) rfl, List.mem_of_getElem? (i := 944) (by decide +kernel), ⟨by decide +kernel, by decide +kernel, by decide +kernel⟩, by decide⟩
theorem vf_X7_next : gVf yX7_next cX7_next 7 (some .int) 2 := ⟨gTb_in (List.mem_of_getElem? (i := 881) (by decide +kernel)) rfl, gTb_in (List.mem_of_getElem? (i := 882) (by decide +kernel)) rfl, gTb_in (List.mem_of_getElem? (i := 40) (by decide +kernel)) rfl, List.mem_of_getElem? (i := 883) (by decide +kernel), ⟨by decide +kernel, by decide +kernel, by decide +kernel⟩, by decide⟩
theorem sf_X7_noForm : gSf yX7_noForm cX7_noForm 2 (some .boolean) 2 := ⟨gTb_in (List.mem_of_getElem? (i := 921) (by decide +kernel)) rfl, gTb_in (List.mem_of_getElem? (i := 40) (by decide +kernel)) rfl, List.mem_of_getElem? (i := 922) (by decide +kernel), ⟨by decide +kernel, by decide +kernel, by decide +kernel⟩, by decide⟩
theorem sf_X7_noInches : gSf yX7_noInches cX7_noInches 1 (some .boolean) 1 := ⟨gTb_in (List.mem_of_getElem? (i := 810) (by decide +kernel)) rfl, gTb_in (List.mem_of_getElem? (i := 40) (by decide +kernel)) rfl, List.mem_of_getElem? (i := 811) (by decide +kernel), ⟨by decide +kernel, by decide +kernel, by decide +kernel⟩, by decide⟩
theorem vf_X7_noPlace : gVf yX7_noPlace cX7_noPlace 2 (some .boolean) 1 := ⟨gTb_in (List.mem_of_getElem? (i := 762) (by decide +kernel)) rfl, gTb_in (List.mem_of_getElem? (i := 12) (by decide +kernel)) rfl, gTb_in (List.mem_of_getElem? (i := 40) (by decide +kernel)) rfl, List.mem_of_getElem? (i := 763) (by decide +kernel), ⟨by decide +kernel, by decide +kernel, by decide +kernel⟩, by decide⟩
theorem sf_X7_noSearch : gSf yX7_noSearch cX7_noSearch 3 (some .boolean) 3 := ⟨gTb_in (List.mem_of_getElem? (i := 893) (by decide +kernel)) rfl, gTb_in (List.mem_of_getElem? (i := 40) (by decide +kernel)) rfl, List.mem_of_getElem? (i := 894) (by decide +kernel), ⟨by decide +kernel, by decide +kernel, by decide +kernel⟩, by decide⟩
theorem sf_X7_noWood : gSf yX7_noWood cX7_noWood 1 (some .boolean) 1 := ⟨gTb_in (List.mem_of_getElem? (i := 747) (by decide +kernel)) rfl, gTb_in (List.mem_of_getElem? (i := 40) (by decide +kernel)) rfl, List.mem_of_getElem? (i := 748) (by decide +kernel), ⟨by decide +kernel, by decide +kernel, by decide +kernel⟩, by decide⟩
theorem vf_X7_off : gVf yX7_off cX7_off 2 (some .int) 1 := ⟨gTb_in (List.mem_of_getElem? (i := 951) (by decide +kernel)) rfl, gTb_in (List.mem_of_getElem? (i := 952) (by decide +kernel)) rfl, gTb_in (List.mem_of_getElem? (i := 40) (by decide +kernel)) rfl, List.mem_of_getElem? (i := 953) (by decide +kernel), ⟨by decide +kernel, by decide +kernel, by decide +kernel⟩, by decide⟩
theorem vf_X7_offOf : gVf yX7_offOf cX7_offOf 2 (some .int) 1 := ⟨gTb_in (List.mem_of_getElem? (i := 960) (by decide +kernel)) rfl, gTb_in (List.mem_of_getElem? (i := 31) (by decide +kernel)) rfl, gTb_in (List.mem_of_getElem? (i := 40) (by decide +kernel)) rfl, List.mem_of_getElem? (i := 961) (by decide +kernel), ⟨by decide +kernel, by decide +kernel, by decide +kernel⟩, by decide⟩
theorem vf_X7_pace : gVf yX7_pace cX7_pace 6 (some .long) 3 := ⟨gTb_in (List.mem_of_getElem? (i := 932) (by decide +kernel)) rfl, gTb_in (List.mem_of_getElem? (i := 933) (by decide +kernel)) rfl, gTb_in (List.mem_of_getElem? (i := 40) (by decide +kernel)) rfl, List.mem_of_getElem? (i := 934) (by decide +kernel), ⟨by decide +kernel, by decide +kernel, by decide +kernel⟩, by decide⟩
theorem sf_X7_power : gSf yX7_power cX7_power 6 (some .long) 2 := ⟨gTb_in (List.mem_of_getElem? (i := 976) (by decide +kernel)) rfl, gTb_in (List.mem_of_getElem? (i := 40) (by decide +kernel)) rfl, List.mem_of_getElem? (i := 977) (by decide +kernel), ⟨by decide +kernel, by decide +kernel, by decide +kernel⟩, by decide⟩
theorem vf_X7_pull : gVf yX7_pull cX7_pull 3 (some .long) 1 := ⟨gTb_in (List.mem_of_getElem? (i := 816) (by decide +kernel)) rfl, gTb_in (List.mem_of_getElem? (i := 18) (by decide +kernel)) rfl, gTb_in (List.mem_of_getElem? (i := 40) (by decide +kernel)) rfl, List.mem_of_getElem? (i := 817) (by decide +kernel), ⟨by decide +kernel, by decide +kernel, by decide +kernel⟩, by decide⟩
theorem vf_X7_pullLine : gVf yX7_pullLine cX7_pullLine 3 (some .long) 1 := ⟨gTb_in (List.mem_of_getElem? (i := 841) (by decide +kernel)) rfl, gTb_in (List.mem_of_getElem? (i := 21) (by decide +kernel)) rfl, gTb_in (List.mem_of_getElem? (i := 40) (by decide +kernel)) rfl, List.mem_of_getElem? (i := 842) (by decide +kernel), ⟨by decide +kernel, by decide +kernel, by decide +kernel⟩, by decide⟩
theorem vf_X7_readPlace : gVf yX7_readPlace cX7_readPlace 6 (some .boolean) 1 := ⟨gTb_in (List.mem_of_getElem? (i := 732) (by decide +kernel)) rfl, gTb_in (List.mem_of_getElem? (i := 10) (by decide +kernel)) rfl, gTb_in (List.mem_of_getElem? (i := 40) (by decide +kernel)) rfl, List.mem_of_getElem? (i := 733) (by decide +kernel), ⟨by decide +kernel, by decide +kernel, by decide +kernel⟩, by decide⟩
theorem vf_X7_readStave : gVf yX7_readStave cX7_readStave 3 (some .int) 0 := ⟨gTb_in (List.mem_of_getElem? (i := 728) (by decide +kernel)) rfl, gTb_in (List.mem_of_getElem? (i := 9) (by decide +kernel)) rfl, gTb_in (List.mem_of_getElem? (i := 40) (by decide +kernel)) rfl, List.mem_of_getElem? (i := 729) (by decide +kernel), ⟨by decide +kernel, by decide +kernel, by decide +kernel⟩, by decide⟩
theorem vf_X7_scrape : gVf yX7_scrape cX7_scrape 3 (some .int) 2 := ⟨gTb_in (List.mem_of_getElem? (i := 853) (by decide +kernel)) rfl, gTb_in (List.mem_of_getElem? (i := 854) (by decide +kernel)) rfl, gTb_in (List.mem_of_getElem? (i := 40) (by decide +kernel)) rfl, List.mem_of_getElem? (i := 855) (by decide +kernel), ⟨by decide +kernel, by decide +kernel, by decide +kernel⟩, by decide⟩
theorem vf_X7_see : gVf yX7_see cX7_see 4 (some .int) 2 := ⟨gTb_in (List.mem_of_getElem? (i := 947) (by decide +kernel)) rfl, gTb_in (List.mem_of_getElem? (i := 948) (by decide +kernel)) rfl, gTb_in (List.mem_of_getElem? (i := 40) (by decide +kernel)) rfl, List.mem_of_getElem? (i := 949) (by decide +kernel), ⟨by decide +kernel, by decide +kernel, by decide +kernel⟩, by decide⟩
theorem vf_X7_shape : gVf yX7_shape cX7_shape 5 (some .int) 2 := ⟨gTb_in (List.mem_of_getElem? (i := 928) (by decide +kernel)) rfl, gTb_in (List.mem_of_getElem? (i := 929) (by decide +kernel)) rfl, gTb_in (List.mem_of_getElem? (i := 40) (by decide +kernel)) rfl, List.mem_of_getElem? (i := 930) (by decide +kernel), ⟨by decide +kernel, by decide +kernel, by decide +kernel⟩, by decide⟩
theorem vf_X7_slips : gVf yX7_slips cX7_slips 9 (some .long) 5 := ⟨gTb_in (List.mem_of_getElem? (i := 967) (by decide +kernel)) rfl, gTb_in (List.mem_of_getElem? (i := 968) (by decide +kernel)) rfl, gTb_in (List.mem_of_getElem? (i := 40) (by decide +kernel)) rfl, List.mem_of_getElem? (i := 969) (by decide +kernel), ⟨by decide +kernel, by decide +kernel, by decide +kernel⟩, by decide⟩
theorem vf_X7_stave : gVf yX7_stave cX7_stave 2 (some .int) 0 := ⟨gTb_in (List.mem_of_getElem? (i := 739) (by decide +kernel)) rfl, gTb_in (List.mem_of_getElem? (i := 740) (by decide +kernel)) rfl, gTb_in (List.mem_of_getElem? (i := 40) (by decide +kernel)) rfl, List.mem_of_getElem? (i := 741) (by decide +kernel), ⟨by decide +kernel, by decide +kernel, by decide +kernel⟩, by decide⟩
theorem vf_X7_steam : gVf yX7_steam cX7_steam 2 (some .int) 1 := ⟨gTb_in (List.mem_of_getElem? (i := 857) (by decide +kernel)) rfl, gTb_in (List.mem_of_getElem? (i := 858) (by decide +kernel)) rfl, gTb_in (List.mem_of_getElem? (i := 40) (by decide +kernel)) rfl, List.mem_of_getElem? (i := 859) (by decide +kernel), ⟨by decide +kernel, by decide +kernel, by decide +kernel⟩, by decide⟩
theorem vf_X7_stiff : gVf yX7_stiff cX7_stiff 2 (some .int) 1 := ⟨gTb_in (List.mem_of_getElem? (i := 869) (by decide +kernel)) rfl, gTb_in (List.mem_of_getElem? (i := 870) (by decide +kernel)) rfl, gTb_in (List.mem_of_getElem? (i := 40) (by decide +kernel)) rfl, List.mem_of_getElem? (i := 871) (by decide +kernel), ⟨by decide +kernel, by decide +kernel, by decide +kernel⟩, by decide⟩
theorem vf_X7_strain : gVf yX7_strain cX7_strain 3 (some .long) 2 := ⟨gTb_in (List.mem_of_getElem? (i := 827) (by decide +kernel)) rfl, gTb_in (List.mem_of_getElem? (i := 828) (by decide +kernel)) rfl, gTb_in (List.mem_of_getElem? (i := 40) (by decide +kernel)) rfl, List.mem_of_getElem? (i := 829) (by decide +kernel), ⟨by decide +kernel, by decide +kernel, by decide +kernel⟩, by decide⟩
theorem vf_X7_strainOf : gVf yX7_strainOf cX7_strainOf 5 (some .long) 2 := ⟨gTb_in (List.mem_of_getElem? (i := 832) (by decide +kernel)) rfl, gTb_in (List.mem_of_getElem? (i := 20) (by decide +kernel)) rfl, gTb_in (List.mem_of_getElem? (i := 40) (by decide +kernel)) rfl, List.mem_of_getElem? (i := 833) (by decide +kernel), ⟨by decide +kernel, by decide +kernel, by decide +kernel⟩, by decide⟩
theorem sf_X7_told : gSf yX7_told cX7_told 11 (some .long) 3 := ⟨gTb_in (List.mem_of_getElem? (i := 824) (by decide +kernel)) rfl, gTb_in (List.mem_of_getElem? (i := 40) (by decide +kernel)) rfl, List.mem_of_getElem? (i := 825) (by decide +kernel), ⟨by decide +kernel, by decide +kernel, by decide +kernel⟩, by decide⟩
theorem vf_X7_tooStiff : gVf yX7_tooStiff cX7_tooStiff 3 (some .int) 0 := ⟨gTb_in (List.mem_of_getElem? (i := 963) (by decide +kernel)) rfl, gTb_in (List.mem_of_getElem? (i := 964) (by decide +kernel)) rfl, gTb_in (List.mem_of_getElem? (i := 40) (by decide +kernel)) rfl, List.mem_of_getElem? (i := 965) (by decide +kernel), ⟨by decide +kernel, by decide +kernel, by decide +kernel⟩, by decide⟩
theorem vf_X7_weigh : gVf yX7_weigh cX7_weigh 6 none 3 := ⟨gTb_in (List.mem_of_getElem? (i := 902) (by decide +kernel)) rfl, gTb_in (List.mem_of_getElem? (i := 26) (by decide +kernel)) rfl, gTb_in (List.mem_of_getElem? (i := 40) (by decide +kernel)) rfl, List.mem_of_getElem? (i := 903) (by decide +kernel), ⟨by decide +kernel, by decide +kernel, by decide +kernel⟩, by decide⟩
theorem vf_X7_weight : gVf yX7_weight cX7_weight 3 (some .long) 2 := ⟨gTb_in (List.mem_of_getElem? (i := 806) (by decide +kernel)) rfl, gTb_in (List.mem_of_getElem? (i := 807) (by decide +kernel)) rfl, gTb_in (List.mem_of_getElem? (i := 40) (by decide +kernel)) rfl, List.mem_of_getElem? (i := 808) (by decide +kernel), ⟨by decide +kernel, by decide +kernel, by decide +kernel⟩, by decide⟩
theorem vf_X7_wet : gVf yX7_wet cX7_wet 4 (some .long) 3 := ⟨gTb_in (List.mem_of_getElem? (i := 936) (by decide +kernel)) rfl, gTb_in (List.mem_of_getElem? (i := 937) (by decide +kernel)) rfl, gTb_in (List.mem_of_getElem? (i := 40) (by decide +kernel)) rfl, List.mem_of_getElem? (i := 938) (by decide +kernel), ⟨by decide +kernel, by decide +kernel, by decide +kernel⟩, by decide⟩
theorem vf_X7_wipe : gVf yX7_wipe cX7_wipe 2 (some .int) 0 := ⟨gTb_in (List.mem_of_getElem? (i := 719) (by decide +kernel)) rfl, gTb_in (List.mem_of_getElem? (i := 720) (by decide +kernel)) rfl, gTb_in (List.mem_of_getElem? (i := 40) (by decide +kernel)) rfl, List.mem_of_getElem? (i := 721) (by decide +kernel), ⟨by decide +kernel, by decide +kernel, by decide +kernel⟩, by decide⟩
theorem vf_X7_wood : gVf yX7_wood cX7_wood 6 (some .int) 4 := ⟨gTb_in (List.mem_of_getElem? (i := 743) (by decide +kernel)) rfl, gTb_in (List.mem_of_getElem? (i := 744) (by decide +kernel)) rfl, gTb_in (List.mem_of_getElem? (i := 40) (by decide +kernel)) rfl, List.mem_of_getElem? (i := 745) (by decide +kernel), ⟨by decide +kernel, by decide +kernel, by decide +kernel⟩, by decide⟩
theorem vf_X7_write : gVf yX7_write cX7_write 5 (some .int) 2 := ⟨gTb_in (List.mem_of_getElem? (i := 711) (by decide +kernel)) rfl, gTb_in (List.mem_of_getElem? (i := 712) (by decide +kernel)) rfl, gTb_in (List.mem_of_getElem? (i := 40) (by decide +kernel)) rfl, List.mem_of_getElem? (i := 713) (by decide +kernel), ⟨by decide +kernel, by decide +kernel, by decide +kernel⟩, by decide⟩
theorem jm_max : Cond.static Lib.Math.max.name ∈ gTb ∧ Cond.initialized "java/lang/Math" ∈ gTb ∧ Cond.code Lib.Math.max.name Lib.Math.max.code 2 (some .int) ∈ gTb := ⟨gTb_in (List.mem_of_getElem? (i := 374) (by decide +kernel)) rfl, gTb_in (List.mem_of_getElem? (i := 41) (by decide +kernel)) rfl, gTb_in (List.mem_of_getElem? (i := 375) (by decide +kernel)) rfl⟩
theorem jm_min : Cond.static Lib.Math.min.name ∈ gTb ∧ Cond.initialized "java/lang/Math" ∈ gTb ∧ Cond.code Lib.Math.min.name Lib.Math.min.code 2 (some .int) ∈ gTb := ⟨gTb_in (List.mem_of_getElem? (i := 498) (by decide +kernel)) rfl, gTb_in (List.mem_of_getElem? (i := 41) (by decide +kernel)) rfl, gTb_in (List.mem_of_getElem? (i := 499) (by decide +kernel)) rfl⟩
theorem jm_max_long : Cond.static Lib.MathLoose.max_long.x ∈ gTb ∧ Cond.initialized "java/lang/Math" ∈ gTb ∧ Cond.code Lib.MathLoose.max_long.x Lib.MathLoose.max_long.code 4 (some .long) ∈ gTb := ⟨gTb_in (List.mem_of_getElem? (i := 461) (by decide +kernel)) rfl, gTb_in (List.mem_of_getElem? (i := 41) (by decide +kernel)) rfl, gTb_in (List.mem_of_getElem? (i := 462) (by decide +kernel)) rfl⟩
theorem jm_min_long : Cond.static Lib.MathLoose.min_long.x ∈ gTb ∧ Cond.initialized "java/lang/Math" ∈ gTb ∧ Cond.code Lib.MathLoose.min_long.x Lib.MathLoose.min_long.code 4 (some .long) ∈ gTb := ⟨gTb_in (List.mem_of_getElem? (i := 423) (by decide +kernel)) rfl, gTb_in (List.mem_of_getElem? (i := 41) (by decide +kernel)) rfl, gTb_in (List.mem_of_getElem? (i := 424) (by decide +kernel)) rfl⟩
theorem cl_L_13 : Cond.constantLong RL 13 (4294967295) ∈ gTb := gTb_in (List.mem_of_getElem? (i := 994) (by decide +kernel)) rfl
theorem cl_X0_96 : Cond.constantLong RX0 96 (1000000000) ∈ gTb := gTb_in (List.mem_of_getElem? (i := 330) (by decide +kernel)) rfl
theorem cl_X0_119 : Cond.constantLong RX0 119 (2000000) ∈ gTb := gTb_in (List.mem_of_getElem? (i := 371) (by decide +kernel)) rfl
theorem cl_X0_130 : Cond.constantLong RX0 130 (1000000) ∈ gTb := gTb_in (List.mem_of_getElem? (i := 396) (by decide +kernel)) rfl
theorem cl_X0_136 : Cond.constantLong RX0 136 (1000) ∈ gTb := gTb_in (List.mem_of_getElem? (i := 406) (by decide +kernel)) rfl
theorem cl_X0_144 : Cond.constantLong RX0 144 (99) ∈ gTb := gTb_in (List.mem_of_getElem? (i := 420) (by decide +kernel)) rfl
theorem cl_X0_149 : Cond.constantLong RX0 149 (999) ∈ gTb := gTb_in (List.mem_of_getElem? (i := 421) (by decide +kernel)) rfl
theorem cl_X0_163 : Cond.constantLong RX0 163 (9223372036854775807) ∈ gTb := gTb_in (List.mem_of_getElem? (i := 459) (by decide +kernel)) rfl
theorem cl_X0_171 : Cond.constantLong RX0 171 (100) ∈ gTb := gTb_in (List.mem_of_getElem? (i := 544) (by decide +kernel)) rfl
theorem cl_X6_104 : Cond.constantLong RX6 104 (-1) ∈ gTb := gTb_in (List.mem_of_getElem? (i := 321) (by decide +kernel)) rfl
theorem cl_X6_121 : Cond.constantLong RX6 121 (-2) ∈ gTb := gTb_in (List.mem_of_getElem? (i := 366) (by decide +kernel)) rfl
theorem cl_X6_195 : Cond.constantLong RX6 195 (100) ∈ gTb := gTb_in (List.mem_of_getElem? (i := 549) (by decide +kernel)) rfl
theorem cl_X6_215 : Cond.constantLong RX6 215 (10) ∈ gTb := gTb_in (List.mem_of_getElem? (i := 594) (by decide +kernel)) rfl
theorem cl_X7_70 : Cond.constantLong RX7 70 (40) ∈ gTb := gTb_in (List.mem_of_getElem? (i := 812) (by decide +kernel)) rfl
theorem cl_X7_76 : Cond.constantLong RX7 76 (2) ∈ gTb := gTb_in (List.mem_of_getElem? (i := 749) (by decide +kernel)) rfl
theorem cl_X7_78 : Cond.constantLong RX7 78 (8) ∈ gTb := gTb_in (List.mem_of_getElem? (i := 714) (by decide +kernel)) rfl
theorem cl_X7_104 : Cond.constantLong RX7 104 (9) ∈ gTb := gTb_in (List.mem_of_getElem? (i := 750) (by decide +kernel)) rfl
theorem cl_X7_106 : Cond.constantLong RX7 106 (99) ∈ gTb := gTb_in (List.mem_of_getElem? (i := 751) (by decide +kernel)) rfl
theorem cl_X7_115 : Cond.constantLong RX7 115 (1000000000) ∈ gTb := gTb_in (List.mem_of_getElem? (i := 784) (by decide +kernel)) rfl
theorem cl_X7_134 : Cond.constantLong RX7 134 (2000000) ∈ gTb := gTb_in (List.mem_of_getElem? (i := 818) (by decide +kernel)) rfl
theorem cl_X7_139 : Cond.constantLong RX7 139 (1000000) ∈ gTb := gTb_in (List.mem_of_getElem? (i := 834) (by decide +kernel)) rfl
theorem cl_X7_145 : Cond.constantLong RX7 145 (-1) ∈ gTb := gTb_in (List.mem_of_getElem? (i := 775) (by decide +kernel)) rfl
theorem cl_X7_150 : Cond.constantLong RX7 150 (-2) ∈ gTb := gTb_in (List.mem_of_getElem? (i := 813) (by decide +kernel)) rfl
theorem cl_X7_160 : Cond.constantLong RX7 160 (1000) ∈ gTb := gTb_in (List.mem_of_getElem? (i := 843) (by decide +kernel)) rfl
theorem cl_X7_168 : Cond.constantLong RX7 168 (999) ∈ gTb := gTb_in (List.mem_of_getElem? (i := 847) (by decide +kernel)) rfl
theorem cl_X7_197 : Cond.constantLong RX7 197 (3) ∈ gTb := gTb_in (List.mem_of_getElem? (i := 895) (by decide +kernel)) rfl
theorem cl_X7_213 : Cond.constantLong RX7 213 (50) ∈ gTb := gTb_in (List.mem_of_getElem? (i := 939) (by decide +kernel)) rfl
theorem cl_X7_215 : Cond.constantLong RX7 215 (100) ∈ gTb := gTb_in (List.mem_of_getElem? (i := 940) (by decide +kernel)) rfl
theorem cl_X7_217 : Cond.constantLong RX7 217 (4) ∈ gTb := gTb_in (List.mem_of_getElem? (i := 945) (by decide +kernel)) rfl
theorem cl_X7_229 : Cond.constantLong RX7 229 (12) ∈ gTb := gTb_in (List.mem_of_getElem? (i := 970) (by decide +kernel)) rfl
theorem cl_X7_231 : Cond.constantLong RX7 231 (10) ∈ gTb := gTb_in (List.mem_of_getElem? (i := 971) (by decide +kernel)) rfl
end
section
/-! THE TWO WORLDS (the class's cells, the reference's cells), the abstract state, rows over natural numbers -/
abbrev gQ3 : Type := va_G × (Nat → ClassId) × (Nat → Nat)
abbrev gTys (cy : Nat → ClassId) : List (ClassId × FieldType) := [(cy 0, .int), (cy 1, .long), (cy 2, .boolean), (cy 3, .object "BowBend$Place"), (cy 4, .object "BowBend$Slot"), (cy 5, .object "BowBend$Wood")]
/-- the class's cells: 0 the object, 1 Text, 2 its bytes, 3 Search, 4 way, 5 found, 6 slots, 7 and 8 Slot; from 9 + 18 b on: Bow b, its woods' row, its places' row, three Woods, twelve Places -/
def cC (q : gQ3) (r : Nat → Int32) (g : Nat → Int64) (i : Nat) : va_E :=
  if i = 0 then .inr (6, [.ref (q.2.2 1), .ref (q.2.2 9), .ref (q.2.2 3), .ref (q.2.2 6)])
  else if i = 1 then .inr (4, [.ref (q.2.2 2), .int (r 1)])
  else if i = 2 then .inl (q.2.1 0, 60, .inl r)
  else if i = 3 then .inr (2, [.ref (q.2.2 4), .ref (q.2.2 5), .int (r 2), .int (r 3), .long (g 4), .int (r 5), .int (r 6)])
  else if i = 4 then .inl (q.2.1 0, 3, .inl r)
  else if i = 5 then .inl (q.2.1 0, 3, .inl r)
  else if i = 6 then .inl (q.2.1 4, 2, .inr (.inr (.inr (.inr (fun k => some (q.2.2 (7 + k)))))))
  else if i = 7 then .inr (3, [.ref (q.2.2 27), .int (r 1)])
  else if i = 8 then .inr (3, [.ref (q.2.2 45), .int (r 1)])
  else if (i - 9) % 18 = 0 then .inr (0, [.ref (q.2.2 (i + 1)), .ref (q.2.2 (i + 2)), .int (r 2), .int (r 3)])
  else if (i - 9) % 18 = 1 then .inl (q.2.1 5, 3, .inr (.inr (.inr (.inr (fun k => some (q.2.2 (i + 2 + k)))))))
  else if (i - 9) % 18 = 2 then .inl (q.2.1 3, 12, .inr (.inr (.inr (.inr (fun k => some (q.2.2 (i + 4 + k)))))))
  else if (i - 9) % 18 < 6 then .inr (5, [.int (r 0), .int (r 1), .int (r 2)])
  else .inr (1, [.int (r 0), .int (r 1), .int (r 2), .int (r 3), .int (r 4), .int (r 5), .int (r 6), .int (r 7), .int (r 8)])
/-- the reference's cells: 0 the object, 1 text, 2 .. 7 width, depth, wood, sets, knots, seen, 8 .. 10 what was read, 11 woods, 12 kept, 13 isKept, 14 bestAt, 15 tried, 16 gained -/
def cM (q : gQ3) (r : Nat → Int32) (g : Nat → Int64) (i : Nat) : va_E :=
  if i = 0 then .inr (7, [.int (r 0), .ref (q.2.2 1), .int (r 2), .int (r 3), .int (r 4), .ref (q.2.2 2), .ref (q.2.2 3), .ref (q.2.2 4), .ref (q.2.2 5), .ref (q.2.2 6), .ref (q.2.2 7), .int (r 11), .int (r 12), .ref (q.2.2 8), .ref (q.2.2 9), .ref (q.2.2 10), .ref (q.2.2 11), .ref (q.2.2 12), .ref (q.2.2 13), .int (r 19), .int (r 20), .ref (q.2.2 14), .ref (q.2.2 15), .ref (q.2.2 16)])
  else if i = 1 then .inl (q.2.1 0, 60, .inl r)
  else if i < 11 then .inl (q.2.1 0, 12, .inl r)
  else if i = 11 then .inl (q.2.1 0, 9, .inl r)
  else if i = 12 then .inl (q.2.1 0, 180, .inl r)
  else if i = 13 then .inl (q.2.1 2, 2, .inl r)
  else if i = 14 then .inl (q.2.1 0, 3, .inl r)
  else if i = 15 then .inl (q.2.1 0, 3, .inl r)
  else .inl (q.2.1 1, 12, .inr (.inl g))
abbrev wC (q : gQ3) : gW := (q.1, gTys q.2.1, 63, q.2.2, cC q)
abbrev wM (q : gQ3) : gW := (q.1, gTys q.2.1, 17, q.2.2, cM q)
theorem cC_pl (q : gQ3) (r : Nat → Int32) (g : Nat → Int64) {b j : Nat} (h : j < 12) : cC q r g (15 + 18 * b + j) = .inr (1, [.int (r 0), .int (r 1), .int (r 2), .int (r 3), .int (r 4), .int (r 5), .int (r 6), .int (r 7), .int (r 8)]) := by
  have e : (15 + 18 * b + j - 9) % 18 = 6 + j := by omega
  unfold cC
  rw [if_neg (by omega), if_neg (by omega), if_neg (by omega), if_neg (by omega), if_neg (by omega), if_neg (by omega), if_neg (by omega), if_neg (by omega), if_neg (by omega), e, if_neg (by omega), if_neg (by omega), if_neg (by omega), if_neg (by omega)]
theorem cC_wd (q : gQ3) (r : Nat → Int32) (g : Nat → Int64) {b k : Nat} (h : k < 3) : cC q r g (12 + 18 * b + k) = .inr (5, [.int (r 0), .int (r 1), .int (r 2)]) := by
  have e : (12 + 18 * b + k - 9) % 18 = 3 + k := by omega
  unfold cC
  rw [if_neg (by omega), if_neg (by omega), if_neg (by omega), if_neg (by omega), if_neg (by omega), if_neg (by omega), if_neg (by omega), if_neg (by omega), if_neg (by omega), e, if_neg (by omega), if_neg (by omega), if_neg (by omega), if_pos (by omega)]
theorem cC_bw (q : gQ3) (r : Nat → Int32) (g : Nat → Int64) (b : Nat) : cC q r g (9 + 18 * b) = .inr (0, [.ref (q.2.2 (9 + 18 * b + 1)), .ref (q.2.2 (9 + 18 * b + 2)), .int (r 2), .int (r 3)]) := by
  have e : (9 + 18 * b - 9) % 18 = 0 := by omega
  unfold cC
  rw [if_neg (by omega), if_neg (by omega), if_neg (by omega), if_neg (by omega), if_neg (by omega), if_neg (by omega), if_neg (by omega), if_neg (by omega), if_neg (by omega), e, if_pos rfl]
theorem cC_wr (q : gQ3) (r : Nat → Int32) (g : Nat → Int64) (b : Nat) : cC q r g (10 + 18 * b) = .inl (q.2.1 5, 3, .inr (.inr (.inr (.inr (fun k => some (q.2.2 (10 + 18 * b + 2 + k))))))) := by
  have e : (10 + 18 * b - 9) % 18 = 1 := by omega
  unfold cC
  rw [if_neg (by omega), if_neg (by omega), if_neg (by omega), if_neg (by omega), if_neg (by omega), if_neg (by omega), if_neg (by omega), if_neg (by omega), if_neg (by omega), e, if_neg (by omega), if_pos rfl]
theorem cC_pr (q : gQ3) (r : Nat → Int32) (g : Nat → Int64) (b : Nat) : cC q r g (11 + 18 * b) = .inl (q.2.1 3, 12, .inr (.inr (.inr (.inr (fun k => some (q.2.2 (11 + 18 * b + 4 + k))))))) := by
  have e : (11 + 18 * b - 9) % 18 = 2 := by omega
  unfold cC
  rw [if_neg (by omega), if_neg (by omega), if_neg (by omega), if_neg (by omega), if_neg (by omega), if_neg (by omega), if_neg (by omega), if_neg (by omega), if_neg (by omega), e, if_neg (by omega), if_neg (by omega), if_pos rfl]
theorem cC_p0 (q : gQ3) (r : Nat → Int32) (g : Nat → Int64) {j : Nat} (h : j < 12) : cC q r g (15 + j) = .inr (1, [.int (r 0), .int (r 1), .int (r 2), .int (r 3), .int (r 4), .int (r 5), .int (r 6), .int (r 7), .int (r 8)]) := cC_pl q r g (b := 0) h
theorem cC_w0 (q : gQ3) (r : Nat → Int32) (g : Nat → Int64) {k : Nat} (h : k < 3) : cC q r g (12 + k) = .inr (5, [.int (r 0), .int (r 1), .int (r 2)]) := cC_wd q r g (b := 0) h
theorem cM_ar (q : gQ3) (r : Nat → Int32) (g : Nat → Int64) {i : Nat} (h : 2 ≤ i) (h2 : i < 11) : cM q r g i = .inl (q.2.1 0, 12, .inl r) := by
  unfold cM
  rw [if_neg (by omega), if_neg (by omega), if_pos h2]
-- answers that are truths
def gb (P : Prop) [Decidable P] : Int32 := if P then 1 else 0
theorem gb_01 (P : Prop) [Decidable P] : gb P = 0 ∨ gb P = 1 := by unfold gb; split <;> simp
theorem gb_t {P : Prop} [Decidable P] (h : P) : gb P = 1 := if_pos h
theorem gb_f {P : Prop} [Decidable P] (h : ¬ P) : gb P = 0 := if_neg h
theorem gb_0 {P : Prop} [Decidable P] : gb P = 0 ↔ ¬ P := by
  unfold gb
  by_cases h : P <;> simp [h]
/-- a contract that says the answer and the memory -/
def gR (v : Option Value) (M1 : gM) : Option Value → gM → Prop := fun v' M' => v' = v ∧ M' = M1
theorem gR_i {v : Int32} {M : gM} : gR (some (.int v)) M (some (.int v)) M := ⟨rfl, rfl⟩
section RowsN
variable {X : gX} {w : gW} {post : Option Value → gM → Prop} {nL : Nat} {M : gM} {pc : Nat} {L : List (Nat × Value)} {st : List Value} {cc : ByteArray} {own : String} {ret : Option FieldType} {d : Nat}
theorem g_iaddN (hC : gC X w cc nL own ret d) {a b : Nat} (hd : decode cc pc = .ok (.iadd, 1)) (k : gG X w post nL M (pc + 1) L (.int (nI (a + b)) :: st)) : gG X w post nL M pc L (.int (nI b) :: .int (nI a) :: st) := g_iadd hC hd (nI_add a b) k
theorem g_isubN (hC : gC X w cc nL own ret d) {a b : Nat} (h : b ≤ a) (hd : decode cc pc = .ok (.isub, 1)) (k : gG X w post nL M (pc + 1) L (.int (nI (a - b)) :: st)) : gG X w post nL M pc L (.int (nI b) :: .int (nI a) :: st) := g_isub hC hd (pk_sub h) k
theorem g_imulN (hC : gC X w cc nL own ret d) {a b : Nat} (hd : decode cc pc = .ok (.imul, 1)) (k : gG X w post nL M (pc + 1) L (.int (nI (a * b)) :: st)) : gG X w post nL M pc L (.int (nI b) :: .int (nI a) :: st) := g_imul hC hd (pk_mul a b) k
theorem nI_n0 {b : Nat} (h0 : 0 < b) (hb : b < 2147483648) : ¬ nI b = 0 := nI_ne0 h0 hb
theorem lN_n0 {b : Nat} (h0 : 0 < b) (hb : b < 9223372036854775808) : ¬ lN b = 0 := fun h => by
  have h1 : (lN b).toInt = (b : Int) := pk_lT hb
  rw [h] at h1
  have h2 : (0 : Int64).toInt = 0 := by decide
  omega
theorem g_idivN (hC : gC X w cc nL own ret d) {a b : Nat} (ha : a < 2147483648) (h0 : 0 < b) (hb : b < 2147483648) (hd : decode cc pc = .ok (.idiv, 1)) (k : gG X w post nL M (pc + 1) L (.int (nI (a / b)) :: st)) : gG X w post nL M pc L (.int (nI b) :: .int (nI a) :: st) := g_idiv hC hd (nI_n0 h0 hb) (pk_div ha h0 hb) k
theorem g_iremN (hC : gC X w cc nL own ret d) {a b : Nat} (ha : a < 2147483648) (h0 : 0 < b) (hb : b < 2147483648) (hd : decode cc pc = .ok (.irem, 1)) (k : gG X w post nL M (pc + 1) L (.int (nI (a % b)) :: st)) : gG X w post nL M pc L (.int (nI b) :: .int (nI a) :: st) := g_irem hC hd (nI_n0 h0 hb) (pk_rem ha h0 hb) k
theorem g_laddN (hC : gC X w cc nL own ret d) {a b : Nat} (hd : decode cc pc = .ok (.ladd, 1)) (k : gG X w post nL M (pc + 1) L (.long (lN (a + b)) :: st)) : gG X w post nL M pc L (.long (lN b) :: .long (lN a) :: st) := g_ladd hC hd (lN_add a b) k
theorem g_lsubN (hC : gC X w cc nL own ret d) {a b : Nat} (h : b ≤ a) (hd : decode cc pc = .ok (.lsub, 1)) (k : gG X w post nL M (pc + 1) L (.long (lN (a - b)) :: st)) : gG X w post nL M pc L (.long (lN b) :: .long (lN a) :: st) := g_lsub hC hd (lN_sub h) k
theorem g_lmulN (hC : gC X w cc nL own ret d) {a b : Nat} (hd : decode cc pc = .ok (.lmul, 1)) (k : gG X w post nL M (pc + 1) L (.long (lN (a * b)) :: st)) : gG X w post nL M pc L (.long (lN b) :: .long (lN a) :: st) := g_lmul hC hd (lN_mul a b) k
theorem g_ldivN (hC : gC X w cc nL own ret d) {a b : Nat} (ha : a < 9223372036854775808) (h0 : 0 < b) (hb : b < 9223372036854775808) (hd : decode cc pc = .ok (.ldiv, 1)) (k : gG X w post nL M (pc + 1) L (.long (lN (a / b)) :: st)) : gG X w post nL M pc L (.long (lN b) :: .long (lN a) :: st) := g_ldiv hC hd (lN_n0 h0 hb) (pk_lDiv ha h0 hb) k
theorem g_lremN (hC : gC X w cc nL own ret d) {a b : Nat} (ha : a < 9223372036854775808) (h0 : 0 < b) (hb : b < 9223372036854775808) (hd : decode cc pc = .ok (.lrem, 1)) (k : gG X w post nL M (pc + 1) L (.long (lN (a % b)) :: st)) : gG X w post nL M pc L (.long (lN b) :: .long (lN a) :: st) := g_lrem hC hd (lN_n0 h0 hb) (pk_lRem ha h0 hb) k
theorem g_i2lN (hC : gC X w cc nL own ret d) {a : Nat} (ha : a < 2147483648) (hd : decode cc pc = .ok (.i2l, 1)) (k : gG X w post nL M (pc + 1) L (.long (lN a) :: st)) : gG X w post nL M pc L (.int (nI a) :: st) := g_i2l hC hd (nI_l ha) k
theorem g_l2iN (hC : gC X w cc nL own ret d) {a : Nat} (hd : decode cc pc = .ok (.l2i, 1)) (k : gG X w post nL M (pc + 1) L (.int (nI a) :: st)) : gG X w post nL M pc L (.long (lN a) :: st) := g_l2i hC hd (lN_i a) k
theorem g_iincN (hC : gC X w cc nL own ret d) {i a : Nat} (hd : decode cc pc = .ok (.iinc i 1, 3)) (hg : lvg L i = some (.int (nI a))) (hn : i < nL) {L' : List (Nat × Value)} (hl : (i, Value.int (nI (a + 1))) :: L.filter (fun q => !(q.1 == i) && !(q.1 + 1 == i && q.2.category == 2)) = L') (k : gG X w post nL M (pc + 3) L' st) : gG X w post nL M pc L st := g_iinc hC hd hg (nI_1 a) hn hl k
-- branches over numbers
theorem g_icmp_ltN (hC : gC X w cc nL own ret d) {a b : Nat} {off : Int} (ha : a < 2147483648) (hb : b < 2147483648) (hd : decode cc pc = .ok (.if_icmp .lt off, 3)) (tgt : Nat) (ht : (pc : Int) + off = (tgt : Int)) (kt : a < b → gG X w post nL M tgt L st) (kf : b ≤ a → gG X w post nL M (pc + 3) L st) : gG X w post nL M pc L (.int (nI b) :: .int (nI a) :: st) := g_icmp_lt hC hd tgt ht (fun h => kt ((nI_ltI ha hb).mp h)) (fun h => kf (Nat.le_of_not_lt fun q => h ((nI_ltI ha hb).mpr q)))
theorem g_icmp_geN (hC : gC X w cc nL own ret d) {a b : Nat} {off : Int} (ha : a < 2147483648) (hb : b < 2147483648) (hd : decode cc pc = .ok (.if_icmp .ge off, 3)) (tgt : Nat) (ht : (pc : Int) + off = (tgt : Int)) (kt : b ≤ a → gG X w post nL M tgt L st) (kf : a < b → gG X w post nL M (pc + 3) L st) : gG X w post nL M pc L (.int (nI b) :: .int (nI a) :: st) := g_icmp_ge hC hd tgt ht (fun h => kt ((nI_leI hb ha).mp h)) (fun h => kf (Nat.lt_of_not_le fun q => h ((nI_leI hb ha).mpr q)))
theorem g_icmp_gtN (hC : gC X w cc nL own ret d) {a b : Nat} {off : Int} (ha : a < 2147483648) (hb : b < 2147483648) (hd : decode cc pc = .ok (.if_icmp .gt off, 3)) (tgt : Nat) (ht : (pc : Int) + off = (tgt : Int)) (kt : b < a → gG X w post nL M tgt L st) (kf : a ≤ b → gG X w post nL M (pc + 3) L st) : gG X w post nL M pc L (.int (nI b) :: .int (nI a) :: st) := g_icmp_gt hC hd tgt ht (fun h => kt ((nI_ltI hb ha).mp h)) (fun h => kf (Nat.le_of_not_lt fun q => h ((nI_ltI hb ha).mpr q)))
theorem g_icmp_leN (hC : gC X w cc nL own ret d) {a b : Nat} {off : Int} (ha : a < 2147483648) (hb : b < 2147483648) (hd : decode cc pc = .ok (.if_icmp .le off, 3)) (tgt : Nat) (ht : (pc : Int) + off = (tgt : Int)) (kt : a ≤ b → gG X w post nL M tgt L st) (kf : b < a → gG X w post nL M (pc + 3) L st) : gG X w post nL M pc L (.int (nI b) :: .int (nI a) :: st) := g_icmp_le hC hd tgt ht (fun h => kt ((nI_leI ha hb).mp h)) (fun h => kf (Nat.lt_of_not_le fun q => h ((nI_leI ha hb).mpr q)))
theorem g_icmp_eqN (hC : gC X w cc nL own ret d) {a b : Nat} {off : Int} (ha : a < 2147483648) (hb : b < 2147483648) (hd : decode cc pc = .ok (.if_icmp .eq off, 3)) (tgt : Nat) (ht : (pc : Int) + off = (tgt : Int)) (kt : a = b → gG X w post nL M tgt L st) (kf : ¬ a = b → gG X w post nL M (pc + 3) L st) : gG X w post nL M pc L (.int (nI b) :: .int (nI a) :: st) := g_icmp_eq hC hd tgt ht (fun h => kt ((nI_eq ha hb).mp h)) (fun h => kf (fun q => h ((nI_eq ha hb).mpr q)))
theorem g_icmp_neN (hC : gC X w cc nL own ret d) {a b : Nat} {off : Int} (ha : a < 2147483648) (hb : b < 2147483648) (hd : decode cc pc = .ok (.if_icmp .ne off, 3)) (tgt : Nat) (ht : (pc : Int) + off = (tgt : Int)) (kt : ¬ a = b → gG X w post nL M tgt L st) (kf : a = b → gG X w post nL M (pc + 3) L st) : gG X w post nL M pc L (.int (nI b) :: .int (nI a) :: st) := g_icmp_ne hC hd tgt ht (fun h => kt (fun q => h ((nI_eq ha hb).mpr q))) (fun h => kf ((nI_eq ha hb).mp h))
theorem nI_e0 {a : Nat} (ha : a < 2147483648) : nI a = 0 ↔ a = 0 := by
  rw [show (0 : Int32) = nI 0 from rfl]
  exact nI_eq ha (by omega)
theorem g_if_eqN (hC : gC X w cc nL own ret d) {a : Nat} {off : Int} (ha : a < 2147483648) (hd : decode cc pc = .ok (.ifCond .eq off, 3)) (tgt : Nat) (ht : (pc : Int) + off = (tgt : Int)) (kt : a = 0 → gG X w post nL M tgt L st) (kf : 0 < a → gG X w post nL M (pc + 3) L st) : gG X w post nL M pc L (.int (nI a) :: st) := g_if_eq hC hd tgt ht (fun h => kt ((nI_e0 ha).mp h)) (fun h => kf (Nat.pos_of_ne_zero fun q => h ((nI_e0 ha).mpr q)))
theorem g_if_neN (hC : gC X w cc nL own ret d) {a : Nat} {off : Int} (ha : a < 2147483648) (hd : decode cc pc = .ok (.ifCond .ne off, 3)) (tgt : Nat) (ht : (pc : Int) + off = (tgt : Int)) (kt : 0 < a → gG X w post nL M tgt L st) (kf : a = 0 → gG X w post nL M (pc + 3) L st) : gG X w post nL M pc L (.int (nI a) :: st) := g_if_ne hC hd tgt ht (fun h => kt (Nat.pos_of_ne_zero fun q => h ((nI_e0 ha).mpr q))) (fun h => kf ((nI_e0 ha).mp h))
theorem g_if_ltN (hC : gC X w cc nL own ret d) {a : Nat} {off : Int} (ha : a < 2147483648) (hd : decode cc pc = .ok (.ifCond .lt off, 3)) (k : gG X w post nL M (pc + 3) L st) (tgt : Nat) (ht : (pc : Int) + off = (tgt : Int)) : gG X w post nL M pc L (.int (nI a) :: st) := g_if_lt hC hd tgt ht (fun h => absurd h (nI_pos ha)) (fun _ => k)
theorem g_if_leN (hC : gC X w cc nL own ret d) {a : Nat} {off : Int} (ha : a < 2147483648) (hd : decode cc pc = .ok (.ifCond .le off, 3)) (tgt : Nat) (ht : (pc : Int) + off = (tgt : Int)) (kt : a = 0 → gG X w post nL M tgt L st) (kf : 0 < a → gG X w post nL M (pc + 3) L st) : gG X w post nL M pc L (.int (nI a) :: st) := g_if_le hC hd tgt ht (fun h => kt (by rcases Nat.eq_zero_or_pos a with q | q; exact q; exact absurd h (nI_nle q ha))) (fun h => kf (Nat.pos_of_ne_zero fun q => h (by rw [q]; decide)))
theorem g_if_eqB (hC : gC X w cc nL own ret d) {P : Prop} [Decidable P] {off : Int} (hd : decode cc pc = .ok (.ifCond .eq off, 3)) (tgt : Nat) (ht : (pc : Int) + off = (tgt : Int)) (kt : ¬ P → gG X w post nL M tgt L st) (kf : P → gG X w post nL M (pc + 3) L st) : gG X w post nL M pc L (.int (gb P) :: st) := g_if_eq hC hd tgt ht (fun h => kt (gb_0.mp h)) (fun h => kf (Decidable.of_not_not fun q => h (gb_0.mpr q)))
theorem g_if_neB (hC : gC X w cc nL own ret d) {P : Prop} [Decidable P] {off : Int} (hd : decode cc pc = .ok (.ifCond .ne off, 3)) (tgt : Nat) (ht : (pc : Int) + off = (tgt : Int)) (kt : P → gG X w post nL M tgt L st) (kf : ¬ P → gG X w post nL M (pc + 3) L st) : gG X w post nL M pc L (.int (gb P) :: st) := g_if_ne hC hd tgt ht (fun h => kt (Decidable.of_not_not fun q => h (gb_0.mpr q))) (fun h => kf (gb_0.mp h))
-- lcmp and its branch together
theorem g_lc_lt (hC : gC X w cc nL own ret d) {x y : Int64} {off : Int} (hd : decode cc pc = .ok (.lcmp, 1)) (hd2 : decode cc (pc + 1) = .ok (.ifCond .lt off, 3)) (tgt : Nat) (ht : ((pc + 1 : Nat) : Int) + off = (tgt : Int)) (kt : x < y → gG X w post nL M tgt L st) (kf : ¬ x < y → gG X w post nL M (pc + 1 + 3) L st) : gG X w post nL M pc L (.long y :: .long x :: st) := g_lcmp hC hd (g_if_lt hC hd2 tgt ht (fun h => kt ((lg_cmp_lt x y).mp h)) (fun h => kf fun q => h ((lg_cmp_lt x y).mpr q)))
theorem g_lc_ge (hC : gC X w cc nL own ret d) {x y : Int64} {off : Int} (hd : decode cc pc = .ok (.lcmp, 1)) (hd2 : decode cc (pc + 1) = .ok (.ifCond .ge off, 3)) (tgt : Nat) (ht : ((pc + 1 : Nat) : Int) + off = (tgt : Int)) (kt : y ≤ x → gG X w post nL M tgt L st) (kf : ¬ y ≤ x → gG X w post nL M (pc + 1 + 3) L st) : gG X w post nL M pc L (.long y :: .long x :: st) := g_lcmp hC hd (g_if_ge hC hd2 tgt ht (fun h => kt ((lg_cmp_ge x y).mp h)) (fun h => kf fun q => h ((lg_cmp_ge x y).mpr q)))
theorem g_lc_gt (hC : gC X w cc nL own ret d) {x y : Int64} {off : Int} (hd : decode cc pc = .ok (.lcmp, 1)) (hd2 : decode cc (pc + 1) = .ok (.ifCond .gt off, 3)) (tgt : Nat) (ht : ((pc + 1 : Nat) : Int) + off = (tgt : Int)) (kt : y < x → gG X w post nL M tgt L st) (kf : ¬ y < x → gG X w post nL M (pc + 1 + 3) L st) : gG X w post nL M pc L (.long y :: .long x :: st) := g_lcmp hC hd (g_if_gt hC hd2 tgt ht (fun h => kt ((lg_cmp_gt x y).mp h)) (fun h => kf fun q => h ((lg_cmp_gt x y).mpr q)))
theorem g_lc_le (hC : gC X w cc nL own ret d) {x y : Int64} {off : Int} (hd : decode cc pc = .ok (.lcmp, 1)) (hd2 : decode cc (pc + 1) = .ok (.ifCond .le off, 3)) (tgt : Nat) (ht : ((pc + 1 : Nat) : Int) + off = (tgt : Int)) (kt : x ≤ y → gG X w post nL M tgt L st) (kf : ¬ x ≤ y → gG X w post nL M (pc + 1 + 3) L st) : gG X w post nL M pc L (.long y :: .long x :: st) := g_lcmp hC hd (g_if_le hC hd2 tgt ht (fun h => kt ((lg_cmp_le x y).mp h)) (fun h => kf fun q => h ((lg_cmp_le x y).mpr q)))
theorem g_lc_eq (hC : gC X w cc nL own ret d) {x y : Int64} {off : Int} (hd : decode cc pc = .ok (.lcmp, 1)) (hd2 : decode cc (pc + 1) = .ok (.ifCond .eq off, 3)) (tgt : Nat) (ht : ((pc + 1 : Nat) : Int) + off = (tgt : Int)) (kt : x = y → gG X w post nL M tgt L st) (kf : ¬ x = y → gG X w post nL M (pc + 1 + 3) L st) : gG X w post nL M pc L (.long y :: .long x :: st) := g_lcmp hC hd (g_if_eq hC hd2 tgt ht (fun h => kt ((lg_cmp_eq x y).mp h)) (fun h => kf fun q => h ((lg_cmp_eq x y).mpr q)))
theorem g_lc_ne (hC : gC X w cc nL own ret d) {x y : Int64} {off : Int} (hd : decode cc pc = .ok (.lcmp, 1)) (hd2 : decode cc (pc + 1) = .ok (.ifCond .ne off, 3)) (tgt : Nat) (ht : ((pc + 1 : Nat) : Int) + off = (tgt : Int)) (kt : ¬ x = y → gG X w post nL M tgt L st) (kf : x = y → gG X w post nL M (pc + 1 + 3) L st) : gG X w post nL M pc L (.long y :: .long x :: st) := g_lcmp hC hd (g_if_ne hC hd2 tgt ht (fun h => kt fun q => h ((lg_cmp_eq x y).mpr q)) (fun h => kf ((lg_cmp_eq x y).mp h)))
theorem g_lc_ltN (hC : gC X w cc nL own ret d) {a b : Nat} {off : Int} (ha : a < 9223372036854775808) (hb : b < 9223372036854775808) (hd : decode cc pc = .ok (.lcmp, 1)) (hd2 : decode cc (pc + 1) = .ok (.ifCond .lt off, 3)) (tgt : Nat) (ht : ((pc + 1 : Nat) : Int) + off = (tgt : Int)) (kt : a < b → gG X w post nL M tgt L st) (kf : b ≤ a → gG X w post nL M (pc + 1 + 3) L st) : gG X w post nL M pc L (.long (lN b) :: .long (lN a) :: st) := g_lc_lt hC hd hd2 tgt ht (fun h => kt ((pk_lLT ha hb).mp h)) (fun h => kf (Nat.le_of_not_lt fun q => h ((pk_lLT ha hb).mpr q)))
theorem g_lc_geN (hC : gC X w cc nL own ret d) {a b : Nat} {off : Int} (ha : a < 9223372036854775808) (hb : b < 9223372036854775808) (hd : decode cc pc = .ok (.lcmp, 1)) (hd2 : decode cc (pc + 1) = .ok (.ifCond .ge off, 3)) (tgt : Nat) (ht : ((pc + 1 : Nat) : Int) + off = (tgt : Int)) (kt : b ≤ a → gG X w post nL M tgt L st) (kf : a < b → gG X w post nL M (pc + 1 + 3) L st) : gG X w post nL M pc L (.long (lN b) :: .long (lN a) :: st) := g_lc_ge hC hd hd2 tgt ht (fun h => kt ((pk_lLE hb ha).mp h)) (fun h => kf (Nat.lt_of_not_le fun q => h ((pk_lLE hb ha).mpr q)))
theorem g_lc_gtN (hC : gC X w cc nL own ret d) {a b : Nat} {off : Int} (ha : a < 9223372036854775808) (hb : b < 9223372036854775808) (hd : decode cc pc = .ok (.lcmp, 1)) (hd2 : decode cc (pc + 1) = .ok (.ifCond .gt off, 3)) (tgt : Nat) (ht : ((pc + 1 : Nat) : Int) + off = (tgt : Int)) (kt : b < a → gG X w post nL M tgt L st) (kf : a ≤ b → gG X w post nL M (pc + 1 + 3) L st) : gG X w post nL M pc L (.long (lN b) :: .long (lN a) :: st) := g_lc_gt hC hd hd2 tgt ht (fun h => kt ((pk_lLT hb ha).mp h)) (fun h => kf (Nat.le_of_not_lt fun q => h ((pk_lLT hb ha).mpr q)))
theorem g_lc_leN (hC : gC X w cc nL own ret d) {a b : Nat} {off : Int} (ha : a < 9223372036854775808) (hb : b < 9223372036854775808) (hd : decode cc pc = .ok (.lcmp, 1)) (hd2 : decode cc (pc + 1) = .ok (.ifCond .le off, 3)) (tgt : Nat) (ht : ((pc + 1 : Nat) : Int) + off = (tgt : Int)) (kt : a ≤ b → gG X w post nL M tgt L st) (kf : b < a → gG X w post nL M (pc + 1 + 3) L st) : gG X w post nL M pc L (.long (lN b) :: .long (lN a) :: st) := g_lc_le hC hd hd2 tgt ht (fun h => kt ((pk_lLE ha hb).mp h)) (fun h => kf (Nat.lt_of_not_le fun q => h ((pk_lLE ha hb).mpr q)))
theorem g_lc_eqN (hC : gC X w cc nL own ret d) {a b : Nat} {off : Int} (ha : a < 9223372036854775808) (hb : b < 9223372036854775808) (hd : decode cc pc = .ok (.lcmp, 1)) (hd2 : decode cc (pc + 1) = .ok (.ifCond .eq off, 3)) (tgt : Nat) (ht : ((pc + 1 : Nat) : Int) + off = (tgt : Int)) (kt : a = b → gG X w post nL M tgt L st) (kf : ¬ a = b → gG X w post nL M (pc + 1 + 3) L st) : gG X w post nL M pc L (.long (lN b) :: .long (lN a) :: st) := g_lc_eq hC hd hd2 tgt ht (fun h => kt ((pk_lEQ ha hb).mp h)) (fun h => kf fun q => h ((pk_lEQ ha hb).mpr q))
theorem g_lc_neN (hC : gC X w cc nL own ret d) {a b : Nat} {off : Int} (ha : a < 9223372036854775808) (hb : b < 9223372036854775808) (hd : decode cc pc = .ok (.lcmp, 1)) (hd2 : decode cc (pc + 1) = .ok (.ifCond .ne off, 3)) (tgt : Nat) (ht : ((pc + 1 : Nat) : Int) + off = (tgt : Int)) (kt : ¬ a = b → gG X w post nL M tgt L st) (kf : a = b → gG X w post nL M (pc + 1 + 3) L st) : gG X w post nL M pc L (.long (lN b) :: .long (lN a) :: st) := g_lc_ne hC hd hd2 tgt ht (fun h => kt fun q => h ((pk_lEQ ha hb).mpr q)) (fun h => kf ((pk_lEQ ha hb).mp h))
-- calls of contracts that say answer and memory
theorem g_callVd (hC : gC X w cc nL own ret d) {idx d' maxL n ci : Nat} (i : Nat) {y : MethodName} {bytes : ByteArray} {ret' : Option FieldType} {As st0 : List Value} {v : Value} {M1 : gM} {fs : List Value} {q : vw_C} (hct : gCt w y bytes maxL ret' d' (.ref (w.2.2.2.1 i) :: As) M (gR (some v) M1)) (hf : gVf y bytes maxL ret' n) (hlk : Cond.methodLink own idx y ∈ gTb) (hd' : d' < d) (hi : i < w.2.2.1) (hF : w.2.2.2.2 (M.1 i) (M.2 i) i = .inr (ci, fs)) (hc : vwCl[ci]? = some q) (hq : q.1 = y.cls) (hn : As.length = n) (hst : st0 = As.reverse ++ .ref (w.2.2.2.1 i) :: st) (hcat : (st.map fun v => v.category).sum ≤ 8) (hd : decode cc pc = .ok (.invokevirtual idx, 3))
    (kk : gG X w post nL M1 (pc + 3) L (v :: st)) : gG X w post nL M pc L st0 := g_callV hC hct hf hlk hd' hi hF hc hq hn hst hcat hd (fun v' M' h => by obtain ⟨rfl, rfl⟩ := h; exact kk)
theorem g_callVn (hC : gC X w cc nL own ret d) {idx d' maxL n ci : Nat} (i : Nat) {y : MethodName} {bytes : ByteArray} {ret' : Option FieldType} {As st0 : List Value} {M1 : gM} {fs : List Value} {q : vw_C} (hct : gCt w y bytes maxL ret' d' (.ref (w.2.2.2.1 i) :: As) M (gR none M1)) (hf : gVf y bytes maxL ret' n) (hlk : Cond.methodLink own idx y ∈ gTb) (hd' : d' < d) (hi : i < w.2.2.1) (hF : w.2.2.2.2 (M.1 i) (M.2 i) i = .inr (ci, fs)) (hc : vwCl[ci]? = some q) (hq : q.1 = y.cls) (hn : As.length = n) (hst : st0 = As.reverse ++ .ref (w.2.2.2.1 i) :: st) (hcat : (st.map fun v => v.category).sum ≤ 8) (hd : decode cc pc = .ok (.invokevirtual idx, 3))
    (kk : gG X w post nL M1 (pc + 3) L st) : gG X w post nL M pc L st0 := g_callV hC hct hf hlk hd' hi hF hc hq hn hst hcat hd (fun v' M' h => by obtain ⟨rfl, rfl⟩ := h; exact kk)
theorem g_callSd (hC : gC X w cc nL own ret d) {idx d' maxL n : Nat} {y : MethodName} {bytes : ByteArray} {ret' : Option FieldType} {As st0 : List Value} {v : Value} {M1 : gM} (hct : gCt w y bytes maxL ret' d' As M (gR (some v) M1)) (hf : gSf y bytes maxL ret' n) (hlk : Cond.methodLink own idx y ∈ gTb) (hd' : d' < d) (hn : As.length = n) (hst : st0 = As.reverse ++ st) (hcat : (st.map fun v => v.category).sum ≤ 8) (hd : decode cc pc = .ok (.invokestatic idx, 3))
    (kk : gG X w post nL M1 (pc + 3) L (v :: st)) : gG X w post nL M pc L st0 := g_callS hC hct hf hlk hd' hn hst hcat hd (fun v' M' h => by obtain ⟨rfl, rfl⟩ := h; exact kk)
theorem g_callSNd (hC : gC X w cc nL own ret d) {idx d' maxL n : Nat} {host : String} {y : MethodName} {bytes : ByteArray} {ret' : Option FieldType} {As st0 : List Value} {v : Value} {M1 : gM} (hct : gCt w y bytes maxL ret' d' As M (gR (some v) M1)) (hf : gSf y bytes maxL ret' n) (hlk : Cond.methodLinkNest own idx y host ∈ lw_tbl) (hd' : d' < d) (hn : As.length = n) (hst : st0 = As.reverse ++ st) (hcat : (st.map fun v => v.category).sum ≤ 8) (hd : decode cc pc = .ok (.invokestatic idx, 3))
    (kk : gG X w post nL M1 (pc + 3) L (v :: st)) : gG X w post nL M pc L st0 := g_callSN hC hct hf hlk hd' hn hst hcat hd (fun v' M' h => by obtain ⟨rfl, rfl⟩ := h; exact kk)
end RowsN
end
section
/-! WHAT THE BOW ANSWERS, over natural numbers: one value for the class and for the reference. B: rows 0 width 1 depth 2 wood 3 sets 4 knot 5 seen (by place), 6 e 7 pull 8 press (by wood), 9: 0 places a limb, 1 where it is broken (0: nowhere; told and 1) -/
abbrev gB : Type := Nat → Nat → Nat
def bV (B : gB) : Prop := 1 ≤ B 9 0 ∧ B 9 0 ≤ 6 ∧ B 9 1 ≤ 16 ∧ (∀ k, k < 3 → (1 ≤ B 6 k ∧ B 6 k ≤ 9) ∧ (1 ≤ B 7 k ∧ B 7 k ≤ 99) ∧ (1 ≤ B 8 k ∧ B 8 k ≤ 99)) ∧ ∀ j, j < 12 → j % 6 < B 9 0 → (1 ≤ B 0 j ∧ B 0 j ≤ 9) ∧ (4 ≤ B 1 j ∧ B 1 j ≤ 40) ∧ B 2 j ≤ 2 ∧ B 3 j ≤ 99 ∧ B 4 j ≤ 1 ∧ B 5 j ≤ 99
def bk (n : Nat) : Int32 := if n = 0 then -9 else nI (n - 1)
/-- the class's Bow b holds B -/
def bC (b : Nat) (M : gM) (B : gB) : Prop := M.1 (9 + 18 * b) 2 = nI (B 9 0) ∧ M.1 (9 + 18 * b) 3 = bk (B 9 1) ∧ (∀ k, k < 3 → M.1 (12 + 18 * b + k) 0 = nI (B 6 k) ∧ M.1 (12 + 18 * b + k) 1 = nI (B 7 k) ∧ M.1 (12 + 18 * b + k) 2 = nI (B 8 k)) ∧ ∀ j, j < 12 → j % 6 < B 9 0 → M.1 (15 + 18 * b + j) 3 = nI (B 0 j) ∧ M.1 (15 + 18 * b + j) 4 = nI (B 1 j) ∧ M.1 (15 + 18 * b + j) 5 = nI (B 2 j) ∧ M.1 (15 + 18 * b + j) 6 = nI (B 3 j) ∧ M.1 (15 + 18 * b + j) 8 = nI (B 4 j) ∧ M.1 (15 + 18 * b + j) 7 = nI (B 5 j)
/-- what never changes of the Places -/
def bK (M : gM) : Prop := ∀ b, b < 3 → ∀ j, j < 12 → M.1 (15 + 18 * b + j) 0 = nI (j / 6) ∧ M.1 (15 + 18 * b + j) 1 = nI (j % 6 + 1) ∧ M.1 (15 + 18 * b + j) 2 = nI (10 * (j / 6) + j % 6) ∧ (M.1 (15 + 18 * b + j) 8 = 0 ∨ M.1 (15 + 18 * b + j) 8 = 1)
def cI (M : gM) (B : gB) : Prop := bK M ∧ bC 0 M B ∧ bV B
section CI
variable {M : gM} {B : gB}
theorem ci_many (h : cI M B) : M.1 9 2 = nI (B 9 0) := h.2.1.1
theorem ci_brk (h : cI M B) : M.1 9 3 = bk (B 9 1) := h.2.1.2.1
theorem ci_e (h : cI M B) {k : Nat} (hk : k < 3) : M.1 (12 + k) 0 = nI (B 6 k) := (h.2.1.2.2.1 k hk).1
theorem ci_pull (h : cI M B) {k : Nat} (hk : k < 3) : M.1 (12 + k) 1 = nI (B 7 k) := (h.2.1.2.2.1 k hk).2.1
theorem ci_press (h : cI M B) {k : Nat} (hk : k < 3) : M.1 (12 + k) 2 = nI (B 8 k) := (h.2.1.2.2.1 k hk).2.2
theorem ci_side (h : cI M B) {j : Nat} (hj : j < 12) : M.1 (15 + j) 0 = nI (j / 6) := (h.1 0 (by decide) j hj).1
theorem ci_arm (h : cI M B) {j : Nat} (hj : j < 12) : M.1 (15 + j) 1 = nI (j % 6 + 1) := (h.1 0 (by decide) j hj).2.1
theorem ci_told (h : cI M B) {j : Nat} (hj : j < 12) : M.1 (15 + j) 2 = nI (10 * (j / 6) + j % 6) := (h.1 0 (by decide) j hj).2.2.1
theorem ci_f0 (h : cI M B) {j : Nat} (hj : j < 12) (ht : j % 6 < B 9 0) : M.1 (15 + j) 3 = nI (B 0 j) := (h.2.1.2.2.2 j hj ht).1
theorem ci_f1 (h : cI M B) {j : Nat} (hj : j < 12) (ht : j % 6 < B 9 0) : M.1 (15 + j) 4 = nI (B 1 j) := (h.2.1.2.2.2 j hj ht).2.1
theorem ci_f2 (h : cI M B) {j : Nat} (hj : j < 12) (ht : j % 6 < B 9 0) : M.1 (15 + j) 5 = nI (B 2 j) := (h.2.1.2.2.2 j hj ht).2.2.1
theorem ci_f3 (h : cI M B) {j : Nat} (hj : j < 12) (ht : j % 6 < B 9 0) : M.1 (15 + j) 6 = nI (B 3 j) := (h.2.1.2.2.2 j hj ht).2.2.2.1
theorem ci_f4 (h : cI M B) {j : Nat} (hj : j < 12) (ht : j % 6 < B 9 0) : M.1 (15 + j) 8 = nI (B 4 j) := (h.2.1.2.2.2 j hj ht).2.2.2.2.1
theorem ci_f5 (h : cI M B) {j : Nat} (hj : j < 12) (ht : j % 6 < B 9 0) : M.1 (15 + j) 7 = nI (B 5 j) := (h.2.1.2.2.2 j hj ht).2.2.2.2.2
theorem bv_many (h : bV B) : 1 ≤ B 9 0 ∧ B 9 0 ≤ 6 := ⟨h.1, h.2.1⟩
theorem bv_e (h : bV B) {k : Nat} (hk : k < 3) : 1 ≤ B 6 k ∧ B 6 k ≤ 9 := (h.2.2.2.1 k hk).1
theorem bv_pull (h : bV B) {k : Nat} (hk : k < 3) : 1 ≤ B 7 k ∧ B 7 k ≤ 99 := (h.2.2.2.1 k hk).2.1
theorem bv_press (h : bV B) {k : Nat} (hk : k < 3) : 1 ≤ B 8 k ∧ B 8 k ≤ 99 := (h.2.2.2.1 k hk).2.2
theorem bv_f0 (h : bV B) {j : Nat} (hj : j < 12) (ht : j % 6 < B 9 0) : 1 ≤ B 0 j ∧ B 0 j ≤ 9 := (h.2.2.2.2 j hj ht).1
theorem bv_f1 (h : bV B) {j : Nat} (hj : j < 12) (ht : j % 6 < B 9 0) : 4 ≤ B 1 j ∧ B 1 j ≤ 40 := (h.2.2.2.2 j hj ht).2.1
theorem bv_f2 (h : bV B) {j : Nat} (hj : j < 12) (ht : j % 6 < B 9 0) : B 2 j < 3 := Nat.lt_succ_of_le (h.2.2.2.2 j hj ht).2.2.1
theorem bv_f3 (h : bV B) {j : Nat} (hj : j < 12) (ht : j % 6 < B 9 0) : B 3 j ≤ 99 := (h.2.2.2.2 j hj ht).2.2.2.1
theorem bv_f4 (h : bV B) {j : Nat} (hj : j < 12) (ht : j % 6 < B 9 0) : B 4 j ≤ 1 := (h.2.2.2.2 j hj ht).2.2.2.2.1
theorem bv_f5 (h : bV B) {j : Nat} (hj : j < 12) (ht : j % 6 < B 9 0) : B 5 j ≤ 99 := (h.2.2.2.2 j hj ht).2.2.2.2.2
end CI
theorem g_sv {x y : Int32} (h : x = y) : (some (Value.int x) : Option Value) = some (Value.int y) := by rw [h]
-- sums
def gsm (f : Nat → Nat) : Nat → Nat
  | 0 => 0
  | n + 1 => gsm f n + f n
theorem gsm_le {f : Nat → Nat} {c : Nat} : ∀ {n : Nat}, (∀ k, k < n → f k ≤ c) → gsm f n ≤ n * c
  | 0, _ => by simp [gsm]
  | n + 1, h => by
    have h1 := gsm_le (n := n) (fun k hk => h k (by omega))
    have h2 := h n (by omega)
    show gsm f n + f n ≤ (n + 1) * c
    rw [Nat.succ_mul]; omega
theorem gsm_cong {f g : Nat → Nat} : ∀ {n : Nat}, (∀ k, k < n → f k = g k) → gsm f n = gsm g n
  | 0, _ => rfl
  | n + 1, h => by
    show gsm f n + f n = gsm g n + g n
    rw [gsm_cong (fun k hk => h k (by omega)), h n (by omega)]
theorem gsm_part {f : Nat → Nat} : ∀ {n i : Nat}, i < n → f i ≤ gsm f n
  | 0, _, h => absurd h (Nat.not_lt_zero _)
  | n + 1, i, h => by
    show f i ≤ gsm f n + f n
    by_cases e : i = n
    · subst e; omega
    · have := gsm_part (f := f) (n := n) (i := i) (by omega); omega
theorem gsm_s {f : Nat → Nat} {i v : Nat} (h : f i = v) : gsm f (i + 1) = gsm f i + v := by rw [← h]; rfl
theorem gsm_s0 {f : Nat → Nat} {i : Nat} (h : f i = 0) : gsm f (i + 1) = gsm f i := by rw [gsm_s h, Nat.add_zero]
/-- what a place d deep gives -/
def sGive (B : gB) (j d : Nat) : Nat := 1000000000 * (j % 6 + 1) * (j % 6 + 1) / (B 6 (B 2 j) * B 0 j * d * d * d)
def sLimb (B : gB) (l : Nat) : Nat := gsm (fun k => if k < B 9 0 then sGive B (6 * l + k) (B 1 (6 * l + k)) else 0) 6
def sAll (B : gB) : Nat := sLimb B 0 + sLimb B 1
def sSets (B : gB) : Nat := gsm (fun j => if j % 6 < B 9 0 then B 3 j else 0) 12
def sPull (B : gB) (x : Nat) : Nat := 2000000 * (x - sSets B / 10)
def sBears (B : gB) (j : Nat) : Nat := B 6 (B 2 j) * B 0 j * B 1 j * B 1 j
def sStr (B : gB) (pull gives j : Nat) : Nat := pull * (j % 6 + 1) * 1000000 / (gives * sBears B j)
theorem sGive_le (B : gB) (j d : Nat) : sGive B j d ≤ 36000000000 := by
  unfold sGive
  refine Nat.le_trans (Nat.div_le_self _ _) ?_
  have h : j % 6 + 1 ≤ 6 := by omega
  calc 1000000000 * (j % 6 + 1) * (j % 6 + 1) ≤ 1000000000 * 6 * 6 := Nat.mul_le_mul (Nat.mul_le_mul (Nat.le_refl _) h) h
    _ = 36000000000 := by decide
theorem sLimb_le (B : gB) (l : Nat) : sLimb B l ≤ 216000000000 := gsm_le (n := 6) (c := 36000000000) (fun k _ => by
  split
  · exact sGive_le _ _ _
  · omega)
theorem sAll_le (B : gB) : sAll B ≤ 432000000000 := by
  have h0 := sLimb_le B 0
  have h1 := sLimb_le B 1
  unfold sAll; omega
theorem mul_bd {a b x y : Nat} (h1 : a ≤ x) (h2 : b ≤ y) : a * b ≤ x * y := Nat.mul_le_mul h1 h2
theorem mul_ps {a b : Nat} (h1 : 0 < a) (h2 : 0 < b) : 0 < a * b := Nat.mul_pos h1 h2
theorem sDen_bd {B : gB} (h : bV B) {j d : Nat} (hj : j < 12) (ht : j % 6 < B 9 0) (hd : d ≤ 40) : B 6 (B 2 j) * B 0 j * d * d * d ≤ 5184000 := by
  have h1 := bv_e h (bv_f2 h hj ht)
  have h2 := bv_f0 h hj ht
  exact mul_bd (mul_bd (mul_bd (mul_bd h1.2 h2.2) hd) hd) hd
theorem sDen_ps {B : gB} (h : bV B) {j d : Nat} (hj : j < 12) (ht : j % 6 < B 9 0) (hd : 1 ≤ d) : 0 < B 6 (B 2 j) * B 0 j * d * d * d := by
  have h1 := bv_e h (bv_f2 h hj ht)
  have h2 := bv_f0 h hj ht
  exact mul_ps (mul_ps (mul_ps (mul_ps h1.1 h2.1) hd) hd) hd
theorem sBears_bd {B : gB} (h : bV B) {j : Nat} (hj : j < 12) (ht : j % 6 < B 9 0) : 0 < sBears B j ∧ sBears B j ≤ 129600 := by
  have h1 := bv_e h (bv_f2 h hj ht)
  have h2 := bv_f0 h hj ht
  have h3 := bv_f1 h hj ht
  exact ⟨mul_ps (mul_ps (mul_ps h1.1 h2.1) (by omega)) (by omega), mul_bd (mul_bd (mul_bd h1.2 h2.2) h3.2) h3.2⟩
theorem sGive_ps {B : gB} (h : bV B) {j d : Nat} (hj : j < 12) (ht : j % 6 < B 9 0) (hd : 1 ≤ d) (hd2 : d ≤ 40) : 0 < sGive B j d := by
  have h1 := sDen_bd h hj ht hd2
  have h2 := sDen_ps h hj ht hd
  refine Nat.div_pos (Nat.le_trans h1 ?_) h2
  have h3 : 1 ≤ j % 6 + 1 := by omega
  calc 5184000 ≤ 1000000000 * 1 * 1 := by decide
    _ ≤ 1000000000 * (j % 6 + 1) * (j % 6 + 1) := mul_bd (mul_bd (Nat.le_refl _) h3) h3
theorem sAll_ps {B : gB} (h : bV B) : 0 < sAll B := by
  have h1 := (bv_many h).1
  have h2 := bv_f1 h (j := 0) (by omega) (by omega)
  have h3 := sGive_ps h (j := 0) (by omega) (by omega) (by omega : 1 ≤ B 1 0) h2.2
  have h4 := gsm_part (f := fun k => if k < B 9 0 then sGive B (6 * 0 + k) (B 1 (6 * 0 + k)) else 0) (n := 6) (i := 0) (by omega)
  rw [if_pos (by omega : 0 < B 9 0)] at h4
  have h6 : sGive B 0 (B 1 0) ≤ sLimb B 0 := h4
  unfold sAll
  omega
theorem sSets_le {B : gB} (h : bV B) : sSets B ≤ 1188 := gsm_le (n := 12) (c := 99) (fun k hk => by
  split
  · rename_i ht; exact bv_f3 h hk ht
  · omega)
theorem sPull_le (B : gB) {x : Nat} (hx : x ≤ 40) : sPull B x ≤ 80000000 := by
  unfold sPull; omega
end
section
/-! BOW, READ ONLY: places, woods, what they give -/
set_option maxRecDepth 100000 in
set_option maxHeartbeats 4000000 in
theorem c_X0_has (q : gQ3) {M : gM} {B : gB} (hI : cI M B) {j : Nat} (hj : j < 12) : gCt (wC q) yX0_has cX0_has 2 (some .boolean) 0 [.ref (q.2.2 9), .ref (q.2.2 (15 + j))] M (gR (some (.int (gb (j % 6 < B 9 0)))) M) := by
  refine gMet RX0 (by decide +kernel) rfl (Nat.le_of_ble_eq_true rfl) (fun X hC => ?_)
  have hC : gC X (wC q) cX0_has 2 RX0 (some .boolean) 0 := hC
  show gG X (wC q) _ 2 M 0 [(0, .ref (q.2.2 9)), (1, .ref (q.2.2 (15 + j)))] []
  have hm := bv_many hI.2.2
  refine g_aload_n hC (gDec_at DX0_has_0 0 rfl) rfl ?_
  refine g_get (w := wC q) hC (15 + j) (v := .int (nI (j % 6 + 1))) fl_X0_49 (show 15 + j < 63 from by have := hj; omega) (cC_p0 q _ _ hj) (g_sv (ci_arm hI hj)) (gDec_at DX0_has_0 1 rfl) ?_
  refine g_aload_n hC (gDec_at DX0_has_0 2 rfl) rfl ?_
  refine g_get (w := wC q) hC 9 (v := .int (nI (B 9 0))) fl_X0_29 (show 9 < 63 from by decide) rfl (g_sv (ci_many hI)) (gDec_at DX0_has_0 3 rfl) ?_
  refine g_icmp_gtN hC (by omega) (by omega) (gDec_at DX0_has_0 4 rfl) 15 (by decide) (fun h8 => ?_) (fun h8 => ?_)
  · skip
    refine g_iconst hC (gDec_at DX0_has_0 7 rfl) (v := nI 0) (by decide) ?_
    refine g_zret hC (Or.inl rfl) (gDec_at DX0_has_0 8 rfl) ?_
    exact ⟨by rw [gb_f (show ¬ j % 6 < B 9 0 by omega)]; rfl, rfl⟩
  · skip
    refine g_iconst hC (gDec_at DX0_has_0 5 rfl) (v := nI 1) (by decide) ?_
    refine g_goto hC (gDec_at DX0_has_0 6 rfl) 16 (by decide) ?_
    refine g_zret hC (Or.inr rfl) (gDec_at DX0_has_0 8 rfl) ?_
    exact ⟨by rw [gb_t (show j % 6 < B 9 0 by omega)]; rfl, rfl⟩

set_option maxRecDepth 100000 in
set_option maxHeartbeats 4000000 in
theorem c_X6_quotient (q : gQ3) {M : gM} {a b : Nat} (ha : a < 9223372036854775808) (hb : b < 9223372036854775808) : gCt (wC q) yX6_quotient cX6_quotient 4 (some .long) 0 [.long (lN a), .long (lN b)] M (gR (some (.long (lN (a / b)))) M) := by
  refine gMet RX6 (by decide +kernel) rfl (Nat.le_of_ble_eq_true rfl) (fun X hC => ?_)
  have hC : gC X (wC q) cX6_quotient 4 RX6 (some .long) 0 := hC
  show gG X (wC q) _ 4 M 0 [(0, .long (lN a)), (2, .long (lN b))] []
  refine g_lload_n hC (gDec_at DX6_quotient_0 0 rfl) rfl ?_
  refine g_lconst hC (gDec_at DX6_quotient_0 1 rfl) (v := lN 0) (by decide) ?_
  refine g_lc_leN hC (by omega) (by omega) (gDec_at DX6_quotient_0 2 rfl) (gDec_at DX6_quotient_0 3 rfl) 12 (by decide) (fun h2 => ?_) (fun h2 => ?_)
  · skip
    refine g_lconst hC (gDec_at DX6_quotient_0 8 rfl) (v := lN 0) (by decide) ?_
    refine g_lret hC (gDec_at DX6_quotient_0 9 rfl) ?_
    exact ⟨by rw [show b = 0 by omega, Nat.div_zero], rfl⟩
  · skip
    refine g_lload_n hC (gDec_at DX6_quotient_0 4 rfl) rfl ?_
    refine g_lload_n hC (gDec_at DX6_quotient_0 5 rfl) rfl ?_
    refine g_ldivN hC (by omega) (by omega) (by omega) (gDec_at DX6_quotient_0 6 rfl) ?_
    refine g_goto hC (gDec_at DX6_quotient_0 7 rfl) 13 (by decide) ?_
    refine g_lret hC (gDec_at DX6_quotient_0 9 rfl) ?_
    exact ⟨rfl, rfl⟩

set_option maxRecDepth 100000 in
set_option maxHeartbeats 4000000 in
theorem c_X0_eOf (q : gQ3) {M : gM} {B : gB} (hI : cI M B) {j : Nat} (hj : j < 12) (ht : j % 6 < B 9 0) : gCt (wC q) yX0_eOf cX0_eOf 2 (some .long) 0 [.ref (q.2.2 9), .ref (q.2.2 (15 + j))] M (gR (some (.long (lN (B 6 (B 2 j))))) M) := by
  refine gMet RX0 (by decide +kernel) rfl (Nat.le_of_ble_eq_true rfl) (fun X hC => ?_)
  have hC : gC X (wC q) cX0_eOf 2 RX0 (some .long) 0 := hC
  show gG X (wC q) _ 2 M 0 [(0, .ref (q.2.2 9)), (1, .ref (q.2.2 (15 + j)))] []
  have h2 := bv_f2 hI.2.2 hj ht
  have he := bv_e hI.2.2 h2
  refine g_aload_n hC (gDec_at DX0_eOf_0 0 rfl) rfl ?_
  refine g_get (w := wC q) hC (15 + j) (v := .int (nI (B 2 j))) fl_X0_78 (show 15 + j < 63 from by have := hj; omega) (cC_p0 q _ _ hj) (g_sv (ci_f2 hI hj ht)) (gDec_at DX0_eOf_0 1 rfl) ?_
  refine g_if_ltN hC (by omega) (gDec_at DX0_eOf_0 2 rfl) ?_ 35 (by decide)
  refine g_aload_n hC (gDec_at DX0_eOf_0 3 rfl) rfl ?_
  refine g_get (w := wC q) hC (15 + j) (v := .int (nI (B 2 j))) fl_X0_78 (show 15 + j < 63 from by have := hj; omega) (cC_p0 q _ _ hj) (g_sv (ci_f2 hI hj ht)) (gDec_at DX0_eOf_0 4 rfl) ?_
  refine g_aload_n hC (gDec_at DX0_eOf_0 5 rfl) rfl ?_
  refine g_get (w := wC q) hC 9 (v := .ref (q.2.2 10)) fl_X0_14 (show 9 < 63 from by decide) rfl rfl (gDec_at DX0_eOf_0 6 rfl) ?_
  refine g_alen (w := wC q) hC 10 5 (show 10 < 63 from by decide) rfl rfl (gDec_at DX0_eOf_0 7 rfl) ?_
  refine g_icmp_geN hC (by omega) (by omega) (gDec_at DX0_eOf_0 8 rfl) 35 (by decide) (fun h16 => ?_) (fun h16 => ?_)
  · skip
    exact absurd h2 (by omega)
  · skip
    refine g_aload_n hC (gDec_at DX0_eOf_0 9 rfl) rfl ?_
    refine g_get (w := wC q) hC 9 (v := .ref (q.2.2 10)) fl_X0_14 (show 9 < 63 from by decide) rfl rfl (gDec_at DX0_eOf_0 10 rfl) ?_
    refine g_aload_n hC (gDec_at DX0_eOf_0 11 rfl) rfl ?_
    refine g_get (w := wC q) hC (15 + j) (v := .int (nI (B 2 j))) fl_X0_78 (show 15 + j < 63 from by have := hj; omega) (cC_p0 q _ _ hj) (g_sv (ci_f2 hI hj ht)) (gDec_at DX0_eOf_0 12 rfl) ?_
    refine g_aald (w := wC q) hC 10 5 (B 2 j) (a := q.2.2 (12 + (B 2 j))) (show 10 < 63 from by decide) rfl rfl h2 (by decide) rfl (gDec_at DX0_eOf_0 13 rfl) ?_
    refine g_get (w := wC q) hC (12 + (B 2 j)) (v := .int (nI (B 6 (B 2 j)))) fl_X0_59 (show 12 + (B 2 j) < 63 from by have := h2; omega) (cC_w0 q _ _ h2) (g_sv (ci_e hI h2)) (gDec_at DX0_eOf_0 14 rfl) ?_
    refine g_i2lN hC (by omega) (gDec_at DX0_eOf_0 15 rfl) ?_
    refine g_goto hC (gDec_at DX0_eOf_0 16 rfl) 36 (by decide) ?_
    refine g_lret hC (gDec_at DX0_eOf_0 18 rfl) ?_
    exact ⟨rfl, rfl⟩

set_option maxRecDepth 100000 in
set_option maxHeartbeats 4000000 in
theorem c_X0_giveAtDepth (q : gQ3) {M : gM} {B : gB} (hI : cI M B) {j : Nat} (hj : j < 12) (ht : j % 6 < B 9 0) {d : Nat} (hd : d ≤ 40) : gCt (wC q) yX0_giveAtDepth cX0_giveAtDepth 4 (some .long) 1 [.ref (q.2.2 9), .ref (q.2.2 (15 + j)), .long (lN d)] M (gR (some (.long (lN (sGive B j d)))) M) := by
  refine gMet RX0 (by decide +kernel) rfl (Nat.le_of_ble_eq_true rfl) (fun X hC => ?_)
  have hC : gC X (wC q) cX0_giveAtDepth 4 RX0 (some .long) 1 := hC
  show gG X (wC q) _ 4 M 0 [(0, .ref (q.2.2 9)), (1, .ref (q.2.2 (15 + j))), (2, .long (lN d))] []
  have h2 := bv_f2 hI.2.2 hj ht
  have he := bv_e hI.2.2 h2
  have h0 := bv_f0 hI.2.2 hj ht
  have hden := sDen_bd hI.2.2 hj ht hd
  have h3 : j % 6 + 1 ≤ 6 := by omega
  have hnum : 1000000000 * (j % 6 + 1) * (j % 6 + 1) ≤ 1000000000 * 6 * 6 := mul_bd (mul_bd (Nat.le_refl _) h3) h3
  refine g_ldc2 hC cl_X0_96 (v' := lN 1000000000) (by decide) (gDec_at DX0_giveAtDepth_0 0 rfl) ?_
  refine g_aload_n hC (gDec_at DX0_giveAtDepth_0 1 rfl) rfl ?_
  refine g_get (w := wC q) hC (15 + j) (v := .int (nI (j % 6 + 1))) fl_X0_49 (show 15 + j < 63 from by have := hj; omega) (cC_p0 q _ _ hj) (g_sv (ci_arm hI hj)) (gDec_at DX0_giveAtDepth_0 2 rfl) ?_
  refine g_i2lN hC (by omega) (gDec_at DX0_giveAtDepth_0 3 rfl) ?_
  refine g_lmulN hC (gDec_at DX0_giveAtDepth_0 4 rfl) ?_
  refine g_aload_n hC (gDec_at DX0_giveAtDepth_0 5 rfl) rfl ?_
  refine g_get (w := wC q) hC (15 + j) (v := .int (nI (j % 6 + 1))) fl_X0_49 (show 15 + j < 63 from by have := hj; omega) (cC_p0 q _ _ hj) (g_sv (ci_arm hI hj)) (gDec_at DX0_giveAtDepth_0 6 rfl) ?_
  refine g_i2lN hC (by omega) (gDec_at DX0_giveAtDepth_0 7 rfl) ?_
  refine g_lmulN hC (gDec_at DX0_giveAtDepth_0 8 rfl) ?_
  refine g_aload_n hC (gDec_at DX0_giveAtDepth_0 9 rfl) rfl ?_
  refine g_aload_n hC (gDec_at DX0_giveAtDepth_0 10 rfl) rfl ?_
  refine g_callVd (w := wC q) hC 9 (c_X0_eOf q hI hj ht) vf_X0_eOf ml_X0_98 (by decide) (show 9 < 63 from by decide) rfl rfl rfl rfl rfl (Nat.le_of_ble_eq_true rfl) (gDec_at DX0_giveAtDepth_0 11 rfl) ?_
  refine g_aload_n hC (gDec_at DX0_giveAtDepth_0 12 rfl) rfl ?_
  refine g_get (w := wC q) hC (15 + j) (v := .int (nI (B 0 j))) fl_X0_102 (show 15 + j < 63 from by have := hj; omega) (cC_p0 q _ _ hj) (g_sv (ci_f0 hI hj ht)) (gDec_at DX0_giveAtDepth_0 13 rfl) ?_
  refine g_i2lN hC (by omega) (gDec_at DX0_giveAtDepth_0 14 rfl) ?_
  refine g_lmulN hC (gDec_at DX0_giveAtDepth_0 15 rfl) ?_
  refine g_lload_n hC (gDec_at DX0_giveAtDepth_0 16 rfl) rfl ?_
  refine g_lmulN hC (gDec_at DX0_giveAtDepth_0 17 rfl) ?_
  refine g_lload_n hC (gDec_at DX0_giveAtDepth_0 18 rfl) rfl ?_
  refine g_lmulN hC (gDec_at DX0_giveAtDepth_0 19 rfl) ?_
  refine g_lload_n hC (gDec_at DX0_giveAtDepth_0 20 rfl) rfl ?_
  refine g_lmulN hC (gDec_at DX0_giveAtDepth_0 21 rfl) ?_
  refine g_callSNd (w := wC q) hC (c_X6_quotient q (by omega) (by omega)) sf_X6_quotient ml_X0_105 (by decide) rfl rfl (Nat.le_of_ble_eq_true rfl) (gDec_at DX0_giveAtDepth_0 22 rfl) ?_
  refine g_lret hC (gDec_at DX0_giveAtDepth_0 23 rfl) ?_
  exact ⟨rfl, rfl⟩

set_option maxRecDepth 100000 in
set_option maxHeartbeats 4000000 in
theorem c_X0_giveOf (q : gQ3) {M : gM} {B : gB} (hI : cI M B) {j : Nat} (hj : j < 12) (ht : j % 6 < B 9 0) : gCt (wC q) yX0_giveOf cX0_giveOf 2 (some .long) 2 [.ref (q.2.2 9), .ref (q.2.2 (15 + j))] M (gR (some (.long (lN (sGive B j (B 1 j))))) M) := by
  refine gMet RX0 (by decide +kernel) rfl (Nat.le_of_ble_eq_true rfl) (fun X hC => ?_)
  have hC : gC X (wC q) cX0_giveOf 2 RX0 (some .long) 2 := hC
  show gG X (wC q) _ 2 M 0 [(0, .ref (q.2.2 9)), (1, .ref (q.2.2 (15 + j)))] []
  have h1 := bv_f1 hI.2.2 hj ht
  refine g_aload_n hC (gDec_at DX0_giveOf_0 0 rfl) rfl ?_
  refine g_aload_n hC (gDec_at DX0_giveOf_0 1 rfl) rfl ?_
  refine g_aload_n hC (gDec_at DX0_giveOf_0 2 rfl) rfl ?_
  refine g_get (w := wC q) hC (15 + j) (v := .int (nI (B 1 j))) fl_X0_89 (show 15 + j < 63 from by have := hj; omega) (cC_p0 q _ _ hj) (g_sv (ci_f1 hI hj ht)) (gDec_at DX0_giveOf_0 3 rfl) ?_
  refine g_i2lN hC (by omega) (gDec_at DX0_giveOf_0 4 rfl) ?_
  refine g_callVd (w := wC q) hC 9 (c_X0_giveAtDepth q hI hj ht (by omega)) vf_X0_giveAtDepth ml_X0_92 (by decide) (show 9 < 63 from by decide) rfl rfl rfl rfl rfl (Nat.le_of_ble_eq_true rfl) (gDec_at DX0_giveOf_0 5 rfl) ?_
  refine g_lret hC (gDec_at DX0_giveOf_0 6 rfl) ?_
  exact ⟨rfl, rfl⟩

theorem limb_sum (B : gB) {l : Nat} (hl : l < 2) (hm : B 9 0 ≤ 6) : gsm (fun i => if i % 6 < B 9 0 ∧ i / 6 = l then sGive B i (B 1 i) else 0) 12 = sLimb B l := by
  rcases (show l = 0 ∨ l = 1 by omega) with rfl | rfl <;> simp [gsm, sLimb]
set_option maxRecDepth 100000 in
set_option maxHeartbeats 4000000 in
theorem c_X0_limbGives (q : gQ3) {M : gM} {B : gB} (hI : cI M B) {l : Nat} (hl : l < 2) : gCt (wC q) yX0_limbGives cX0_limbGives 8 (some .long) 3 [.ref (q.2.2 9), .int (nI l)] M (gR (some (.long (lN (sLimb B l)))) M) := by
  refine gMet RX0 (by decide +kernel) rfl (Nat.le_of_ble_eq_true rfl) (fun X hC => ?_)
  have hC : gC X (wC q) cX0_limbGives 8 RX0 (some .long) 3 := hC
  show gG X (wC q) _ 8 M 0 [(0, .ref (q.2.2 9)), (1, .int (nI l))] []
  have hm := bv_many hI.2.2
  refine g_lconst hC (gDec_at DX0_limbGives_0 0 rfl) (v := lN 0) (by decide) ?_
  refine g_lstore_n hC (gDec_at DX0_limbGives_0 1 rfl) (by decide) (L' := [(2, .long (lN 0)), (0, .ref (q.2.2 9)), (1, .int (nI l))]) rfl ?_
  refine g_aload_n hC (gDec_at DX0_limbGives_0 2 rfl) rfl ?_
  refine g_get (w := wC q) hC 9 (v := .ref (q.2.2 11)) fl_X0_22 (show 9 < 63 from by decide) rfl rfl (gDec_at DX0_limbGives_0 3 rfl) ?_
  refine g_astore hC (gDec_at DX0_limbGives_0 4 rfl) (by decide) (L' := [(4, .ref (q.2.2 11)), (2, .long (lN 0)), (0, .ref (q.2.2 9)), (1, .int (nI l))]) rfl ?_
  refine g_aload hC (gDec_at DX0_limbGives_0 5 rfl) rfl ?_
  refine g_alen (w := wC q) hC 11 3 (show 11 < 63 from by decide) rfl rfl (gDec_at DX0_limbGives_0 6 rfl) ?_
  refine g_istore hC (gDec_at DX0_limbGives_0 7 rfl) (by decide) (L' := [(5, .int (nI 12)), (4, .ref (q.2.2 11)), (2, .long (lN 0)), (0, .ref (q.2.2 9)), (1, .int (nI l))]) rfl ?_
  refine g_iconst hC (gDec_at DX0_limbGives_0 8 rfl) (v := nI 0) (by decide) ?_
  refine g_istore hC (gDec_at DX0_limbGives_0 9 rfl) (by decide) (L' := [(6, .int (nI 0)), (5, .int (nI 12)), (4, .ref (q.2.2 11)), (2, .long (lN 0)), (0, .ref (q.2.2 9)), (1, .int (nI l))]) rfl ?_
  have loop16 : ∀ (fu i : Nat), i ≤ 12 → 12 - i < fu → gG X (wC q) (gR (some (.long (lN (sLimb B l)))) M) 8 M 16 [(0, .ref (q.2.2 9)), (1, .int (nI l)), (2, .long (lN (gsm (fun i => if i % 6 < B 9 0 ∧ i / 6 = l then sGive B i (B 1 i) else 0) i))), (4, .ref (q.2.2 11)), (5, .int (nI 12)), (6, .int (nI i))] [] := by
    intro fu; induction fu with
    | zero => intro i h1 h2; omega
    | succ fu ih =>
      intro i hi hfu 
      refine g_iload hC (gDec_at DX0_limbGives_0 10 rfl) rfl ?_
      refine g_iload hC (gDec_at DX0_limbGives_0 11 rfl) rfl ?_
      refine g_icmp_geN hC (by omega) (by omega) (gDec_at DX0_limbGives_0 12 rfl) 63 (by decide) (fun h20 => ?_) (fun h20 => ?_)
      · skip
        obtain rfl : i = 12 := by omega
        rw [limb_sum B hl hm.2]
        refine g_lload_n hC (gDec_at DX0_limbGives_0 33 rfl) rfl ?_
        refine g_lret hC (gDec_at DX0_limbGives_0 34 rfl) ?_
        exact ⟨rfl, rfl⟩
      · skip
        refine g_aload hC (gDec_at DX0_limbGives_0 13 rfl) rfl ?_
        refine g_iload hC (gDec_at DX0_limbGives_0 14 rfl) rfl ?_
        refine g_aald (w := wC q) hC 11 3 i (a := q.2.2 (15 + i)) (show 11 < 63 from by decide) rfl rfl (by omega) (by decide) rfl (gDec_at DX0_limbGives_0 15 rfl) ?_
        refine g_astore hC (gDec_at DX0_limbGives_0 16 rfl) (by decide) (L' := [(7, .ref (q.2.2 (15 + i))), (0, .ref (q.2.2 9)), (1, .int (nI l)), (2, .long (lN (gsm (fun i => if i % 6 < B 9 0 ∧ i / 6 = l then sGive B i (B 1 i) else 0) i))), (4, .ref (q.2.2 11)), (5, .int (nI 12)), (6, .int (nI i))]) rfl ?_
        refine g_aload_n hC (gDec_at DX0_limbGives_0 17 rfl) rfl ?_
        refine g_aload hC (gDec_at DX0_limbGives_0 18 rfl) rfl ?_
        refine g_callVd (w := wC q) hC 9 (c_X0_has q hI (by omega)) vf_X0_has ml_X0_42 (by decide) (show 9 < 63 from by decide) rfl rfl rfl rfl rfl (Nat.le_of_ble_eq_true rfl) (gDec_at DX0_limbGives_0 19 rfl) ?_
        refine g_if_eqB hC (gDec_at DX0_limbGives_0 20 rfl) 57 (by decide) (fun h36 => ?_) (fun h36 => ?_)
        · skip
          refine g_iincN hC (gDec_at DX0_limbGives_0 31 rfl) rfl (by decide) (L' := [(6, .int (nI (i + 1))), (7, .ref (q.2.2 (15 + i))), (0, .ref (q.2.2 9)), (1, .int (nI l)), (2, .long (lN (gsm (fun i => if i % 6 < B 9 0 ∧ i / 6 = l then sGive B i (B 1 i) else 0) i))), (4, .ref (q.2.2 11)), (5, .int (nI 12))]) rfl ?_
          refine g_goto hC (gDec_at DX0_limbGives_0 32 rfl) 16 (by decide) ?_
          refine g_sub [2, 3, 4, 5, 6, 0] (L' := [(0, .ref (q.2.2 9)), (1, .int (nI l)), (2, .long (lN (gsm (fun i => if i % 6 < B 9 0 ∧ i / 6 = l then sGive B i (B 1 i) else 0) i))), (4, .ref (q.2.2 11)), (5, .int (nI 12)), (6, .int (nI (i + 1)))]) rfl ?_
          have h9 := ih (i + 1) (by omega) (by omega)
          rw [show gsm (fun i => if i % 6 < B 9 0 ∧ i / 6 = l then sGive B i (B 1 i) else 0) (i + 1) = gsm (fun i => if i % 6 < B 9 0 ∧ i / 6 = l then sGive B i (B 1 i) else 0) i from gsm_s0 (if_neg (fun z => h36 z.1))] at h9
          exact h9
        · skip
          refine g_aload hC (gDec_at DX0_limbGives_0 21 rfl) rfl ?_
          refine g_get (w := wC q) hC (15 + i) (v := .int (nI (i / 6))) fl_X0_46 (show 15 + i < 63 from by have := (by omega); omega) (cC_p0 q _ _ (by omega)) (g_sv (ci_side hI (by omega))) (gDec_at DX0_limbGives_0 22 rfl) ?_
          refine g_iload_n hC (gDec_at DX0_limbGives_0 23 rfl) rfl ?_
          refine g_icmp_neN hC (by omega) (by omega) (gDec_at DX0_limbGives_0 24 rfl) 57 (by decide) (fun h45 => ?_) (fun h45 => ?_)
          · skip
            refine g_iincN hC (gDec_at DX0_limbGives_0 31 rfl) rfl (by decide) (L' := [(6, .int (nI (i + 1))), (7, .ref (q.2.2 (15 + i))), (0, .ref (q.2.2 9)), (1, .int (nI l)), (2, .long (lN (gsm (fun i => if i % 6 < B 9 0 ∧ i / 6 = l then sGive B i (B 1 i) else 0) i))), (4, .ref (q.2.2 11)), (5, .int (nI 12))]) rfl ?_
            refine g_goto hC (gDec_at DX0_limbGives_0 32 rfl) 16 (by decide) ?_
            refine g_sub [2, 3, 4, 5, 6, 0] (L' := [(0, .ref (q.2.2 9)), (1, .int (nI l)), (2, .long (lN (gsm (fun i => if i % 6 < B 9 0 ∧ i / 6 = l then sGive B i (B 1 i) else 0) i))), (4, .ref (q.2.2 11)), (5, .int (nI 12)), (6, .int (nI (i + 1)))]) rfl ?_
            have h9 := ih (i + 1) (by omega) (by omega)
            rw [show gsm (fun i => if i % 6 < B 9 0 ∧ i / 6 = l then sGive B i (B 1 i) else 0) (i + 1) = gsm (fun i => if i % 6 < B 9 0 ∧ i / 6 = l then sGive B i (B 1 i) else 0) i from gsm_s0 (if_neg (fun z => h45 z.2))] at h9
            exact h9
          · skip
            refine g_lload_n hC (gDec_at DX0_limbGives_0 25 rfl) rfl ?_
            refine g_aload_n hC (gDec_at DX0_limbGives_0 26 rfl) rfl ?_
            refine g_aload hC (gDec_at DX0_limbGives_0 27 rfl) rfl ?_
            refine g_callVd (w := wC q) hC 9 (c_X0_giveOf q hI (by omega) (by omega)) vf_X0_giveOf ml_X0_109 (by decide) (show 9 < 63 from by decide) rfl rfl rfl rfl rfl (Nat.le_of_ble_eq_true rfl) (gDec_at DX0_limbGives_0 28 rfl) ?_
            refine g_laddN hC (gDec_at DX0_limbGives_0 29 rfl) ?_
            refine g_lstore_n hC (gDec_at DX0_limbGives_0 30 rfl) (by decide) (L' := [(2, .long (lN ((gsm (fun i => if i % 6 < B 9 0 ∧ i / 6 = l then sGive B i (B 1 i) else 0) i) + (sGive B i (B 1 i))))), (7, .ref (q.2.2 (15 + i))), (0, .ref (q.2.2 9)), (1, .int (nI l)), (4, .ref (q.2.2 11)), (5, .int (nI 12)), (6, .int (nI i))]) rfl ?_
            refine g_iincN hC (gDec_at DX0_limbGives_0 31 rfl) rfl (by decide) (L' := [(6, .int (nI (i + 1))), (2, .long (lN ((gsm (fun i => if i % 6 < B 9 0 ∧ i / 6 = l then sGive B i (B 1 i) else 0) i) + (sGive B i (B 1 i))))), (7, .ref (q.2.2 (15 + i))), (0, .ref (q.2.2 9)), (1, .int (nI l)), (4, .ref (q.2.2 11)), (5, .int (nI 12))]) rfl ?_
            refine g_goto hC (gDec_at DX0_limbGives_0 32 rfl) 16 (by decide) ?_
            refine g_sub [3, 4, 1, 5, 6, 0] (L' := [(0, .ref (q.2.2 9)), (1, .int (nI l)), (2, .long (lN ((gsm (fun i => if i % 6 < B 9 0 ∧ i / 6 = l then sGive B i (B 1 i) else 0) i) + (sGive B i (B 1 i))))), (4, .ref (q.2.2 11)), (5, .int (nI 12)), (6, .int (nI (i + 1)))]) rfl ?_
            have h9 := ih (i + 1) (by omega) (by omega)
            rw [show gsm (fun i => if i % 6 < B 9 0 ∧ i / 6 = l then sGive B i (B 1 i) else 0) (i + 1) = gsm (fun i => if i % 6 < B 9 0 ∧ i / 6 = l then sGive B i (B 1 i) else 0) i + sGive B i (B 1 i) from gsm_s (if_pos ⟨h36, h45⟩)] at h9
            exact h9
  exact g_sub [4, 5, 3, 2, 1, 0] rfl (loop16 (12 + 1 - 0) 0 (by omega) (by omega))

set_option maxRecDepth 100000 in
set_option maxHeartbeats 4000000 in
theorem c_X0_allGives (q : gQ3) {M : gM} {B : gB} (hI : cI M B) : gCt (wC q) yX0_allGives cX0_allGives 1 (some .long) 4 [.ref (q.2.2 9)] M (gR (some (.long (lN (sAll B)))) M) := by
  refine gMet RX0 (by decide +kernel) rfl (Nat.le_of_ble_eq_true rfl) (fun X hC => ?_)
  have hC : gC X (wC q) cX0_allGives 1 RX0 (some .long) 4 := hC
  show gG X (wC q) _ 1 M 0 [(0, .ref (q.2.2 9))] []
  refine g_aload_n hC (gDec_at DX0_allGives_0 0 rfl) rfl ?_
  refine g_iconst hC (gDec_at DX0_allGives_0 1 rfl) (v := nI 0) (by decide) ?_
  refine g_callVd (w := wC q) hC 9 (c_X0_limbGives q hI (l := 0) (by omega)) vf_X0_limbGives ml_X0_112 (by decide) (show 9 < 63 from by decide) rfl rfl rfl rfl rfl (Nat.le_of_ble_eq_true rfl) (gDec_at DX0_allGives_0 2 rfl) ?_
  refine g_aload_n hC (gDec_at DX0_allGives_0 3 rfl) rfl ?_
  refine g_iconst hC (gDec_at DX0_allGives_0 4 rfl) (v := nI 1) (by decide) ?_
  refine g_callVd (w := wC q) hC 9 (c_X0_limbGives q hI (l := 1) (by omega)) vf_X0_limbGives ml_X0_112 (by decide) (show 9 < 63 from by decide) rfl rfl rfl rfl rfl (Nat.le_of_ble_eq_true rfl) (gDec_at DX0_allGives_0 5 rfl) ?_
  refine g_laddN hC (gDec_at DX0_allGives_0 6 rfl) ?_
  refine g_lret hC (gDec_at DX0_allGives_0 7 rfl) ?_
  exact ⟨rfl, rfl⟩

set_option maxRecDepth 100000 in
set_option maxHeartbeats 4000000 in
theorem c_X0_allSets (q : gQ3) {M : gM} {B : gB} (hI : cI M B) : gCt (wC q) yX0_allSets cX0_allSets 6 (some .int) 1 [.ref (q.2.2 9)] M (gR (some (.int (nI (sSets B)))) M) := by
  refine gMet RX0 (by decide +kernel) rfl (Nat.le_of_ble_eq_true rfl) (fun X hC => ?_)
  have hC : gC X (wC q) cX0_allSets 6 RX0 (some .int) 1 := hC
  show gG X (wC q) _ 6 M 0 [(0, .ref (q.2.2 9))] []
  have hm := bv_many hI.2.2
  refine g_iconst hC (gDec_at DX0_allSets_0 0 rfl) (v := nI 0) (by decide) ?_
  refine g_istore_n hC (gDec_at DX0_allSets_0 1 rfl) (by decide) (L' := [(1, .int (nI 0)), (0, .ref (q.2.2 9))]) rfl ?_
  refine g_aload_n hC (gDec_at DX0_allSets_0 2 rfl) rfl ?_
  refine g_get (w := wC q) hC 9 (v := .ref (q.2.2 11)) fl_X0_22 (show 9 < 63 from by decide) rfl rfl (gDec_at DX0_allSets_0 3 rfl) ?_
  refine g_astore_n hC (gDec_at DX0_allSets_0 4 rfl) (by decide) (L' := [(2, .ref (q.2.2 11)), (1, .int (nI 0)), (0, .ref (q.2.2 9))]) rfl ?_
  refine g_aload_n hC (gDec_at DX0_allSets_0 5 rfl) rfl ?_
  refine g_alen (w := wC q) hC 11 3 (show 11 < 63 from by decide) rfl rfl (gDec_at DX0_allSets_0 6 rfl) ?_
  refine g_istore_n hC (gDec_at DX0_allSets_0 7 rfl) (by decide) (L' := [(3, .int (nI 12)), (2, .ref (q.2.2 11)), (1, .int (nI 0)), (0, .ref (q.2.2 9))]) rfl ?_
  refine g_iconst hC (gDec_at DX0_allSets_0 8 rfl) (v := nI 0) (by decide) ?_
  refine g_istore hC (gDec_at DX0_allSets_0 9 rfl) (by decide) (L' := [(4, .int (nI 0)), (3, .int (nI 12)), (2, .ref (q.2.2 11)), (1, .int (nI 0)), (0, .ref (q.2.2 9))]) rfl ?_
  have loop13 : ∀ (fu i : Nat), i ≤ 12 → 12 - i < fu → gG X (wC q) (gR (some (.int (nI (sSets B)))) M) 6 M 13 [(0, .ref (q.2.2 9)), (1, .int (nI (gsm (fun j => if j % 6 < B 9 0 then B 3 j else 0) i))), (2, .ref (q.2.2 11)), (3, .int (nI 12)), (4, .int (nI i))] [] := by
    intro fu; induction fu with
    | zero => intro i h1 h2; omega
    | succ fu ih =>
      intro i hi hfu 
      refine g_iload hC (gDec_at DX0_allSets_0 10 rfl) rfl ?_
      refine g_iload_n hC (gDec_at DX0_allSets_0 11 rfl) rfl ?_
      refine g_icmp_geN hC (by omega) (by omega) (gDec_at DX0_allSets_0 12 rfl) 48 (by decide) (fun h16 => ?_) (fun h16 => ?_)
      · skip
        obtain rfl : i = 12 := by omega
        refine g_iload_n hC (gDec_at DX0_allSets_0 28 rfl) rfl ?_
        refine g_iret hC (gDec_at DX0_allSets_0 29 rfl) ?_
        exact ⟨rfl, rfl⟩
      · skip
        refine g_aload_n hC (gDec_at DX0_allSets_0 13 rfl) rfl ?_
        refine g_iload hC (gDec_at DX0_allSets_0 14 rfl) rfl ?_
        refine g_aald (w := wC q) hC 11 3 i (a := q.2.2 (15 + i)) (show 11 < 63 from by decide) rfl rfl (by omega) (by decide) rfl (gDec_at DX0_allSets_0 15 rfl) ?_
        refine g_astore hC (gDec_at DX0_allSets_0 16 rfl) (by decide) (L' := [(5, .ref (q.2.2 (15 + i))), (0, .ref (q.2.2 9)), (1, .int (nI (gsm (fun j => if j % 6 < B 9 0 then B 3 j else 0) i))), (2, .ref (q.2.2 11)), (3, .int (nI 12)), (4, .int (nI i))]) rfl ?_
        refine g_aload_n hC (gDec_at DX0_allSets_0 17 rfl) rfl ?_
        refine g_aload hC (gDec_at DX0_allSets_0 18 rfl) rfl ?_
        refine g_callVd (w := wC q) hC 9 (c_X0_has q hI (by omega)) vf_X0_has ml_X0_42 (by decide) (show 9 < 63 from by decide) rfl rfl rfl rfl rfl (Nat.le_of_ble_eq_true rfl) (gDec_at DX0_allSets_0 19 rfl) ?_
        refine g_if_eqB hC (gDec_at DX0_allSets_0 20 rfl) 42 (by decide) (fun h31 => ?_) (fun h31 => ?_)
        · skip
          refine g_iincN hC (gDec_at DX0_allSets_0 26 rfl) rfl (by decide) (L' := [(4, .int (nI (i + 1))), (5, .ref (q.2.2 (15 + i))), (0, .ref (q.2.2 9)), (1, .int (nI (gsm (fun j => if j % 6 < B 9 0 then B 3 j else 0) i))), (2, .ref (q.2.2 11)), (3, .int (nI 12))]) rfl ?_
          refine g_goto hC (gDec_at DX0_allSets_0 27 rfl) 13 (by decide) ?_
          refine g_sub [2, 3, 4, 5, 0] (L' := [(0, .ref (q.2.2 9)), (1, .int (nI (gsm (fun j => if j % 6 < B 9 0 then B 3 j else 0) i))), (2, .ref (q.2.2 11)), (3, .int (nI 12)), (4, .int (nI (i + 1)))]) rfl ?_
          have h9 := ih (i + 1) (by omega) (by omega)
          rw [show gsm (fun j => if j % 6 < B 9 0 then B 3 j else 0) (i + 1) = gsm (fun j => if j % 6 < B 9 0 then B 3 j else 0) i from gsm_s0 (if_neg h31)] at h9
          exact h9
        · skip
          refine g_iload_n hC (gDec_at DX0_allSets_0 21 rfl) rfl ?_
          refine g_aload hC (gDec_at DX0_allSets_0 22 rfl) rfl ?_
          refine g_get (w := wC q) hC (15 + i) (v := .int (nI (B 3 i))) fl_X0_146 (show 15 + i < 63 from by have := (by omega); omega) (cC_p0 q _ _ (by omega)) (g_sv (ci_f3 hI (by omega) (by omega))) (gDec_at DX0_allSets_0 23 rfl) ?_
          refine g_iaddN hC (gDec_at DX0_allSets_0 24 rfl) ?_
          refine g_istore_n hC (gDec_at DX0_allSets_0 25 rfl) (by decide) (L' := [(1, .int (nI ((gsm (fun j => if j % 6 < B 9 0 then B 3 j else 0) i) + (B 3 i)))), (5, .ref (q.2.2 (15 + i))), (0, .ref (q.2.2 9)), (2, .ref (q.2.2 11)), (3, .int (nI 12)), (4, .int (nI i))]) rfl ?_
          refine g_iincN hC (gDec_at DX0_allSets_0 26 rfl) rfl (by decide) (L' := [(4, .int (nI (i + 1))), (1, .int (nI ((gsm (fun j => if j % 6 < B 9 0 then B 3 j else 0) i) + (B 3 i)))), (5, .ref (q.2.2 (15 + i))), (0, .ref (q.2.2 9)), (2, .ref (q.2.2 11)), (3, .int (nI 12))]) rfl ?_
          refine g_goto hC (gDec_at DX0_allSets_0 27 rfl) 13 (by decide) ?_
          refine g_sub [3, 1, 4, 5, 0] (L' := [(0, .ref (q.2.2 9)), (1, .int (nI ((gsm (fun j => if j % 6 < B 9 0 then B 3 j else 0) i) + (B 3 i)))), (2, .ref (q.2.2 11)), (3, .int (nI 12)), (4, .int (nI (i + 1)))]) rfl ?_
          have h9 := ih (i + 1) (by omega) (by omega)
          rw [show gsm (fun j => if j % 6 < B 9 0 then B 3 j else 0) (i + 1) = gsm (fun j => if j % 6 < B 9 0 then B 3 j else 0) i + B 3 i from gsm_s (if_pos h31)] at h9
          exact h9
  exact g_sub [4, 3, 2, 1, 0] rfl (loop13 (12 + 1 - 0) 0 (by omega) (by omega))

def sSeen (B : gB) : Nat := gsm (fun j => if j % 6 < B 9 0 then B 5 j else 0) 12
def sKnots (B : gB) : Nat := gsm (fun j => if j % 6 < B 9 0 then B 4 j else 0) 12
set_option maxRecDepth 100000 in
set_option maxHeartbeats 4000000 in
theorem c_X0_allSeen (q : gQ3) {M : gM} {B : gB} (hI : cI M B) : gCt (wC q) yX0_allSeen cX0_allSeen 6 (some .int) 1 [.ref (q.2.2 9)] M (gR (some (.int (nI (sSeen B)))) M) := by
  refine gMet RX0 (by decide +kernel) rfl (Nat.le_of_ble_eq_true rfl) (fun X hC => ?_)
  have hC : gC X (wC q) cX0_allSeen 6 RX0 (some .int) 1 := hC
  show gG X (wC q) _ 6 M 0 [(0, .ref (q.2.2 9))] []
  have hm := bv_many hI.2.2
  refine g_iconst hC (gDec_at DX0_allSeen_0 0 rfl) (v := nI 0) (by decide) ?_
  refine g_istore_n hC (gDec_at DX0_allSeen_0 1 rfl) (by decide) (L' := [(1, .int (nI 0)), (0, .ref (q.2.2 9))]) rfl ?_
  refine g_aload_n hC (gDec_at DX0_allSeen_0 2 rfl) rfl ?_
  refine g_get (w := wC q) hC 9 (v := .ref (q.2.2 11)) fl_X0_22 (show 9 < 63 from by decide) rfl rfl (gDec_at DX0_allSeen_0 3 rfl) ?_
  refine g_astore_n hC (gDec_at DX0_allSeen_0 4 rfl) (by decide) (L' := [(2, .ref (q.2.2 11)), (1, .int (nI 0)), (0, .ref (q.2.2 9))]) rfl ?_
  refine g_aload_n hC (gDec_at DX0_allSeen_0 5 rfl) rfl ?_
  refine g_alen (w := wC q) hC 11 3 (show 11 < 63 from by decide) rfl rfl (gDec_at DX0_allSeen_0 6 rfl) ?_
  refine g_istore_n hC (gDec_at DX0_allSeen_0 7 rfl) (by decide) (L' := [(3, .int (nI 12)), (2, .ref (q.2.2 11)), (1, .int (nI 0)), (0, .ref (q.2.2 9))]) rfl ?_
  refine g_iconst hC (gDec_at DX0_allSeen_0 8 rfl) (v := nI 0) (by decide) ?_
  refine g_istore hC (gDec_at DX0_allSeen_0 9 rfl) (by decide) (L' := [(4, .int (nI 0)), (3, .int (nI 12)), (2, .ref (q.2.2 11)), (1, .int (nI 0)), (0, .ref (q.2.2 9))]) rfl ?_
  have loop13 : ∀ (fu i : Nat), i ≤ 12 → 12 - i < fu → gG X (wC q) (gR (some (.int (nI (sSeen B)))) M) 6 M 13 [(0, .ref (q.2.2 9)), (1, .int (nI (gsm (fun j => if j % 6 < B 9 0 then B 5 j else 0) i))), (2, .ref (q.2.2 11)), (3, .int (nI 12)), (4, .int (nI i))] [] := by
    intro fu; induction fu with
    | zero => intro i h1 h2; omega
    | succ fu ih =>
      intro i hi hfu 
      refine g_iload hC (gDec_at DX0_allSeen_0 10 rfl) rfl ?_
      refine g_iload_n hC (gDec_at DX0_allSeen_0 11 rfl) rfl ?_
      refine g_icmp_geN hC (by omega) (by omega) (gDec_at DX0_allSeen_0 12 rfl) 48 (by decide) (fun h16 => ?_) (fun h16 => ?_)
      · skip
        obtain rfl : i = 12 := by omega
        refine g_iload_n hC (gDec_at DX0_allSeen_0 28 rfl) rfl ?_
        refine g_iret hC (gDec_at DX0_allSeen_0 29 rfl) ?_
        exact ⟨rfl, rfl⟩
      · skip
        refine g_aload_n hC (gDec_at DX0_allSeen_0 13 rfl) rfl ?_
        refine g_iload hC (gDec_at DX0_allSeen_0 14 rfl) rfl ?_
        refine g_aald (w := wC q) hC 11 3 i (a := q.2.2 (15 + i)) (show 11 < 63 from by decide) rfl rfl (by omega) (by decide) rfl (gDec_at DX0_allSeen_0 15 rfl) ?_
        refine g_astore hC (gDec_at DX0_allSeen_0 16 rfl) (by decide) (L' := [(5, .ref (q.2.2 (15 + i))), (0, .ref (q.2.2 9)), (1, .int (nI (gsm (fun j => if j % 6 < B 9 0 then B 5 j else 0) i))), (2, .ref (q.2.2 11)), (3, .int (nI 12)), (4, .int (nI i))]) rfl ?_
        refine g_aload_n hC (gDec_at DX0_allSeen_0 17 rfl) rfl ?_
        refine g_aload hC (gDec_at DX0_allSeen_0 18 rfl) rfl ?_
        refine g_callVd (w := wC q) hC 9 (c_X0_has q hI (by omega)) vf_X0_has ml_X0_42 (by decide) (show 9 < 63 from by decide) rfl rfl rfl rfl rfl (Nat.le_of_ble_eq_true rfl) (gDec_at DX0_allSeen_0 19 rfl) ?_
        refine g_if_eqB hC (gDec_at DX0_allSeen_0 20 rfl) 42 (by decide) (fun h31 => ?_) (fun h31 => ?_)
        · skip
          refine g_iincN hC (gDec_at DX0_allSeen_0 26 rfl) rfl (by decide) (L' := [(4, .int (nI (i + 1))), (5, .ref (q.2.2 (15 + i))), (0, .ref (q.2.2 9)), (1, .int (nI (gsm (fun j => if j % 6 < B 9 0 then B 5 j else 0) i))), (2, .ref (q.2.2 11)), (3, .int (nI 12))]) rfl ?_
          refine g_goto hC (gDec_at DX0_allSeen_0 27 rfl) 13 (by decide) ?_
          refine g_sub [2, 3, 4, 5, 0] (L' := [(0, .ref (q.2.2 9)), (1, .int (nI (gsm (fun j => if j % 6 < B 9 0 then B 5 j else 0) i))), (2, .ref (q.2.2 11)), (3, .int (nI 12)), (4, .int (nI (i + 1)))]) rfl ?_
          have h9 := ih (i + 1) (by omega) (by omega)
          rw [show gsm (fun j => if j % 6 < B 9 0 then B 5 j else 0) (i + 1) = gsm (fun j => if j % 6 < B 9 0 then B 5 j else 0) i from gsm_s0 (if_neg h31)] at h9
          exact h9
        · skip
          refine g_iload_n hC (gDec_at DX0_allSeen_0 21 rfl) rfl ?_
          refine g_aload hC (gDec_at DX0_allSeen_0 22 rfl) rfl ?_
          refine g_get (w := wC q) hC (15 + i) (v := .int (nI (B 5 i))) fl_X0_173 (show 15 + i < 63 from by have := (by omega); omega) (cC_p0 q _ _ (by omega)) (g_sv (ci_f5 hI (by omega) (by omega))) (gDec_at DX0_allSeen_0 23 rfl) ?_
          refine g_iaddN hC (gDec_at DX0_allSeen_0 24 rfl) ?_
          refine g_istore_n hC (gDec_at DX0_allSeen_0 25 rfl) (by decide) (L' := [(1, .int (nI ((gsm (fun j => if j % 6 < B 9 0 then B 5 j else 0) i) + (B 5 i)))), (5, .ref (q.2.2 (15 + i))), (0, .ref (q.2.2 9)), (2, .ref (q.2.2 11)), (3, .int (nI 12)), (4, .int (nI i))]) rfl ?_
          refine g_iincN hC (gDec_at DX0_allSeen_0 26 rfl) rfl (by decide) (L' := [(4, .int (nI (i + 1))), (1, .int (nI ((gsm (fun j => if j % 6 < B 9 0 then B 5 j else 0) i) + (B 5 i)))), (5, .ref (q.2.2 (15 + i))), (0, .ref (q.2.2 9)), (2, .ref (q.2.2 11)), (3, .int (nI 12))]) rfl ?_
          refine g_goto hC (gDec_at DX0_allSeen_0 27 rfl) 13 (by decide) ?_
          refine g_sub [3, 1, 4, 5, 0] (L' := [(0, .ref (q.2.2 9)), (1, .int (nI ((gsm (fun j => if j % 6 < B 9 0 then B 5 j else 0) i) + (B 5 i)))), (2, .ref (q.2.2 11)), (3, .int (nI 12)), (4, .int (nI (i + 1)))]) rfl ?_
          have h9 := ih (i + 1) (by omega) (by omega)
          rw [show gsm (fun j => if j % 6 < B 9 0 then B 5 j else 0) (i + 1) = gsm (fun j => if j % 6 < B 9 0 then B 5 j else 0) i + B 5 i from gsm_s (if_pos h31)] at h9
          exact h9
  exact g_sub [4, 3, 2, 1, 0] rfl (loop13 (12 + 1 - 0) 0 (by omega) (by omega))

set_option maxRecDepth 100000 in
set_option maxHeartbeats 4000000 in
theorem c_X0_allKnots (q : gQ3) {M : gM} {B : gB} (hI : cI M B) : gCt (wC q) yX0_allKnots cX0_allKnots 6 (some .int) 1 [.ref (q.2.2 9)] M (gR (some (.int (nI (sKnots B)))) M) := by
  refine gMet RX0 (by decide +kernel) rfl (Nat.le_of_ble_eq_true rfl) (fun X hC => ?_)
  have hC : gC X (wC q) cX0_allKnots 6 RX0 (some .int) 1 := hC
  show gG X (wC q) _ 6 M 0 [(0, .ref (q.2.2 9))] []
  have hm := bv_many hI.2.2
  refine g_iconst hC (gDec_at DX0_allKnots_0 0 rfl) (v := nI 0) (by decide) ?_
  refine g_istore_n hC (gDec_at DX0_allKnots_0 1 rfl) (by decide) (L' := [(1, .int (nI 0)), (0, .ref (q.2.2 9))]) rfl ?_
  refine g_aload_n hC (gDec_at DX0_allKnots_0 2 rfl) rfl ?_
  refine g_get (w := wC q) hC 9 (v := .ref (q.2.2 11)) fl_X0_22 (show 9 < 63 from by decide) rfl rfl (gDec_at DX0_allKnots_0 3 rfl) ?_
  refine g_astore_n hC (gDec_at DX0_allKnots_0 4 rfl) (by decide) (L' := [(2, .ref (q.2.2 11)), (1, .int (nI 0)), (0, .ref (q.2.2 9))]) rfl ?_
  refine g_aload_n hC (gDec_at DX0_allKnots_0 5 rfl) rfl ?_
  refine g_alen (w := wC q) hC 11 3 (show 11 < 63 from by decide) rfl rfl (gDec_at DX0_allKnots_0 6 rfl) ?_
  refine g_istore_n hC (gDec_at DX0_allKnots_0 7 rfl) (by decide) (L' := [(3, .int (nI 12)), (2, .ref (q.2.2 11)), (1, .int (nI 0)), (0, .ref (q.2.2 9))]) rfl ?_
  refine g_iconst hC (gDec_at DX0_allKnots_0 8 rfl) (v := nI 0) (by decide) ?_
  refine g_istore hC (gDec_at DX0_allKnots_0 9 rfl) (by decide) (L' := [(4, .int (nI 0)), (3, .int (nI 12)), (2, .ref (q.2.2 11)), (1, .int (nI 0)), (0, .ref (q.2.2 9))]) rfl ?_
  have loop13 : ∀ (fu i : Nat), i ≤ 12 → 12 - i < fu → gG X (wC q) (gR (some (.int (nI (sKnots B)))) M) 6 M 13 [(0, .ref (q.2.2 9)), (1, .int (nI (gsm (fun j => if j % 6 < B 9 0 then B 4 j else 0) i))), (2, .ref (q.2.2 11)), (3, .int (nI 12)), (4, .int (nI i))] [] := by
    intro fu; induction fu with
    | zero => intro i h1 h2; omega
    | succ fu ih =>
      intro i hi hfu 
      refine g_iload hC (gDec_at DX0_allKnots_0 10 rfl) rfl ?_
      refine g_iload_n hC (gDec_at DX0_allKnots_0 11 rfl) rfl ?_
      refine g_icmp_geN hC (by omega) (by omega) (gDec_at DX0_allKnots_0 12 rfl) 51 (by decide) (fun h16 => ?_) (fun h16 => ?_)
      · skip
        obtain rfl : i = 12 := by omega
        refine g_iload_n hC (gDec_at DX0_allKnots_0 27 rfl) rfl ?_
        refine g_iret hC (gDec_at DX0_allKnots_0 28 rfl) ?_
        exact ⟨rfl, rfl⟩
      · skip
        refine g_aload_n hC (gDec_at DX0_allKnots_0 13 rfl) rfl ?_
        refine g_iload hC (gDec_at DX0_allKnots_0 14 rfl) rfl ?_
        refine g_aald (w := wC q) hC 11 3 i (a := q.2.2 (15 + i)) (show 11 < 63 from by decide) rfl rfl (by omega) (by decide) rfl (gDec_at DX0_allKnots_0 15 rfl) ?_
        refine g_astore hC (gDec_at DX0_allKnots_0 16 rfl) (by decide) (L' := [(5, .ref (q.2.2 (15 + i))), (0, .ref (q.2.2 9)), (1, .int (nI (gsm (fun j => if j % 6 < B 9 0 then B 4 j else 0) i))), (2, .ref (q.2.2 11)), (3, .int (nI 12)), (4, .int (nI i))]) rfl ?_
        refine g_aload_n hC (gDec_at DX0_allKnots_0 17 rfl) rfl ?_
        refine g_aload hC (gDec_at DX0_allKnots_0 18 rfl) rfl ?_
        refine g_callVd (w := wC q) hC 9 (c_X0_has q hI (by omega)) vf_X0_has ml_X0_42 (by decide) (show 9 < 63 from by decide) rfl rfl rfl rfl rfl (Nat.le_of_ble_eq_true rfl) (gDec_at DX0_allKnots_0 19 rfl) ?_
        refine g_if_eqB hC (gDec_at DX0_allKnots_0 20 rfl) 45 (by decide) (fun h31 => ?_) (fun h31 => ?_)
        · skip
          refine g_iincN hC (gDec_at DX0_allKnots_0 25 rfl) rfl (by decide) (L' := [(4, .int (nI (i + 1))), (5, .ref (q.2.2 (15 + i))), (0, .ref (q.2.2 9)), (1, .int (nI (gsm (fun j => if j % 6 < B 9 0 then B 4 j else 0) i))), (2, .ref (q.2.2 11)), (3, .int (nI 12))]) rfl ?_
          refine g_goto hC (gDec_at DX0_allKnots_0 26 rfl) 13 (by decide) ?_
          refine g_sub [2, 3, 4, 5, 0] (L' := [(0, .ref (q.2.2 9)), (1, .int (nI (gsm (fun j => if j % 6 < B 9 0 then B 4 j else 0) i))), (2, .ref (q.2.2 11)), (3, .int (nI 12)), (4, .int (nI (i + 1)))]) rfl ?_
          have h9 := ih (i + 1) (by omega) (by omega)
          rw [show gsm (fun j => if j % 6 < B 9 0 then B 4 j else 0) (i + 1) = gsm (fun j => if j % 6 < B 9 0 then B 4 j else 0) i from gsm_s0 (if_neg h31)] at h9
          exact h9
        · skip
          refine g_aload hC (gDec_at DX0_allKnots_0 21 rfl) rfl ?_
          refine g_get (w := wC q) hC (15 + i) (v := .int (nI (B 4 i))) fl_X0_85 (show 15 + i < 63 from by have := (by omega); omega) (cC_p0 q _ _ (by omega)) (g_sv (ci_f4 hI (by omega) (by omega))) (gDec_at DX0_allKnots_0 22 rfl) ?_
          refine g_if_eqN hC (by have := bv_f4 hI.2.2 (by omega : i < 12) h31; omega) (gDec_at DX0_allKnots_0 23 rfl) 45 (by decide) (fun h39 => ?_) (fun h39 => ?_)
          · skip
            refine g_iincN hC (gDec_at DX0_allKnots_0 25 rfl) rfl (by decide) (L' := [(4, .int (nI (i + 1))), (5, .ref (q.2.2 (15 + i))), (0, .ref (q.2.2 9)), (1, .int (nI (gsm (fun j => if j % 6 < B 9 0 then B 4 j else 0) i))), (2, .ref (q.2.2 11)), (3, .int (nI 12))]) rfl ?_
            refine g_goto hC (gDec_at DX0_allKnots_0 26 rfl) 13 (by decide) ?_
            refine g_sub [2, 3, 4, 5, 0] (L' := [(0, .ref (q.2.2 9)), (1, .int (nI (gsm (fun j => if j % 6 < B 9 0 then B 4 j else 0) i))), (2, .ref (q.2.2 11)), (3, .int (nI 12)), (4, .int (nI (i + 1)))]) rfl ?_
            have h9 := ih (i + 1) (by omega) (by omega)
            rw [show gsm (fun j => if j % 6 < B 9 0 then B 4 j else 0) (i + 1) = gsm (fun j => if j % 6 < B 9 0 then B 4 j else 0) i from gsm_s0 ((if_pos h31).trans h39)] at h9
            exact h9
          · skip
            refine g_iincN hC (gDec_at DX0_allKnots_0 24 rfl) rfl (by decide) (L' := [(1, .int (nI (gsm (fun j => if j % 6 < B 9 0 then B 4 j else 0) i + 1))), (5, .ref (q.2.2 (15 + i))), (0, .ref (q.2.2 9)), (2, .ref (q.2.2 11)), (3, .int (nI 12)), (4, .int (nI i))]) rfl ?_
            refine g_iincN hC (gDec_at DX0_allKnots_0 25 rfl) rfl (by decide) (L' := [(4, .int (nI (i + 1))), (1, .int (nI (gsm (fun j => if j % 6 < B 9 0 then B 4 j else 0) i + 1))), (5, .ref (q.2.2 (15 + i))), (0, .ref (q.2.2 9)), (2, .ref (q.2.2 11)), (3, .int (nI 12))]) rfl ?_
            refine g_goto hC (gDec_at DX0_allKnots_0 26 rfl) 13 (by decide) ?_
            refine g_sub [3, 1, 4, 5, 0] (L' := [(0, .ref (q.2.2 9)), (1, .int (nI (gsm (fun j => if j % 6 < B 9 0 then B 4 j else 0) i + 1))), (2, .ref (q.2.2 11)), (3, .int (nI 12)), (4, .int (nI (i + 1)))]) rfl ?_
            have h9 := ih (i + 1) (by omega) (by omega)
            rw [show gsm (fun j => if j % 6 < B 9 0 then B 4 j else 0) (i + 1) = gsm (fun j => if j % 6 < B 9 0 then B 4 j else 0) i + 1 from gsm_s ((if_pos h31).trans (by have := bv_f4 hI.2.2 (by omega : i < 12) h31; omega))] at h9
            exact h9
  exact g_sub [4, 3, 2, 1, 0] rfl (loop13 (12 + 1 - 0) 0 (by omega) (by omega))

set_option maxRecDepth 100000 in
set_option maxHeartbeats 4000000 in
theorem c_X0_followed (q : gQ3) {M : gM} {B : gB} (hI : cI M B) : gCt (wC q) yX0_followed cX0_followed 1 (some .int) 2 [.ref (q.2.2 9)] M (gR (some (.int (nI (sSets B / 10)))) M) := by
  refine gMet RX0 (by decide +kernel) rfl (Nat.le_of_ble_eq_true rfl) (fun X hC => ?_)
  have hC : gC X (wC q) cX0_followed 1 RX0 (some .int) 2 := hC
  show gG X (wC q) _ 1 M 0 [(0, .ref (q.2.2 9))] []
  have hs := sSets_le hI.2.2
  refine g_aload_n hC (gDec_at DX0_followed_0 0 rfl) rfl ?_
  refine g_callVd (w := wC q) hC 9 (c_X0_allSets q hI) vf_X0_allSets ml_X0_116 (by decide) (show 9 < 63 from by decide) rfl rfl rfl rfl rfl (Nat.le_of_ble_eq_true rfl) (gDec_at DX0_followed_0 1 rfl) ?_
  refine g_bipush hC (gDec_at DX0_followed_0 2 rfl) (v := nI 10) (by decide) ?_
  refine g_idivN hC (by omega) (by omega) (by omega) (gDec_at DX0_followed_0 3 rfl) ?_
  refine g_iret hC (gDec_at DX0_followed_0 4 rfl) ?_
  exact ⟨rfl, rfl⟩

section JM
variable {X : gX} {w : gW} {post : Option Value → gM → Prop} {nL : Nat} {M : gM} {pc : Nat} {L : List (Nat × Value)} {st : List Value} {cc : ByteArray} {own : String} {ret : Option FieldType} {d idx : Nat}
theorem g_mmax (hlk : Cond.methodLink own idx Lib.Math.max.name ∈ gTb) (hC : gC X w cc nL own ret d) (hj : Cond.static Lib.Math.max.name ∈ gTb ∧ Cond.initialized "java/lang/Math" ∈ gTb ∧ Cond.code Lib.Math.max.name Lib.Math.max.code 2 (some .int) ∈ gTb) {x y v : Int32} (hd1 : 1 ≤ d) (hv : (if x < y then y else x) = v) (hcat : (st.map fun v => v.category).sum ≤ 8) (hd : decode cc pc = .ok (.invokestatic idx, 3)) (k : gG X w post nL M (pc + 3) L (.int v :: st)) : gG X w post nL M pc L (.int y :: .int x :: st) := by
  subst hv
  intro H locs ls hP hS hL
  have hts := hC.2.2.2.2.1
  have hr := hC.2.2.2.2.2.2.2.2.2.2
  exact va_mmax hC.1 hC.2.1 (by rw [hC.2.2.1]; exact hL.1.symm) hC.2.2.2.1 (hts _ hlk) (hts _ hj.1) (hts _ hj.2.1) (hts _ hj.2.2) (by omega) (by omega) (Nat.zero_le _) (Nat.zero_le _) hd (k H locs ls hP hS hL)
theorem g_mmin (hlk : Cond.methodLink own idx Lib.Math.min.name ∈ gTb) (hC : gC X w cc nL own ret d) (hj : Cond.static Lib.Math.min.name ∈ gTb ∧ Cond.initialized "java/lang/Math" ∈ gTb ∧ Cond.code Lib.Math.min.name Lib.Math.min.code 2 (some .int) ∈ gTb) {x y v : Int32} (hd1 : 1 ≤ d) (hv : (if y < x then y else x) = v) (hcat : (st.map fun v => v.category).sum ≤ 8) (hd : decode cc pc = .ok (.invokestatic idx, 3)) (k : gG X w post nL M (pc + 3) L (.int v :: st)) : gG X w post nL M pc L (.int y :: .int x :: st) := by
  subst hv
  intro H locs ls hP hS hL
  have hts := hC.2.2.2.2.1
  have hr := hC.2.2.2.2.2.2.2.2.2.2
  exact va_mmin hC.1 hC.2.1 (by rw [hC.2.2.1]; exact hL.1.symm) hC.2.2.2.1 (hts _ hlk) (hts _ hj.1) (hts _ hj.2.1) (hts _ hj.2.2) (by omega) (by omega) (Nat.zero_le _) (Nat.zero_le _) hd (k H locs ls hP hS hL)
theorem g_mmax_long (hlk : Cond.methodLink own idx Lib.MathLoose.max_long.x ∈ gTb) (hC : gC X w cc nL own ret d) (hj : Cond.static Lib.MathLoose.max_long.x ∈ gTb ∧ Cond.initialized "java/lang/Math" ∈ gTb ∧ Cond.code Lib.MathLoose.max_long.x Lib.MathLoose.max_long.code 4 (some .long) ∈ gTb) {x y v : Int64} (hd1 : 1 ≤ d) (hv : (if y < x then x else y) = v) (hcat : (st.map fun v => v.category).sum ≤ 8) (hd : decode cc pc = .ok (.invokestatic idx, 3)) (k : gG X w post nL M (pc + 3) L (.long v :: st)) : gG X w post nL M pc L (.long y :: .long x :: st) := by
  subst hv
  intro H locs ls hP hS hL
  have hts := hC.2.2.2.2.1
  have hr := hC.2.2.2.2.2.2.2.2.2.2
  exact va_mmax_long hC.1 hC.2.1 (by rw [hC.2.2.1]; exact hL.1.symm) hC.2.2.2.1 (hts _ hlk) (hts _ hj.1) (hts _ hj.2.1) (hts _ hj.2.2) (by omega) (by omega) (Nat.zero_le _) (Nat.zero_le _) hd (k H locs ls hP hS hL)
theorem g_mmin_long (hlk : Cond.methodLink own idx Lib.MathLoose.min_long.x ∈ gTb) (hC : gC X w cc nL own ret d) (hj : Cond.static Lib.MathLoose.min_long.x ∈ gTb ∧ Cond.initialized "java/lang/Math" ∈ gTb ∧ Cond.code Lib.MathLoose.min_long.x Lib.MathLoose.min_long.code 4 (some .long) ∈ gTb) {x y v : Int64} (hd1 : 1 ≤ d) (hv : (if y < x then y else x) = v) (hcat : (st.map fun v => v.category).sum ≤ 8) (hd : decode cc pc = .ok (.invokestatic idx, 3)) (k : gG X w post nL M (pc + 3) L (.long v :: st)) : gG X w post nL M pc L (.long y :: .long x :: st) := by
  subst hv
  intro H locs ls hP hS hL
  have hts := hC.2.2.2.2.1
  have hr := hC.2.2.2.2.2.2.2.2.2.2
  exact va_mmin_long hC.1 hC.2.1 (by rw [hC.2.2.1]; exact hL.1.symm) hC.2.2.2.1 (hts _ hlk) (hts _ hj.1) (hts _ hj.2.1) (hts _ hj.2.2) (by omega) (by omega) (Nat.zero_le _) (Nat.zero_le _) hd (k H locs ls hP hS hL)
end JM
theorem max_sub {a b : Nat} (ha : a < 1073741824) (hb : b < 1073741824) : (if nI 0 < nI a - nI b then nI a - nI b else nI 0) = nI (a - b) := by
  have e := pk_sub_toInt ha hb
  have z : (nI 0).toInt = 0 := rfl
  by_cases h : b ≤ a
  · rw [pk_sub h]
    by_cases h2 : a = b
    · subst h2; simp
    · rw [if_pos (nI_lt (by omega) (by omega))]
  · rw [if_neg, show a - b = 0 by omega]
    intro q
    have q2 := Int32.lt_iff_toInt_lt.mp q
    rw [e, z] at q2
    omega
theorem lN_max {a b : Nat} (ha : a < 9223372036854775808) (hb : b < 9223372036854775808) : (if lN b < lN a then lN a else lN b) = lN (max a b) := by
  by_cases h : b < a
  · rw [if_pos ((pk_lLT hb ha).mpr h), Nat.max_eq_left (by omega)]
  · rw [if_neg (fun q => h ((pk_lLT hb ha).mp q)), Nat.max_eq_right (by omega)]
theorem lN_min {a b : Nat} (ha : a < 9223372036854775808) (hb : b < 9223372036854775808) : (if lN b < lN a then lN b else lN a) = lN (min a b) := by
  by_cases h : b < a
  · rw [if_pos ((pk_lLT hb ha).mpr h), Nat.min_eq_right (by omega)]
  · rw [if_neg (fun q => h ((pk_lLT hb ha).mp q)), Nat.min_eq_left (by omega)]
set_option maxRecDepth 100000 in
set_option maxHeartbeats 4000000 in
theorem c_X0_pullAt (q : gQ3) {M : gM} {B : gB} (hI : cI M B) {x : Nat} (hx : x ≤ 40) : gCt (wC q) yX0_pullAt cX0_pullAt 2 (some .long) 3 [.ref (q.2.2 9), .int (nI x)] M (gR (some (.long (lN (sPull B x)))) M) := by
  refine gMet RX0 (by decide +kernel) rfl (Nat.le_of_ble_eq_true rfl) (fun X hC => ?_)
  have hC : gC X (wC q) cX0_pullAt 2 RX0 (some .long) 3 := hC
  show gG X (wC q) _ 2 M 0 [(0, .ref (q.2.2 9)), (1, .int (nI x))] []
  have hs := sSets_le hI.2.2
  refine g_ldc2 hC cl_X0_119 (v' := lN 2000000) (by decide) (gDec_at DX0_pullAt_0 0 rfl) ?_
  refine g_iconst hC (gDec_at DX0_pullAt_0 1 rfl) (v := nI 0) (by decide) ?_
  refine g_iload_n hC (gDec_at DX0_pullAt_0 2 rfl) rfl ?_
  refine g_aload_n hC (gDec_at DX0_pullAt_0 3 rfl) rfl ?_
  refine g_callVd (w := wC q) hC 9 (c_X0_followed q hI) vf_X0_followed ml_X0_121 (by decide) (show 9 < 63 from by decide) rfl rfl rfl rfl rfl (Nat.le_of_ble_eq_true rfl) (gDec_at DX0_pullAt_0 4 rfl) ?_
  refine g_isub hC (gDec_at DX0_pullAt_0 5 rfl) (v := (nI x - nI (sSets B / 10))) rfl ?_
  refine g_mmax ml_X0_124 hC jm_max (by decide) (v := (nI (x - sSets B / 10))) (max_sub (by omega) (by omega)) (Nat.le_of_ble_eq_true rfl) (gDec_at DX0_pullAt_0 6 rfl) ?_
  refine g_i2lN hC (by omega) (gDec_at DX0_pullAt_0 7 rfl) ?_
  refine g_lmulN hC (gDec_at DX0_pullAt_0 8 rfl) ?_
  refine g_lret hC (gDec_at DX0_pullAt_0 9 rfl) ?_
  exact ⟨rfl, rfl⟩

set_option maxRecDepth 100000 in
set_option maxHeartbeats 4000000 in
theorem c_X0_weighs (q : gQ3) {M : gM} {f pull gives : Nat} (hf : f ≤ 999) (hp : pull ≤ 80000000) (hg : gives ≤ 432000000000) : gCt (wC q) yX0_weighs cX0_weighs 6 (some .boolean) 0 [.ref (q.2.2 9), .int (nI f), .long (lN pull), .long (lN gives)] M (gR (some (.int (gb (f * gives ≤ pull)))) M) := by
  refine gMet RX0 (by decide +kernel) rfl (Nat.le_of_ble_eq_true rfl) (fun X hC => ?_)
  have hC : gC X (wC q) cX0_weighs 6 RX0 (some .boolean) 0 := hC
  show gG X (wC q) _ 6 M 0 [(0, .ref (q.2.2 9)), (1, .int (nI f)), (2, .long (lN pull)), (4, .long (lN gives))] []
  have hfg := mul_bd hf hg
  refine g_lload_n hC (gDec_at DX0_weighs_0 0 rfl) rfl ?_
  refine g_iload_n hC (gDec_at DX0_weighs_0 1 rfl) rfl ?_
  refine g_i2lN hC (by omega) (gDec_at DX0_weighs_0 2 rfl) ?_
  refine g_lload hC (gDec_at DX0_weighs_0 3 rfl) rfl ?_
  refine g_lmulN hC (gDec_at DX0_weighs_0 4 rfl) ?_
  refine g_lc_ltN hC (by omega) (by omega) (gDec_at DX0_weighs_0 5 rfl) (gDec_at DX0_weighs_0 6 rfl) 14 (by decide) (fun h6 => ?_) (fun h6 => ?_)
  · skip
    refine g_iconst hC (gDec_at DX0_weighs_0 9 rfl) (v := nI 0) (by decide) ?_
    refine g_zret hC (Or.inl rfl) (gDec_at DX0_weighs_0 10 rfl) ?_
    exact ⟨by rw [gb_f (show ¬ f * gives ≤ pull by omega)]; rfl, rfl⟩
  · skip
    refine g_iconst hC (gDec_at DX0_weighs_0 7 rfl) (v := nI 1) (by decide) ?_
    refine g_goto hC (gDec_at DX0_weighs_0 8 rfl) 15 (by decide) ?_
    refine g_zret hC (Or.inr rfl) (gDec_at DX0_weighs_0 10 rfl) ?_
    exact ⟨by rw [gb_t (show f * gives ≤ pull by omega)]; rfl, rfl⟩

theorem sStr_le (B : gB) (j : Nat) {pull gives : Nat} (hp : pull ≤ 80000000) : sStr B pull gives j ≤ 480000000000000 := by
  unfold sStr
  refine Nat.le_trans (Nat.div_le_self _ _) ?_
  have h : j % 6 + 1 ≤ 6 := by omega
  exact mul_bd (mul_bd hp h) (Nat.le_refl 1000000)
set_option maxRecDepth 100000 in
set_option maxHeartbeats 4000000 in
theorem c_X0_strainOf (q : gQ3) {M : gM} {B : gB} (hI : cI M B) {j : Nat} (hj : j < 12) (ht : j % 6 < B 9 0) {pull gives : Nat} (hp : pull ≤ 80000000) (hg : gives ≤ 432000000000) : gCt (wC q) yX0_strainOf cX0_strainOf 8 (some .long) 1 [.ref (q.2.2 9), .ref (q.2.2 (15 + j)), .long (lN pull), .long (lN gives)] M (gR (some (.long (lN (sStr B pull gives j)))) M) := by
  refine gMet RX0 (by decide +kernel) rfl (Nat.le_of_ble_eq_true rfl) (fun X hC => ?_)
  have hC : gC X (wC q) cX0_strainOf 8 RX0 (some .long) 1 := hC
  show gG X (wC q) _ 8 M 0 [(0, .ref (q.2.2 9)), (1, .ref (q.2.2 (15 + j))), (2, .long (lN pull)), (4, .long (lN gives))] []
  have h1 := bv_f1 hI.2.2 hj ht
  have h0 := bv_f0 hI.2.2 hj ht
  have hbe := sBears_bd hI.2.2 hj ht
  have h6 : j % 6 + 1 ≤ 6 := by omega
  have hn := mul_bd (mul_bd hp h6) (Nat.le_refl 1000000)
  have hdn : gives * (B 6 (B 2 j) * B 0 j * B 1 j * B 1 j) ≤ 432000000000 * 129600 := mul_bd hg hbe.2
  refine g_aload_n hC (gDec_at DX0_strainOf_0 0 rfl) rfl ?_
  refine g_aload_n hC (gDec_at DX0_strainOf_0 1 rfl) rfl ?_
  refine g_callVd (w := wC q) hC 9 (c_X0_eOf q hI hj ht) vf_X0_eOf ml_X0_98 (by decide) (show 9 < 63 from by decide) rfl rfl rfl rfl rfl (Nat.le_of_ble_eq_true rfl) (gDec_at DX0_strainOf_0 2 rfl) ?_
  refine g_aload_n hC (gDec_at DX0_strainOf_0 3 rfl) rfl ?_
  refine g_get (w := wC q) hC (15 + j) (v := .int (nI (B 0 j))) fl_X0_102 (show 15 + j < 63 from by have := hj; omega) (cC_p0 q _ _ hj) (g_sv (ci_f0 hI hj ht)) (gDec_at DX0_strainOf_0 4 rfl) ?_
  refine g_i2lN hC (by omega) (gDec_at DX0_strainOf_0 5 rfl) ?_
  refine g_lmulN hC (gDec_at DX0_strainOf_0 6 rfl) ?_
  refine g_aload_n hC (gDec_at DX0_strainOf_0 7 rfl) rfl ?_
  refine g_get (w := wC q) hC (15 + j) (v := .int (nI (B 1 j))) fl_X0_89 (show 15 + j < 63 from by have := hj; omega) (cC_p0 q _ _ hj) (g_sv (ci_f1 hI hj ht)) (gDec_at DX0_strainOf_0 8 rfl) ?_
  refine g_i2lN hC (by omega) (gDec_at DX0_strainOf_0 9 rfl) ?_
  refine g_lmulN hC (gDec_at DX0_strainOf_0 10 rfl) ?_
  refine g_aload_n hC (gDec_at DX0_strainOf_0 11 rfl) rfl ?_
  refine g_get (w := wC q) hC (15 + j) (v := .int (nI (B 1 j))) fl_X0_89 (show 15 + j < 63 from by have := hj; omega) (cC_p0 q _ _ hj) (g_sv (ci_f1 hI hj ht)) (gDec_at DX0_strainOf_0 12 rfl) ?_
  refine g_i2lN hC (by omega) (gDec_at DX0_strainOf_0 13 rfl) ?_
  refine g_lmulN hC (gDec_at DX0_strainOf_0 14 rfl) ?_
  refine g_lstore hC (gDec_at DX0_strainOf_0 15 rfl) (by decide) (L' := [(6, .long (lN ((((B 6 (B 2 j)) * (B 0 j)) * (B 1 j)) * (B 1 j)))), (0, .ref (q.2.2 9)), (1, .ref (q.2.2 (15 + j))), (2, .long (lN pull)), (4, .long (lN gives))]) rfl ?_
  refine g_lload_n hC (gDec_at DX0_strainOf_0 16 rfl) rfl ?_
  refine g_aload_n hC (gDec_at DX0_strainOf_0 17 rfl) rfl ?_
  refine g_get (w := wC q) hC (15 + j) (v := .int (nI (j % 6 + 1))) fl_X0_49 (show 15 + j < 63 from by have := hj; omega) (cC_p0 q _ _ hj) (g_sv (ci_arm hI hj)) (gDec_at DX0_strainOf_0 18 rfl) ?_
  refine g_i2lN hC (by omega) (gDec_at DX0_strainOf_0 19 rfl) ?_
  refine g_lmulN hC (gDec_at DX0_strainOf_0 20 rfl) ?_
  refine g_ldc2 hC cl_X0_130 (v' := lN 1000000) (by decide) (gDec_at DX0_strainOf_0 21 rfl) ?_
  refine g_lmulN hC (gDec_at DX0_strainOf_0 22 rfl) ?_
  refine g_lload hC (gDec_at DX0_strainOf_0 23 rfl) rfl ?_
  refine g_lload hC (gDec_at DX0_strainOf_0 24 rfl) rfl ?_
  refine g_lmulN hC (gDec_at DX0_strainOf_0 25 rfl) ?_
  refine g_callSNd (w := wC q) hC (c_X6_quotient q (by omega) (by omega)) sf_X6_quotient ml_X0_105 (by decide) rfl rfl (Nat.le_of_ble_eq_true rfl) (gDec_at DX0_strainOf_0 26 rfl) ?_
  refine g_lret hC (gDec_at DX0_strainOf_0 27 rfl) ?_
  exact ⟨rfl, rfl⟩

def sFmax (B : gB) (f : Nat → Nat) : Nat → Nat
  | 0 => 0
  | n + 1 => if n % 6 < B 9 0 then max (sFmax B f n) (f n) else sFmax B f n
def sFmin (B : gB) (f : Nat → Nat) : Nat → Nat
  | 0 => 9223372036854775807
  | n + 1 => if n % 6 < B 9 0 then min (sFmin B f n) (f n) else sFmin B f n
def sEvn (B : gB) (pull gives : Nat) : Nat := if sFmax B (sStr B pull gives) 12 = 0 then 1000 else 1000 * sFmin B (sStr B pull gives) 12 / sFmax B (sStr B pull gives) 12
theorem sFmax_le {B : gB} {f : Nat → Nat} {c : Nat} (h : ∀ j, f j ≤ c) : ∀ n, sFmax B f n ≤ c
  | 0 => Nat.zero_le _
  | n + 1 => by
    have h1 := sFmax_le h (B := B) n
    have h2 := h n
    show (if n % 6 < B 9 0 then max (sFmax B f n) (f n) else sFmax B f n) ≤ c
    split <;> omega
theorem sFmin_top (B : gB) (f : Nat → Nat) : ∀ n, sFmin B f n ≤ 9223372036854775807
  | 0 => Nat.le_refl _
  | n + 1 => by
    have h1 := sFmin_top B f n
    show (if n % 6 < B 9 0 then min (sFmin B f n) (f n) else sFmin B f n) ≤ _
    split <;> omega
theorem sFmin_at {B : gB} {f : Nat → Nat} {j : Nat} (ht : j % 6 < B 9 0) : ∀ n, j < n → sFmin B f n ≤ f j
  | 0, h => absurd h (Nat.not_lt_zero _)
  | n + 1, h => by
    show (if n % 6 < B 9 0 then min (sFmin B f n) (f n) else sFmin B f n) ≤ _
    by_cases e : j = n
    · subst e; rw [if_pos ht]; omega
    · have h1 := sFmin_at (B := B) (f := f) ht n (by omega)
      split <;> omega
theorem sFmax_at {B : gB} {f : Nat → Nat} {j : Nat} (ht : j % 6 < B 9 0) : ∀ n, j < n → f j ≤ sFmax B f n
  | 0, h => absurd h (Nat.not_lt_zero _)
  | n + 1, h => by
    show f j ≤ (if n % 6 < B 9 0 then max (sFmax B f n) (f n) else sFmax B f n)
    by_cases e : j = n
    · subst e; rw [if_pos ht]; omega
    · have h1 := sFmax_at (B := B) (f := f) ht n (by omega)
      split <;> omega
theorem sFmin_max {B : gB} {f : Nat → Nat} (hm : 1 ≤ B 9 0) : sFmin B f 12 ≤ sFmax B f 12 := Nat.le_trans (sFmin_at (j := 0) (by omega) 12 (by omega)) (sFmax_at (j := 0) (by omega) 12 (by omega))
theorem sEvn_le {B : gB} (hm : 1 ≤ B 9 0) (pull gives : Nat) : sEvn B pull gives ≤ 1000 := by
  unfold sEvn
  split
  · omega
  · have h := sFmin_max (B := B) (f := fun j => sStr B pull gives j) hm
    refine Nat.div_le_of_le_mul ?_
    rw [Nat.mul_comm]
    exact Nat.mul_le_mul h (Nat.le_refl _)
set_option maxRecDepth 100000 in
set_option maxHeartbeats 4000000 in
theorem c_X0_evenness (q : gQ3) {M : gM} {B : gB} (hI : cI M B) {pull gives : Nat} (hp : pull ≤ 80000000) (hg : gives ≤ 432000000000) : gCt (wC q) yX0_evenness cX0_evenness 15 (some .int) 2 [.ref (q.2.2 9), .long (lN pull), .long (lN gives)] M (gR (some (.int (nI (sEvn B pull gives)))) M) := by
  refine gMet RX0 (by decide +kernel) rfl (Nat.le_of_ble_eq_true rfl) (fun X hC => ?_)
  have hC : gC X (wC q) cX0_evenness 15 RX0 (some .int) 2 := hC
  show gG X (wC q) _ 15 M 0 [(0, .ref (q.2.2 9)), (1, .long (lN pull)), (3, .long (lN gives))] []
  have hm := bv_many hI.2.2
  have hst := fun j => sStr_le B j (gives := gives) hp
  refine g_ldc2 hC cl_X0_163 (v' := lN 9223372036854775807) (by decide) (gDec_at DX0_evenness_0 0 rfl) ?_
  refine g_lstore hC (gDec_at DX0_evenness_0 1 rfl) (by decide) (L' := [(5, .long (lN 9223372036854775807)), (0, .ref (q.2.2 9)), (1, .long (lN pull)), (3, .long (lN gives))]) rfl ?_
  refine g_lconst hC (gDec_at DX0_evenness_0 2 rfl) (v := lN 0) (by decide) ?_
  refine g_lstore hC (gDec_at DX0_evenness_0 3 rfl) (by decide) (L' := [(7, .long (lN 0)), (5, .long (lN 9223372036854775807)), (0, .ref (q.2.2 9)), (1, .long (lN pull)), (3, .long (lN gives))]) rfl ?_
  refine g_aload_n hC (gDec_at DX0_evenness_0 4 rfl) rfl ?_
  refine g_get (w := wC q) hC 9 (v := .ref (q.2.2 11)) fl_X0_22 (show 9 < 63 from by decide) rfl rfl (gDec_at DX0_evenness_0 5 rfl) ?_
  refine g_astore hC (gDec_at DX0_evenness_0 6 rfl) (by decide) (L' := [(9, .ref (q.2.2 11)), (7, .long (lN 0)), (5, .long (lN 9223372036854775807)), (0, .ref (q.2.2 9)), (1, .long (lN pull)), (3, .long (lN gives))]) rfl ?_
  refine g_aload hC (gDec_at DX0_evenness_0 7 rfl) rfl ?_
  refine g_alen (w := wC q) hC 11 3 (show 11 < 63 from by decide) rfl rfl (gDec_at DX0_evenness_0 8 rfl) ?_
  refine g_istore hC (gDec_at DX0_evenness_0 9 rfl) (by decide) (L' := [(10, .int (nI 12)), (9, .ref (q.2.2 11)), (7, .long (lN 0)), (5, .long (lN 9223372036854775807)), (0, .ref (q.2.2 9)), (1, .long (lN pull)), (3, .long (lN gives))]) rfl ?_
  refine g_iconst hC (gDec_at DX0_evenness_0 10 rfl) (v := nI 0) (by decide) ?_
  refine g_istore hC (gDec_at DX0_evenness_0 11 rfl) (by decide) (L' := [(11, .int (nI 0)), (10, .int (nI 12)), (9, .ref (q.2.2 11)), (7, .long (lN 0)), (5, .long (lN 9223372036854775807)), (0, .ref (q.2.2 9)), (1, .long (lN pull)), (3, .long (lN gives))]) rfl ?_
  have loop22 : ∀ (fu i : Nat), i ≤ 12 → 12 - i < fu → gG X (wC q) (gR (some (.int (nI (sEvn B pull gives)))) M) 15 M 22 [(0, .ref (q.2.2 9)), (1, .long (lN pull)), (3, .long (lN gives)), (5, .long (lN (sFmin B (sStr B pull gives) i))), (7, .long (lN (sFmax B (sStr B pull gives) i))), (9, .ref (q.2.2 11)), (10, .int (nI 12)), (11, .int (nI i))] [] := by
    intro fu; induction fu with
    | zero => intro i h1 h2; omega
    | succ fu ih =>
      intro i hi hfu 
      have hmx := sFmax_le (B := B) (f := (sStr B pull gives)) hst i
      have hmn := sFmin_top B (sStr B pull gives) i
      have hsi := hst i
      refine g_iload hC (gDec_at DX0_evenness_0 12 rfl) rfl ?_
      refine g_iload hC (gDec_at DX0_evenness_0 13 rfl) rfl ?_
      refine g_icmp_geN hC (by omega) (by omega) (gDec_at DX0_evenness_0 14 rfl) 79 (by decide) (fun h26 => ?_) (fun h26 => ?_)
      · skip
        obtain rfl : i = 12 := by omega
        have hmn0 := sFmin_at (B := B) (f := (sStr B pull gives)) (j := 0) (by omega) 12 (by omega)
        have hst0 := hst 0
        refine g_lload hC (gDec_at DX0_evenness_0 39 rfl) rfl ?_
        refine g_lconst hC (gDec_at DX0_evenness_0 40 rfl) (v := lN 0) (by decide) ?_
        refine g_lc_neN hC (by omega) (by omega) (gDec_at DX0_evenness_0 41 rfl) (gDec_at DX0_evenness_0 42 rfl) 92 (by decide) (fun h82 => ?_) (fun h82 => ?_)
        · skip
          refine g_ldc2 hC cl_X0_136 (v' := lN 1000) (by decide) (gDec_at DX0_evenness_0 45 rfl) ?_
          refine g_lload hC (gDec_at DX0_evenness_0 46 rfl) rfl ?_
          refine g_lmulN hC (gDec_at DX0_evenness_0 47 rfl) ?_
          refine g_lload hC (gDec_at DX0_evenness_0 48 rfl) rfl ?_
          refine g_callSNd (w := wC q) hC (c_X6_quotient q (by omega) (by omega)) sf_X6_quotient ml_X0_105 (by decide) rfl rfl (Nat.le_of_ble_eq_true rfl) (gDec_at DX0_evenness_0 49 rfl) ?_
          refine g_l2iN hC (gDec_at DX0_evenness_0 50 rfl) ?_
          refine g_iret hC (gDec_at DX0_evenness_0 51 rfl) ?_
          exact ⟨by unfold sEvn; rw [if_neg (by assumption)], rfl⟩
        · skip
          refine g_sipush hC (gDec_at DX0_evenness_0 43 rfl) (v := nI 1000) (by decide) ?_
          refine g_goto hC (gDec_at DX0_evenness_0 44 rfl) 104 (by decide) ?_
          refine g_iret hC (gDec_at DX0_evenness_0 51 rfl) ?_
          exact ⟨by unfold sEvn; rw [if_pos (by assumption)], rfl⟩
      · skip
        refine g_aload hC (gDec_at DX0_evenness_0 15 rfl) rfl ?_
        refine g_iload hC (gDec_at DX0_evenness_0 16 rfl) rfl ?_
        refine g_aald (w := wC q) hC 11 3 i (a := q.2.2 (15 + i)) (show 11 < 63 from by decide) rfl rfl (by omega) (by decide) rfl (gDec_at DX0_evenness_0 17 rfl) ?_
        refine g_astore hC (gDec_at DX0_evenness_0 18 rfl) (by decide) (L' := [(12, .ref (q.2.2 (15 + i))), (0, .ref (q.2.2 9)), (1, .long (lN pull)), (3, .long (lN gives)), (5, .long (lN (sFmin B (sStr B pull gives) i))), (7, .long (lN (sFmax B (sStr B pull gives) i))), (9, .ref (q.2.2 11)), (10, .int (nI 12)), (11, .int (nI i))]) rfl ?_
        refine g_aload_n hC (gDec_at DX0_evenness_0 19 rfl) rfl ?_
        refine g_aload hC (gDec_at DX0_evenness_0 20 rfl) rfl ?_
        refine g_callVd (w := wC q) hC 9 (c_X0_has q hI (by omega)) vf_X0_has ml_X0_42 (by decide) (show 9 < 63 from by decide) rfl rfl rfl rfl rfl (Nat.le_of_ble_eq_true rfl) (gDec_at DX0_evenness_0 21 rfl) ?_
        refine g_if_eqB hC (gDec_at DX0_evenness_0 22 rfl) 73 (by decide) (fun h42 => ?_) (fun h42 => ?_)
        · skip
          refine g_iincN hC (gDec_at DX0_evenness_0 37 rfl) rfl (by decide) (L' := [(11, .int (nI (i + 1))), (12, .ref (q.2.2 (15 + i))), (0, .ref (q.2.2 9)), (1, .long (lN pull)), (3, .long (lN gives)), (5, .long (lN (sFmin B (sStr B pull gives) i))), (7, .long (lN (sFmax B (sStr B pull gives) i))), (9, .ref (q.2.2 11)), (10, .int (nI 12))]) rfl ?_
          refine g_goto hC (gDec_at DX0_evenness_0 38 rfl) 22 (by decide) ?_
          refine g_sub [2, 3, 4, 5, 6, 7, 8, 0] (L' := [(0, .ref (q.2.2 9)), (1, .long (lN pull)), (3, .long (lN gives)), (5, .long (lN (sFmin B (sStr B pull gives) i))), (7, .long (lN (sFmax B (sStr B pull gives) i))), (9, .ref (q.2.2 11)), (10, .int (nI 12)), (11, .int (nI (i + 1)))]) rfl ?_
          have h9 := ih (i + 1) (by omega) (by omega)
          rw [show sFmax B (sStr B pull gives) (i + 1) = sFmax B (sStr B pull gives) i from if_neg h42, show sFmin B (sStr B pull gives) (i + 1) = sFmin B (sStr B pull gives) i from if_neg h42] at h9
          exact h9
        · skip
          refine g_aload_n hC (gDec_at DX0_evenness_0 23 rfl) rfl ?_
          refine g_aload hC (gDec_at DX0_evenness_0 24 rfl) rfl ?_
          refine g_lload_n hC (gDec_at DX0_evenness_0 25 rfl) rfl ?_
          refine g_lload_n hC (gDec_at DX0_evenness_0 26 rfl) rfl ?_
          refine g_callVd (w := wC q) hC 9 (c_X0_strainOf q hI (by omega) (by omega) (pull := pull) (gives := gives) (by omega) (by omega)) vf_X0_strainOf ml_X0_132 (by decide) (show 9 < 63 from by decide) rfl rfl rfl rfl rfl (Nat.le_of_ble_eq_true rfl) (gDec_at DX0_evenness_0 27 rfl) ?_
          refine g_lstore hC (gDec_at DX0_evenness_0 28 rfl) (by decide) (L' := [(13, .long (lN (sStr B pull gives i))), (12, .ref (q.2.2 (15 + i))), (0, .ref (q.2.2 9)), (1, .long (lN pull)), (3, .long (lN gives)), (5, .long (lN (sFmin B (sStr B pull gives) i))), (7, .long (lN (sFmax B (sStr B pull gives) i))), (9, .ref (q.2.2 11)), (10, .int (nI 12)), (11, .int (nI i))]) rfl ?_
          refine g_lload hC (gDec_at DX0_evenness_0 29 rfl) rfl ?_
          refine g_lload hC (gDec_at DX0_evenness_0 30 rfl) rfl ?_
          refine g_mmin_long ml_X0_151 hC jm_min_long (by decide) (v := (lN (min (sFmin B (sStr B pull gives) i) (sStr B pull gives i)))) (lN_min (by omega) (by omega)) (Nat.le_of_ble_eq_true rfl) (gDec_at DX0_evenness_0 31 rfl) ?_
          refine g_lstore hC (gDec_at DX0_evenness_0 32 rfl) (by decide) (L' := [(5, .long (lN (min (sFmin B (sStr B pull gives) i) (sStr B pull gives i)))), (13, .long (lN (sStr B pull gives i))), (12, .ref (q.2.2 (15 + i))), (0, .ref (q.2.2 9)), (1, .long (lN pull)), (3, .long (lN gives)), (7, .long (lN (sFmax B (sStr B pull gives) i))), (9, .ref (q.2.2 11)), (10, .int (nI 12)), (11, .int (nI i))]) rfl ?_
          refine g_lload hC (gDec_at DX0_evenness_0 33 rfl) rfl ?_
          refine g_lload hC (gDec_at DX0_evenness_0 34 rfl) rfl ?_
          refine g_mmax_long ml_X0_165 hC jm_max_long (by decide) (v := (lN (max (sFmax B (sStr B pull gives) i) (sStr B pull gives i)))) (lN_max (by omega) (by omega)) (Nat.le_of_ble_eq_true rfl) (gDec_at DX0_evenness_0 35 rfl) ?_
          refine g_lstore hC (gDec_at DX0_evenness_0 36 rfl) (by decide) (L' := [(7, .long (lN (max (sFmax B (sStr B pull gives) i) (sStr B pull gives i)))), (5, .long (lN (min (sFmin B (sStr B pull gives) i) (sStr B pull gives i)))), (13, .long (lN (sStr B pull gives i))), (12, .ref (q.2.2 (15 + i))), (0, .ref (q.2.2 9)), (1, .long (lN pull)), (3, .long (lN gives)), (9, .ref (q.2.2 11)), (10, .int (nI 12)), (11, .int (nI i))]) rfl ?_
          refine g_iincN hC (gDec_at DX0_evenness_0 37 rfl) rfl (by decide) (L' := [(11, .int (nI (i + 1))), (7, .long (lN (max (sFmax B (sStr B pull gives) i) (sStr B pull gives i)))), (5, .long (lN (min (sFmin B (sStr B pull gives) i) (sStr B pull gives i)))), (13, .long (lN (sStr B pull gives i))), (12, .ref (q.2.2 (15 + i))), (0, .ref (q.2.2 9)), (1, .long (lN pull)), (3, .long (lN gives)), (9, .ref (q.2.2 11)), (10, .int (nI 12))]) rfl ?_
          refine g_goto hC (gDec_at DX0_evenness_0 38 rfl) 22 (by decide) ?_
          refine g_sub [5, 6, 7, 2, 1, 8, 9, 0] (L' := [(0, .ref (q.2.2 9)), (1, .long (lN pull)), (3, .long (lN gives)), (5, .long (lN (min (sFmin B (sStr B pull gives) i) (sStr B pull gives i)))), (7, .long (lN (max (sFmax B (sStr B pull gives) i) (sStr B pull gives i)))), (9, .ref (q.2.2 11)), (10, .int (nI 12)), (11, .int (nI (i + 1)))]) rfl ?_
          have h9 := ih (i + 1) (by omega) (by omega)
          rw [show sFmax B (sStr B pull gives) (i + 1) = max (sFmax B (sStr B pull gives) i) (sStr B pull gives i) from if_pos h42, show sFmin B (sStr B pull gives) (i + 1) = min (sFmin B (sStr B pull gives) i) (sStr B pull gives i) from if_pos h42] at h9
          exact h9
  exact g_sub [5, 6, 7, 4, 3, 2, 1, 0] rfl (loop22 (12 + 1 - 0) 0 (by omega) (by omega))
end
section
/-! BOW, READ ONLY, on: finding places, extremes, form, load, off -/
section NUL
variable {X : gX} {w : gW} {post : Option Value → gM → Prop} {nL : Nat} {M : gM} {pc : Nat} {L : List (Nat × Value)} {st : List Value} {cc : ByteArray} {own : String} {ret : Option FieldType} {d : Nat}
theorem g_aload_nN (hC : gC X w cc nL own ret d) {i : Fin 4} (hd : decode cc pc = .ok (.aload_n i, 1)) (hl : lvg L i = some .null) (k : gG X w post nL M (pc + 1) L (.null :: st)) : gG X w post nL M pc L st := fun H locs ls hP hS hL => lv_aload_nN hC.1 hC.2.1 hd rfl (lvg_at hL hl) (k H locs ls hP hS hL)
theorem g_aloadN (hC : gC X w cc nL own ret d) {i : Nat} (hd : decode cc pc = .ok (.aload i, 2)) (hl : lvg L i = some .null) (k : gG X w post nL M (pc + 2) L (.null :: st)) : gG X w post nL M pc L st := fun H locs ls hP hS hL => lv_aloadN hC.1 hC.2.1 hd (lvg_at hL hl) (k H locs ls hP hS hL)
theorem g_astore_nN (hC : gC X w cc nL own ret d) {i : Fin 4} (hd : decode cc pc = .ok (.astore_n i, 1)) (hn : (i : Nat) < nL) {L' : List (Nat × Value)} (hl : ((i : Nat), Value.null) :: L.filter (fun q => !(q.1 == (i : Nat)) && !(q.1 + 1 == (i : Nat) && q.2.category == 2)) = L') (k : gG X w post nL M (pc + 1) L' st) : gG X w post nL M pc L (.null :: st) := fun H locs ls hP hS hL => lv_astore_nN hC.1 hC.2.1 hd rfl hL hn hl (fun ls hL => k H locs ls hP hS hL)
theorem g_astoreN (hC : gC X w cc nL own ret d) {i : Nat} (hd : decode cc pc = .ok (.astore i, 2)) (hn : i < nL) {L' : List (Nat × Value)} (hl : (i, Value.null) :: L.filter (fun q => !(q.1 == i) && !(q.1 + 1 == i && q.2.category == 2)) = L') (k : gG X w post nL M (pc + 2) L' st) : gG X w post nL M pc L (.null :: st) := fun H locs ls hP hS hL => lv_astoreN hC.1 hC.2.1 hd hL hn hl (fun ls hL => k H locs ls hP hS hL)
theorem g_ifnonnullN (hC : gC X w cc nL own ret d) {off : Int} (hd : decode cc pc = .ok (.ifnonnull off, 3)) (k : gG X w post nL M (pc + 3) L st) (tgt : Nat) (ht : (pc : Int) + off = (tgt : Int)) : gG X w post nL M pc L (.null :: st) := fun H locs ls hP hS hL => lv_ifnonnullN hC.1 hC.2.1 hd (k H locs ls hP hS hL)
theorem g_ifnullN (hC : gC X w cc nL own ret d) {off : Int} (hd : decode cc pc = .ok (.ifnull off, 3)) (tgt : Nat) (ht : (pc : Int) + off = (tgt : Int)) (k : gG X w post nL M tgt L st) : gG X w post nL M pc L (.null :: st) := fun H locs ls hP hS hL => lv_ifnullN hC.1 hC.2.1 hd ht (k H locs ls hP hS hL)
end NUL
/-- an int lies in a range of small numbers -/
def gin (x : Int32) (a b : Nat) : Prop := (a : Int) ≤ x.toInt ∧ x.toInt ≤ b
theorem gin_ex {x : Int32} {a b : Nat} (h : gin x a b) : ∃ k : Nat, a ≤ k ∧ k ≤ b ∧ x = nI k := by
  obtain ⟨h1, h2⟩ := h
  have h3 := Int32.toInt_lt x
  refine ⟨x.toInt.toNat, by omega, by omega, ?_⟩
  apply Int32.toInt_inj.mp
  rw [nI_toInt (by omega)]
  omega
theorem nI_gin {k a b : Nat} (h1 : a ≤ k) (h2 : k ≤ b) (h3 : k < 2147483648) : gin (nI k) a b := by
  unfold gin
  rw [nI_toInt h3]
  omega
theorem lt_I {x y : Int32} : x < y ↔ x.toInt < y.toInt := Int32.lt_iff_toInt_lt
theorem le_I {x y : Int32} : x ≤ y ↔ x.toInt ≤ y.toInt := Int32.le_iff_toInt_le
theorem zI : (0 : Int32).toInt = 0 := by decide
set_option maxRecDepth 100000 in
set_option maxHeartbeats 4000000 in
theorem c_X0_woodNumbered (q : gQ3) {M : gM} {k : Nat} (hk : k < 3) : gCt (wC q) yX0_woodNumbered cX0_woodNumbered 2 (some (.object "BowBend$Wood")) 0 [.ref (q.2.2 9), .int (nI k)] M (gR (some (.ref (q.2.2 (12 + k)))) M) := by
  refine gMet RX0 (by decide +kernel) rfl (Nat.le_of_ble_eq_true rfl) (fun X hC => ?_)
  have hC : gC X (wC q) cX0_woodNumbered 2 RX0 (some (.object "BowBend$Wood")) 0 := hC
  show gG X (wC q) _ 2 M 0 [(0, .ref (q.2.2 9)), (1, .int (nI k))] []
  refine g_iload_n hC (gDec_at DX0_woodNumbered_0 0 rfl) rfl ?_
  refine g_if_ltN hC (by omega) (gDec_at DX0_woodNumbered_0 1 rfl) ?_ 22 (by decide)
  refine g_iload_n hC (gDec_at DX0_woodNumbered_0 2 rfl) rfl ?_
  refine g_aload_n hC (gDec_at DX0_woodNumbered_0 3 rfl) rfl ?_
  refine g_get (w := wC q) hC 9 (v := .ref (q.2.2 10)) fl_X0_14 (show 9 < 63 from by decide) rfl rfl (gDec_at DX0_woodNumbered_0 4 rfl) ?_
  refine g_alen (w := wC q) hC 10 5 (show 10 < 63 from by decide) rfl rfl (gDec_at DX0_woodNumbered_0 5 rfl) ?_
  refine g_icmp_geN hC (by omega) (by omega) (gDec_at DX0_woodNumbered_0 6 rfl) 22 (by decide) (fun h10 => ?_) (fun h10 => ?_)
  · skip
    exact absurd hk (by omega)
  · skip
    refine g_aload_n hC (gDec_at DX0_woodNumbered_0 7 rfl) rfl ?_
    refine g_get (w := wC q) hC 9 (v := .ref (q.2.2 10)) fl_X0_14 (show 9 < 63 from by decide) rfl rfl (gDec_at DX0_woodNumbered_0 8 rfl) ?_
    refine g_iload_n hC (gDec_at DX0_woodNumbered_0 9 rfl) rfl ?_
    refine g_aald (w := wC q) hC 10 5 k (a := q.2.2 (12 + k)) (show 10 < 63 from by decide) rfl rfl (by omega) (by decide) rfl (gDec_at DX0_woodNumbered_0 10 rfl) ?_
    refine g_goto hC (gDec_at DX0_woodNumbered_0 11 rfl) 23 (by decide) ?_
    refine g_aret hC (Or.inr ⟨_, rfl⟩) (gDec_at DX0_woodNumbered_0 13 rfl) ?_
    exact ⟨rfl, rfl⟩

set_option maxRecDepth 100000 in
set_option maxHeartbeats 4000000 in
theorem c_X0_woodNumbered_out (q : gQ3) {M : gM} {x : Int32} (hx : ¬ gin x 0 2) : gCt (wC q) yX0_woodNumbered cX0_woodNumbered 2 (some (.object "BowBend$Wood")) 0 [.ref (q.2.2 9), .int x] M (gR (some .null) M) := by
  refine gMet RX0 (by decide +kernel) rfl (Nat.le_of_ble_eq_true rfl) (fun X hC => ?_)
  have hC : gC X (wC q) cX0_woodNumbered 2 RX0 (some (.object "BowBend$Wood")) 0 := hC
  show gG X (wC q) _ 2 M 0 [(0, .ref (q.2.2 9)), (1, .int x)] []
  refine g_iload_n hC (gDec_at DX0_woodNumbered_0 0 rfl) rfl ?_
  refine g_if_lt hC (gDec_at DX0_woodNumbered_0 1 rfl) 22 (by decide) (fun h1 => ?_) (fun h1 => ?_)
  · skip
    refine g_null hC (gDec_at DX0_woodNumbered_0 12 rfl) ?_
    refine g_aret hC (Or.inl rfl) (gDec_at DX0_woodNumbered_0 13 rfl) ?_
    exact ⟨rfl, rfl⟩
  · skip
    refine g_iload_n hC (gDec_at DX0_woodNumbered_0 2 rfl) rfl ?_
    refine g_aload_n hC (gDec_at DX0_woodNumbered_0 3 rfl) rfl ?_
    refine g_get (w := wC q) hC 9 (v := .ref (q.2.2 10)) fl_X0_14 (show 9 < 63 from by decide) rfl rfl (gDec_at DX0_woodNumbered_0 4 rfl) ?_
    refine g_alen (w := wC q) hC 10 5 (show 10 < 63 from by decide) rfl rfl (gDec_at DX0_woodNumbered_0 5 rfl) ?_
    refine g_icmp_ge hC (gDec_at DX0_woodNumbered_0 6 rfl) 22 (by decide) (fun h10 => ?_) (fun h10 => ?_)
    · skip
      refine g_null hC (gDec_at DX0_woodNumbered_0 12 rfl) ?_
      refine g_aret hC (Or.inl rfl) (gDec_at DX0_woodNumbered_0 13 rfl) ?_
      exact ⟨rfl, rfl⟩
    · skip
      exact absurd (show gin x 0 2 from by rw [lt_I, zI] at h1; rw [le_I, nI_toInt (by omega)] at h10; unfold gin; omega) hx

/-- a place told as x that is there -/
def isPl (B : gB) (x : Int32) : Prop := ∃ j, j < 12 ∧ j % 6 < B 9 0 ∧ x = nI (10 * (j / 6) + j % 6)
set_option maxRecDepth 100000 in
set_option maxHeartbeats 4000000 in
theorem c_X0_placeTold (q : gQ3) {M : gM} {B : gB} (hI : cI M B) {j : Nat} (hj : j < 12) (ht : j % 6 < B 9 0) : gCt (wC q) yX0_placeTold cX0_placeTold 6 (some (.object "BowBend$Place")) 1 [.ref (q.2.2 9), .int (nI (10 * (j / 6) + j % 6))] M (gR (some (.ref (q.2.2 (15 + j)))) M) := by
  refine gMet RX0 (by decide +kernel) rfl (Nat.le_of_ble_eq_true rfl) (fun X hC => ?_)
  have hC : gC X (wC q) cX0_placeTold 6 RX0 (some (.object "BowBend$Place")) 1 := hC
  show gG X (wC q) _ 6 M 0 [(0, .ref (q.2.2 9)), (1, .int (nI (10 * (j / 6) + j % 6)))] []
  refine g_aload_n hC (gDec_at DX0_placeTold_0 0 rfl) rfl ?_
  refine g_get (w := wC q) hC 9 (v := .ref (q.2.2 11)) fl_X0_22 (show 9 < 63 from by decide) rfl rfl (gDec_at DX0_placeTold_0 1 rfl) ?_
  refine g_astore_n hC (gDec_at DX0_placeTold_0 2 rfl) (by decide) (L' := [(2, .ref (q.2.2 11)), (0, .ref (q.2.2 9)), (1, .int (nI (10 * (j / 6) + j % 6)))]) rfl ?_
  refine g_aload_n hC (gDec_at DX0_placeTold_0 3 rfl) rfl ?_
  refine g_alen (w := wC q) hC 11 3 (show 11 < 63 from by decide) rfl rfl (gDec_at DX0_placeTold_0 4 rfl) ?_
  refine g_istore_n hC (gDec_at DX0_placeTold_0 5 rfl) (by decide) (L' := [(3, .int (nI 12)), (2, .ref (q.2.2 11)), (0, .ref (q.2.2 9)), (1, .int (nI (10 * (j / 6) + j % 6)))]) rfl ?_
  refine g_iconst hC (gDec_at DX0_placeTold_0 6 rfl) (v := nI 0) (by decide) ?_
  refine g_istore hC (gDec_at DX0_placeTold_0 7 rfl) (by decide) (L' := [(4, .int (nI 0)), (3, .int (nI 12)), (2, .ref (q.2.2 11)), (0, .ref (q.2.2 9)), (1, .int (nI (10 * (j / 6) + j % 6)))]) rfl ?_
  have loop11 : ∀ (fu i : Nat), i ≤ j → j - i < fu → gG X (wC q) (gR (some (.ref (q.2.2 (15 + j)))) M) 6 M 11 [(0, .ref (q.2.2 9)), (1, .int (nI (10 * (j / 6) + j % 6))), (2, .ref (q.2.2 11)), (3, .int (nI 12)), (4, .int (nI i))] [] := by
    intro fu; induction fu with
    | zero => intro i h1 h2; omega
    | succ fu ih =>
      intro i hi hfu 
      refine g_iload hC (gDec_at DX0_placeTold_0 8 rfl) rfl ?_
      refine g_iload_n hC (gDec_at DX0_placeTold_0 9 rfl) rfl ?_
      refine g_icmp_geN hC (by omega) (by omega) (gDec_at DX0_placeTold_0 10 rfl) 50 (by decide) (fun h14 => ?_) (fun h14 => ?_)
      · skip
        exact absurd h14 (by omega)
      · skip
        refine g_aload_n hC (gDec_at DX0_placeTold_0 11 rfl) rfl ?_
        refine g_iload hC (gDec_at DX0_placeTold_0 12 rfl) rfl ?_
        refine g_aald (w := wC q) hC 11 3 i (a := q.2.2 (15 + i)) (show 11 < 63 from by decide) rfl rfl (by omega) (by decide) rfl (gDec_at DX0_placeTold_0 13 rfl) ?_
        refine g_astore hC (gDec_at DX0_placeTold_0 14 rfl) (by decide) (L' := [(5, .ref (q.2.2 (15 + i))), (0, .ref (q.2.2 9)), (1, .int (nI (10 * (j / 6) + j % 6))), (2, .ref (q.2.2 11)), (3, .int (nI 12)), (4, .int (nI i))]) rfl ?_
        refine g_aload hC (gDec_at DX0_placeTold_0 15 rfl) rfl ?_
        refine g_get (w := wC q) hC (15 + i) (v := .int (nI (10 * (i / 6) + i % 6))) fl_X0_75 (show 15 + i < 63 from by have := (by omega); omega) (cC_p0 q _ _ (by omega)) (g_sv (ci_told hI (by omega))) (gDec_at DX0_placeTold_0 16 rfl) ?_
        refine g_iload_n hC (gDec_at DX0_placeTold_0 17 rfl) rfl ?_
        refine g_icmp_neN hC (by omega) (by omega) (gDec_at DX0_placeTold_0 18 rfl) 44 (by decide) (fun h29 => ?_) (fun h29 => ?_)
        · skip
          refine g_iincN hC (gDec_at DX0_placeTold_0 25 rfl) rfl (by decide) (L' := [(4, .int (nI (i + 1))), (5, .ref (q.2.2 (15 + i))), (0, .ref (q.2.2 9)), (1, .int (nI (10 * (j / 6) + j % 6))), (2, .ref (q.2.2 11)), (3, .int (nI 12))]) rfl ?_
          refine g_goto hC (gDec_at DX0_placeTold_0 26 rfl) 11 (by decide) ?_
          refine g_sub [2, 3, 4, 5, 0] (L' := [(0, .ref (q.2.2 9)), (1, .int (nI (10 * (j / 6) + j % 6))), (2, .ref (q.2.2 11)), (3, .int (nI 12)), (4, .int (nI (i + 1)))]) rfl ?_
          have h9 := ih (i + 1) (by omega) (by omega)
          exact h9
        · skip
          obtain rfl : i = j := by omega
          refine g_aload_n hC (gDec_at DX0_placeTold_0 19 rfl) rfl ?_
          refine g_aload hC (gDec_at DX0_placeTold_0 20 rfl) rfl ?_
          refine g_callVd (w := wC q) hC 9 (c_X0_has q hI (by omega)) vf_X0_has ml_X0_42 (by decide) (show 9 < 63 from by decide) rfl rfl rfl rfl rfl (Nat.le_of_ble_eq_true rfl) (gDec_at DX0_placeTold_0 21 rfl) ?_
          refine g_if_eqB hC (gDec_at DX0_placeTold_0 22 rfl) 44 (by decide) (fun h38 => ?_) (fun h38 => ?_)
          · skip
            exact absurd ht h38
          · skip
            refine g_aload hC (gDec_at DX0_placeTold_0 23 rfl) rfl ?_
            refine g_aret hC (Or.inr ⟨_, rfl⟩) (gDec_at DX0_placeTold_0 24 rfl) ?_
            exact ⟨rfl, rfl⟩
  exact g_sub [3, 4, 2, 1, 0] rfl (loop11 (j + 1 - 0) 0 (by omega) (by omega))

set_option maxRecDepth 100000 in
set_option maxHeartbeats 4000000 in
theorem c_X0_placeTold_out (q : gQ3) {M : gM} {B : gB} (hI : cI M B) {x : Int32} (hx : ¬ isPl B x) : gCt (wC q) yX0_placeTold cX0_placeTold 6 (some (.object "BowBend$Place")) 1 [.ref (q.2.2 9), .int x] M (gR (some .null) M) := by
  refine gMet RX0 (by decide +kernel) rfl (Nat.le_of_ble_eq_true rfl) (fun X hC => ?_)
  have hC : gC X (wC q) cX0_placeTold 6 RX0 (some (.object "BowBend$Place")) 1 := hC
  show gG X (wC q) _ 6 M 0 [(0, .ref (q.2.2 9)), (1, .int x)] []
  refine g_aload_n hC (gDec_at DX0_placeTold_0 0 rfl) rfl ?_
  refine g_get (w := wC q) hC 9 (v := .ref (q.2.2 11)) fl_X0_22 (show 9 < 63 from by decide) rfl rfl (gDec_at DX0_placeTold_0 1 rfl) ?_
  refine g_astore_n hC (gDec_at DX0_placeTold_0 2 rfl) (by decide) (L' := [(2, .ref (q.2.2 11)), (0, .ref (q.2.2 9)), (1, .int x)]) rfl ?_
  refine g_aload_n hC (gDec_at DX0_placeTold_0 3 rfl) rfl ?_
  refine g_alen (w := wC q) hC 11 3 (show 11 < 63 from by decide) rfl rfl (gDec_at DX0_placeTold_0 4 rfl) ?_
  refine g_istore_n hC (gDec_at DX0_placeTold_0 5 rfl) (by decide) (L' := [(3, .int (nI 12)), (2, .ref (q.2.2 11)), (0, .ref (q.2.2 9)), (1, .int x)]) rfl ?_
  refine g_iconst hC (gDec_at DX0_placeTold_0 6 rfl) (v := nI 0) (by decide) ?_
  refine g_istore hC (gDec_at DX0_placeTold_0 7 rfl) (by decide) (L' := [(4, .int (nI 0)), (3, .int (nI 12)), (2, .ref (q.2.2 11)), (0, .ref (q.2.2 9)), (1, .int x)]) rfl ?_
  have loop11 : ∀ (fu i : Nat), i ≤ 12 → 12 - i < fu → gG X (wC q) (gR (some .null) M) 6 M 11 [(0, .ref (q.2.2 9)), (1, .int x), (2, .ref (q.2.2 11)), (3, .int (nI 12)), (4, .int (nI i))] [] := by
    intro fu; induction fu with
    | zero => intro i h1 h2; omega
    | succ fu ih =>
      intro i hi hfu 
      refine g_iload hC (gDec_at DX0_placeTold_0 8 rfl) rfl ?_
      refine g_iload_n hC (gDec_at DX0_placeTold_0 9 rfl) rfl ?_
      refine g_icmp_geN hC (by omega) (by omega) (gDec_at DX0_placeTold_0 10 rfl) 50 (by decide) (fun h14 => ?_) (fun h14 => ?_)
      · skip
        refine g_null hC (gDec_at DX0_placeTold_0 27 rfl) ?_
        refine g_aret hC (Or.inl rfl) (gDec_at DX0_placeTold_0 28 rfl) ?_
        exact ⟨rfl, rfl⟩
      · skip
        refine g_aload_n hC (gDec_at DX0_placeTold_0 11 rfl) rfl ?_
        refine g_iload hC (gDec_at DX0_placeTold_0 12 rfl) rfl ?_
        refine g_aald (w := wC q) hC 11 3 i (a := q.2.2 (15 + i)) (show 11 < 63 from by decide) rfl rfl (by omega) (by decide) rfl (gDec_at DX0_placeTold_0 13 rfl) ?_
        refine g_astore hC (gDec_at DX0_placeTold_0 14 rfl) (by decide) (L' := [(5, .ref (q.2.2 (15 + i))), (0, .ref (q.2.2 9)), (1, .int x), (2, .ref (q.2.2 11)), (3, .int (nI 12)), (4, .int (nI i))]) rfl ?_
        refine g_aload hC (gDec_at DX0_placeTold_0 15 rfl) rfl ?_
        refine g_get (w := wC q) hC (15 + i) (v := .int (nI (10 * (i / 6) + i % 6))) fl_X0_75 (show 15 + i < 63 from by have := (by omega); omega) (cC_p0 q _ _ (by omega)) (g_sv (ci_told hI (by omega))) (gDec_at DX0_placeTold_0 16 rfl) ?_
        refine g_iload_n hC (gDec_at DX0_placeTold_0 17 rfl) rfl ?_
        refine g_icmp_ne hC (gDec_at DX0_placeTold_0 18 rfl) 44 (by decide) (fun h29 => ?_) (fun h29 => ?_)
        · skip
          refine g_iincN hC (gDec_at DX0_placeTold_0 25 rfl) rfl (by decide) (L' := [(4, .int (nI (i + 1))), (5, .ref (q.2.2 (15 + i))), (0, .ref (q.2.2 9)), (1, .int x), (2, .ref (q.2.2 11)), (3, .int (nI 12))]) rfl ?_
          refine g_goto hC (gDec_at DX0_placeTold_0 26 rfl) 11 (by decide) ?_
          refine g_sub [2, 3, 4, 5, 0] (L' := [(0, .ref (q.2.2 9)), (1, .int x), (2, .ref (q.2.2 11)), (3, .int (nI 12)), (4, .int (nI (i + 1)))]) rfl ?_
          have h9 := ih (i + 1) (by omega) (by omega)
          exact h9
        · skip
          refine g_aload_n hC (gDec_at DX0_placeTold_0 19 rfl) rfl ?_
          refine g_aload hC (gDec_at DX0_placeTold_0 20 rfl) rfl ?_
          refine g_callVd (w := wC q) hC 9 (c_X0_has q hI (by omega)) vf_X0_has ml_X0_42 (by decide) (show 9 < 63 from by decide) rfl rfl rfl rfl rfl (Nat.le_of_ble_eq_true rfl) (gDec_at DX0_placeTold_0 21 rfl) ?_
          refine g_if_eqB hC (gDec_at DX0_placeTold_0 22 rfl) 44 (by decide) (fun h38 => ?_) (fun h38 => ?_)
          · skip
            refine g_iincN hC (gDec_at DX0_placeTold_0 25 rfl) rfl (by decide) (L' := [(4, .int (nI (i + 1))), (5, .ref (q.2.2 (15 + i))), (0, .ref (q.2.2 9)), (1, .int x), (2, .ref (q.2.2 11)), (3, .int (nI 12))]) rfl ?_
            refine g_goto hC (gDec_at DX0_placeTold_0 26 rfl) 11 (by decide) ?_
            refine g_sub [2, 3, 4, 5, 0] (L' := [(0, .ref (q.2.2 9)), (1, .int x), (2, .ref (q.2.2 11)), (3, .int (nI 12)), (4, .int (nI (i + 1)))]) rfl ?_
            have h9 := ih (i + 1) (by omega) (by omega)
            exact h9
          · skip
            exact absurd ⟨i, by omega, h38, h29.symm⟩ hx
  exact g_sub [3, 4, 2, 1, 0] rfl (loop11 (12 + 1 - 0) 0 (by omega) (by omega))

def sPl (B : gB) (j : Nat) : Nat := if B 4 j = 0 then B 7 (B 2 j) else B 7 (B 2 j) / 2
def sPr (B : gB) (j : Nat) : Nat := B 8 (B 2 j)
set_option maxRecDepth 100000 in
set_option maxHeartbeats 4000000 in
theorem c_X0_pullLineOf (q : gQ3) {M : gM} {B : gB} (hI : cI M B) {j : Nat} (hj : j < 12) (ht : j % 6 < B 9 0) : gCt (wC q) yX0_pullLineOf cX0_pullLineOf 3 (some .long) 1 [.ref (q.2.2 9), .ref (q.2.2 (15 + j))] M (gR (some (.long (lN (sPl B j)))) M) := by
  refine gMet RX0 (by decide +kernel) rfl (Nat.le_of_ble_eq_true rfl) (fun X hC => ?_)
  have hC : gC X (wC q) cX0_pullLineOf 3 RX0 (some .long) 1 := hC
  show gG X (wC q) _ 3 M 0 [(0, .ref (q.2.2 9)), (1, .ref (q.2.2 (15 + j)))] []
  have h2 := bv_f2 hI.2.2 hj ht
  have h4 := bv_f4 hI.2.2 hj ht
  have hp := bv_pull hI.2.2 h2
  have hq := bv_press hI.2.2 h2
  refine g_aload_n hC (gDec_at DX0_pullLineOf_0 0 rfl) rfl ?_
  refine g_aload_n hC (gDec_at DX0_pullLineOf_0 1 rfl) rfl ?_
  refine g_get (w := wC q) hC (15 + j) (v := .int (nI (B 2 j))) fl_X0_78 (show 15 + j < 63 from by have := hj; omega) (cC_p0 q _ _ hj) (g_sv (ci_f2 hI hj ht)) (gDec_at DX0_pullLineOf_0 2 rfl) ?_
  refine g_callVd (w := wC q) hC 9 (c_X0_woodNumbered q h2) vf_X0_woodNumbered ml_X0_81 (by decide) (show 9 < 63 from by decide) rfl rfl rfl rfl rfl (Nat.le_of_ble_eq_true rfl) (gDec_at DX0_pullLineOf_0 3 rfl) ?_
  refine g_astore_n hC (gDec_at DX0_pullLineOf_0 4 rfl) (by decide) (L' := [(2, .ref (q.2.2 (12 + (B 2 j)))), (0, .ref (q.2.2 9)), (1, .ref (q.2.2 (15 + j)))]) rfl ?_
  refine g_aload_n hC (gDec_at DX0_pullLineOf_0 5 rfl) rfl ?_
  refine g_ifnonnull hC (gDec_at DX0_pullLineOf_0 6 rfl) 15 (by decide) ?_
  refine g_aload_n hC (gDec_at DX0_pullLineOf_0 9 rfl) rfl ?_
  refine g_get (w := wC q) hC (15 + j) (v := .int (nI (B 4 j))) fl_X0_85 (show 15 + j < 63 from by have := hj; omega) (cC_p0 q _ _ hj) (g_sv (ci_f4 hI hj ht)) (gDec_at DX0_pullLineOf_0 10 rfl) ?_
  refine g_if_eqN hC (by omega) (gDec_at DX0_pullLineOf_0 11 rfl) 32 (by decide) (fun h19 => ?_) (fun h19 => ?_)
  · skip
    refine g_aload_n hC (gDec_at DX0_pullLineOf_0 18 rfl) rfl ?_
    refine g_get (w := wC q) hC (12 + (B 2 j)) (v := .int (nI (B 7 (B 2 j)))) fl_X0_62 (show 12 + (B 2 j) < 63 from by have := h2; omega) (cC_w0 q _ _ h2) (g_sv (ci_pull hI h2)) (gDec_at DX0_pullLineOf_0 19 rfl) ?_
    refine g_i2lN hC (by omega) (gDec_at DX0_pullLineOf_0 20 rfl) ?_
    refine g_lret hC (gDec_at DX0_pullLineOf_0 21 rfl) ?_
    exact ⟨by unfold sPl; rw [if_pos (by assumption)], rfl⟩
  · skip
    refine g_aload_n hC (gDec_at DX0_pullLineOf_0 12 rfl) rfl ?_
    refine g_get (w := wC q) hC (12 + (B 2 j)) (v := .int (nI (B 7 (B 2 j)))) fl_X0_62 (show 12 + (B 2 j) < 63 from by have := h2; omega) (cC_w0 q _ _ h2) (g_sv (ci_pull hI h2)) (gDec_at DX0_pullLineOf_0 13 rfl) ?_
    refine g_iconst hC (gDec_at DX0_pullLineOf_0 14 rfl) (v := nI 2) (by decide) ?_
    refine g_idivN hC (by omega) (by omega) (by omega) (gDec_at DX0_pullLineOf_0 15 rfl) ?_
    refine g_i2lN hC (by omega) (gDec_at DX0_pullLineOf_0 16 rfl) ?_
    refine g_goto hC (gDec_at DX0_pullLineOf_0 17 rfl) 37 (by decide) ?_
    refine g_lret hC (gDec_at DX0_pullLineOf_0 21 rfl) ?_
    exact ⟨by unfold sPl; rw [if_neg (by omega)], rfl⟩

set_option maxRecDepth 100000 in
set_option maxHeartbeats 4000000 in
theorem c_X0_pressLineOf (q : gQ3) {M : gM} {B : gB} (hI : cI M B) {j : Nat} (hj : j < 12) (ht : j % 6 < B 9 0) : gCt (wC q) yX0_pressLineOf cX0_pressLineOf 3 (some .long) 1 [.ref (q.2.2 9), .ref (q.2.2 (15 + j))] M (gR (some (.long (lN (sPr B j)))) M) := by
  refine gMet RX0 (by decide +kernel) rfl (Nat.le_of_ble_eq_true rfl) (fun X hC => ?_)
  have hC : gC X (wC q) cX0_pressLineOf 3 RX0 (some .long) 1 := hC
  show gG X (wC q) _ 3 M 0 [(0, .ref (q.2.2 9)), (1, .ref (q.2.2 (15 + j)))] []
  have h2 := bv_f2 hI.2.2 hj ht
  have h4 := bv_f4 hI.2.2 hj ht
  have hp := bv_pull hI.2.2 h2
  have hq := bv_press hI.2.2 h2
  refine g_aload_n hC (gDec_at DX0_pressLineOf_0 0 rfl) rfl ?_
  refine g_aload_n hC (gDec_at DX0_pressLineOf_0 1 rfl) rfl ?_
  refine g_get (w := wC q) hC (15 + j) (v := .int (nI (B 2 j))) fl_X0_78 (show 15 + j < 63 from by have := hj; omega) (cC_p0 q _ _ hj) (g_sv (ci_f2 hI hj ht)) (gDec_at DX0_pressLineOf_0 2 rfl) ?_
  refine g_callVd (w := wC q) hC 9 (c_X0_woodNumbered q h2) vf_X0_woodNumbered ml_X0_81 (by decide) (show 9 < 63 from by decide) rfl rfl rfl rfl rfl (Nat.le_of_ble_eq_true rfl) (gDec_at DX0_pressLineOf_0 3 rfl) ?_
  refine g_astore_n hC (gDec_at DX0_pressLineOf_0 4 rfl) (by decide) (L' := [(2, .ref (q.2.2 (12 + (B 2 j)))), (0, .ref (q.2.2 9)), (1, .ref (q.2.2 (15 + j)))]) rfl ?_
  refine g_aload_n hC (gDec_at DX0_pressLineOf_0 5 rfl) rfl ?_
  refine g_ifnonnull hC (gDec_at DX0_pressLineOf_0 6 rfl) 17 (by decide) ?_
  refine g_aload_n hC (gDec_at DX0_pressLineOf_0 9 rfl) rfl ?_
  refine g_get (w := wC q) hC (12 + (B 2 j)) (v := .int (nI (B 8 (B 2 j)))) fl_X0_65 (show 12 + (B 2 j) < 63 from by have := h2; omega) (cC_w0 q _ _ h2) (g_sv (ci_press hI h2)) (gDec_at DX0_pressLineOf_0 10 rfl) ?_
  refine g_i2lN hC (by omega) (gDec_at DX0_pressLineOf_0 11 rfl) ?_
  refine g_lret hC (gDec_at DX0_pressLineOf_0 12 rfl) ?_
  exact ⟨rfl, rfl⟩

def sLost (B : gB) (j d : Nat) : Nat := gsm (fun i => if i % 6 < B 9 0 then sGive B i (if i / 6 = j / 6 ∧ i % 6 ≤ j % 6 then d else B 1 i) else 0) 12
theorem sLost_le (B : gB) (j d : Nat) : sLost B j d ≤ 432000000000 := gsm_le (n := 12) (c := 36000000000) (fun k _ => by
  split
  · exact sGive_le _ _ _
  · omega)
set_option maxRecDepth 100000 in
set_option maxHeartbeats 4000000 in
theorem c_X0_givesIfLost (q : gQ3) {M : gM} {B : gB} (hI : cI M B) {j : Nat} (hj : j < 12) (ht : j % 6 < B 9 0) {d : Nat} (hd : d ≤ 40) : gCt (wC q) yX0_givesIfLost cX0_givesIfLost 10 (some .long) 2 [.ref (q.2.2 9), .ref (q.2.2 (15 + j)), .int (nI d)] M (gR (some (.long (lN (sLost B j d)))) M) := by
  refine gMet RX0 (by decide +kernel) rfl (Nat.le_of_ble_eq_true rfl) (fun X hC => ?_)
  have hC : gC X (wC q) cX0_givesIfLost 10 RX0 (some .long) 2 := hC
  show gG X (wC q) _ 10 M 0 [(0, .ref (q.2.2 9)), (1, .ref (q.2.2 (15 + j))), (2, .int (nI d))] []
  refine g_lconst hC (gDec_at DX0_givesIfLost_0 0 rfl) (v := lN 0) (by decide) ?_
  refine g_lstore_n hC (gDec_at DX0_givesIfLost_0 1 rfl) (by decide) (L' := [(3, .long (lN 0)), (0, .ref (q.2.2 9)), (1, .ref (q.2.2 (15 + j))), (2, .int (nI d))]) rfl ?_
  refine g_aload_n hC (gDec_at DX0_givesIfLost_0 2 rfl) rfl ?_
  refine g_get (w := wC q) hC 9 (v := .ref (q.2.2 11)) fl_X0_22 (show 9 < 63 from by decide) rfl rfl (gDec_at DX0_givesIfLost_0 3 rfl) ?_
  refine g_astore hC (gDec_at DX0_givesIfLost_0 4 rfl) (by decide) (L' := [(5, .ref (q.2.2 11)), (3, .long (lN 0)), (0, .ref (q.2.2 9)), (1, .ref (q.2.2 (15 + j))), (2, .int (nI d))]) rfl ?_
  refine g_aload hC (gDec_at DX0_givesIfLost_0 5 rfl) rfl ?_
  refine g_alen (w := wC q) hC 11 3 (show 11 < 63 from by decide) rfl rfl (gDec_at DX0_givesIfLost_0 6 rfl) ?_
  refine g_istore hC (gDec_at DX0_givesIfLost_0 7 rfl) (by decide) (L' := [(6, .int (nI 12)), (5, .ref (q.2.2 11)), (3, .long (lN 0)), (0, .ref (q.2.2 9)), (1, .ref (q.2.2 (15 + j))), (2, .int (nI d))]) rfl ?_
  refine g_iconst hC (gDec_at DX0_givesIfLost_0 8 rfl) (v := nI 0) (by decide) ?_
  refine g_istore hC (gDec_at DX0_givesIfLost_0 9 rfl) (by decide) (L' := [(7, .int (nI 0)), (6, .int (nI 12)), (5, .ref (q.2.2 11)), (3, .long (lN 0)), (0, .ref (q.2.2 9)), (1, .ref (q.2.2 (15 + j))), (2, .int (nI d))]) rfl ?_
  have loop16 : ∀ (fu i : Nat), i ≤ 12 → 12 - i < fu → gG X (wC q) (gR (some (.long (lN (sLost B j d)))) M) 10 M 16 [(0, .ref (q.2.2 9)), (1, .ref (q.2.2 (15 + j))), (2, .int (nI d)), (3, .long (lN (gsm (fun i => if i % 6 < B 9 0 then sGive B i (if i / 6 = j / 6 ∧ i % 6 ≤ j % 6 then d else B 1 i) else 0) i))), (5, .ref (q.2.2 11)), (6, .int (nI 12)), (7, .int (nI i))] [] := by
    intro fu; induction fu with
    | zero => intro i h1 h2; omega
    | succ fu ih =>
      intro i hi hfu 
      refine g_iload hC (gDec_at DX0_givesIfLost_0 10 rfl) rfl ?_
      refine g_iload hC (gDec_at DX0_givesIfLost_0 11 rfl) rfl ?_
      refine g_icmp_geN hC (by omega) (by omega) (gDec_at DX0_givesIfLost_0 12 rfl) 101 (by decide) (fun h20 => ?_) (fun h20 => ?_)
      · skip
        obtain rfl : i = 12 := by omega
        refine g_lload_n hC (gDec_at DX0_givesIfLost_0 51 rfl) rfl ?_
        refine g_lret hC (gDec_at DX0_givesIfLost_0 52 rfl) ?_
        exact ⟨rfl, rfl⟩
      · skip
        refine g_aload hC (gDec_at DX0_givesIfLost_0 13 rfl) rfl ?_
        refine g_iload hC (gDec_at DX0_givesIfLost_0 14 rfl) rfl ?_
        refine g_aald (w := wC q) hC 11 3 i (a := q.2.2 (15 + i)) (show 11 < 63 from by decide) rfl rfl (by omega) (by decide) rfl (gDec_at DX0_givesIfLost_0 15 rfl) ?_
        refine g_astore hC (gDec_at DX0_givesIfLost_0 16 rfl) (by decide) (L' := [(8, .ref (q.2.2 (15 + i))), (0, .ref (q.2.2 9)), (1, .ref (q.2.2 (15 + j))), (2, .int (nI d)), (3, .long (lN (gsm (fun i => if i % 6 < B 9 0 then sGive B i (if i / 6 = j / 6 ∧ i % 6 ≤ j % 6 then d else B 1 i) else 0) i))), (5, .ref (q.2.2 11)), (6, .int (nI 12)), (7, .int (nI i))]) rfl ?_
        refine g_aload_n hC (gDec_at DX0_givesIfLost_0 17 rfl) rfl ?_
        refine g_aload hC (gDec_at DX0_givesIfLost_0 18 rfl) rfl ?_
        refine g_callVd (w := wC q) hC 9 (c_X0_has q hI (by omega)) vf_X0_has ml_X0_42 (by decide) (show 9 < 63 from by decide) rfl rfl rfl rfl rfl (Nat.le_of_ble_eq_true rfl) (gDec_at DX0_givesIfLost_0 19 rfl) ?_
        refine g_if_eqB hC (gDec_at DX0_givesIfLost_0 20 rfl) 95 (by decide) (fun h36 => ?_) (fun h36 => ?_)
        · skip
          refine g_iincN hC (gDec_at DX0_givesIfLost_0 49 rfl) rfl (by decide) (L' := [(7, .int (nI (i + 1))), (8, .ref (q.2.2 (15 + i))), (0, .ref (q.2.2 9)), (1, .ref (q.2.2 (15 + j))), (2, .int (nI d)), (3, .long (lN (gsm (fun i => if i % 6 < B 9 0 then sGive B i (if i / 6 = j / 6 ∧ i % 6 ≤ j % 6 then d else B 1 i) else 0) i))), (5, .ref (q.2.2 11)), (6, .int (nI 12))]) rfl ?_
          refine g_goto hC (gDec_at DX0_givesIfLost_0 50 rfl) 16 (by decide) ?_
          refine g_sub [2, 3, 4, 5, 6, 7, 0] (L' := [(0, .ref (q.2.2 9)), (1, .ref (q.2.2 (15 + j))), (2, .int (nI d)), (3, .long (lN (gsm (fun i => if i % 6 < B 9 0 then sGive B i (if i / 6 = j / 6 ∧ i % 6 ≤ j % 6 then d else B 1 i) else 0) i))), (5, .ref (q.2.2 11)), (6, .int (nI 12)), (7, .int (nI (i + 1)))]) rfl ?_
          have h9 := ih (i + 1) (by omega) (by omega)
          rw [show gsm (fun i => if i % 6 < B 9 0 then sGive B i (if i / 6 = j / 6 ∧ i % 6 ≤ j % 6 then d else B 1 i) else 0) (i + 1) = gsm (fun i => if i % 6 < B 9 0 then sGive B i (if i / 6 = j / 6 ∧ i % 6 ≤ j % 6 then d else B 1 i) else 0) i from gsm_s0 (if_neg h36)] at h9
          exact h9
        · skip
          have h1i := bv_f1 hI.2.2 (by omega : i < 12) h36
          refine g_aload hC (gDec_at DX0_givesIfLost_0 21 rfl) rfl ?_
          refine g_get (w := wC q) hC (15 + i) (v := .int (nI (i / 6))) fl_X0_46 (show 15 + i < 63 from by have := (by omega); omega) (cC_p0 q _ _ (by omega)) (g_sv (ci_side hI (by omega))) (gDec_at DX0_givesIfLost_0 22 rfl) ?_
          refine g_aload_n hC (gDec_at DX0_givesIfLost_0 23 rfl) rfl ?_
          refine g_get (w := wC q) hC (15 + j) (v := .int (nI (j / 6))) fl_X0_46 (show 15 + j < 63 from by have := hj; omega) (cC_p0 q _ _ hj) (g_sv (ci_side hI hj)) (gDec_at DX0_givesIfLost_0 24 rfl) ?_
          refine g_icmp_neN hC (by omega) (by omega) (gDec_at DX0_givesIfLost_0 25 rfl) 67 (by decide) (fun h48 => ?_) (fun h48 => ?_)
          · skip
            refine g_iconst hC (gDec_at DX0_givesIfLost_0 33 rfl) (v := nI 0) (by decide) ?_
            refine g_istore hC (gDec_at DX0_givesIfLost_0 34 rfl) (by decide) (L' := [(9, .int (nI 0)), (8, .ref (q.2.2 (15 + i))), (0, .ref (q.2.2 9)), (1, .ref (q.2.2 (15 + j))), (2, .int (nI d)), (3, .long (lN (gsm (fun i => if i % 6 < B 9 0 then sGive B i (if i / 6 = j / 6 ∧ i % 6 ≤ j % 6 then d else B 1 i) else 0) i))), (5, .ref (q.2.2 11)), (6, .int (nI 12)), (7, .int (nI i))]) rfl ?_
            refine g_lload_n hC (gDec_at DX0_givesIfLost_0 35 rfl) rfl ?_
            refine g_aload_n hC (gDec_at DX0_givesIfLost_0 36 rfl) rfl ?_
            refine g_aload hC (gDec_at DX0_givesIfLost_0 37 rfl) rfl ?_
            refine g_iload hC (gDec_at DX0_givesIfLost_0 38 rfl) rfl ?_
            refine g_if_eqN hC (by decide) (gDec_at DX0_givesIfLost_0 39 rfl) 84 (by decide) (fun h => ?_) (fun h => absurd h (by decide))
            refine g_aload hC (gDec_at DX0_givesIfLost_0 43 rfl) rfl ?_
            refine g_get (w := wC q) hC (15 + i) (v := .int (nI (B 1 i))) fl_X0_89 (show 15 + i < 63 from by have := (by omega); omega) (cC_p0 q _ _ (by omega)) (g_sv (ci_f1 hI (by omega) (by omega))) (gDec_at DX0_givesIfLost_0 44 rfl) ?_
            refine g_i2lN hC (by omega) (gDec_at DX0_givesIfLost_0 45 rfl) ?_
            refine g_callVd (w := wC q) hC 9 (c_X0_giveAtDepth q hI (by omega) (by omega) (by omega)) vf_X0_giveAtDepth ml_X0_92 (by decide) (show 9 < 63 from by decide) rfl rfl rfl rfl rfl (Nat.le_of_ble_eq_true rfl) (gDec_at DX0_givesIfLost_0 46 rfl) ?_
            refine g_laddN hC (gDec_at DX0_givesIfLost_0 47 rfl) ?_
            refine g_lstore_n hC (gDec_at DX0_givesIfLost_0 48 rfl) (by decide) (L' := [(3, .long (lN ((gsm (fun i => if i % 6 < B 9 0 then sGive B i (if i / 6 = j / 6 ∧ i % 6 ≤ j % 6 then d else B 1 i) else 0) i) + (sGive B i (B 1 i))))), (9, .int (nI 0)), (8, .ref (q.2.2 (15 + i))), (0, .ref (q.2.2 9)), (1, .ref (q.2.2 (15 + j))), (2, .int (nI d)), (5, .ref (q.2.2 11)), (6, .int (nI 12)), (7, .int (nI i))]) rfl ?_
            refine g_iincN hC (gDec_at DX0_givesIfLost_0 49 rfl) rfl (by decide) (L' := [(7, .int (nI (i + 1))), (3, .long (lN ((gsm (fun i => if i % 6 < B 9 0 then sGive B i (if i / 6 = j / 6 ∧ i % 6 ≤ j % 6 then d else B 1 i) else 0) i) + (sGive B i (B 1 i))))), (9, .int (nI 0)), (8, .ref (q.2.2 (15 + i))), (0, .ref (q.2.2 9)), (1, .ref (q.2.2 (15 + j))), (2, .int (nI d)), (5, .ref (q.2.2 11)), (6, .int (nI 12))]) rfl ?_
            refine g_goto hC (gDec_at DX0_givesIfLost_0 50 rfl) 16 (by decide) ?_
            refine g_sub [4, 5, 6, 1, 7, 8, 0] (L' := [(0, .ref (q.2.2 9)), (1, .ref (q.2.2 (15 + j))), (2, .int (nI d)), (3, .long (lN ((gsm (fun i => if i % 6 < B 9 0 then sGive B i (if i / 6 = j / 6 ∧ i % 6 ≤ j % 6 then d else B 1 i) else 0) i) + (sGive B i (B 1 i))))), (5, .ref (q.2.2 11)), (6, .int (nI 12)), (7, .int (nI (i + 1)))]) rfl ?_
            have h9 := ih (i + 1) (by omega) (by omega)
            rw [show gsm (fun i => if i % 6 < B 9 0 then sGive B i (if i / 6 = j / 6 ∧ i % 6 ≤ j % 6 then d else B 1 i) else 0) (i + 1) = gsm (fun i => if i % 6 < B 9 0 then sGive B i (if i / 6 = j / 6 ∧ i % 6 ≤ j % 6 then d else B 1 i) else 0) i + sGive B i (B 1 i) from gsm_s ((if_pos h36).trans (congrArg (sGive B i) (if_neg (by omega))))] at h9
            exact h9
          · skip
            refine g_aload hC (gDec_at DX0_givesIfLost_0 26 rfl) rfl ?_
            refine g_get (w := wC q) hC (15 + i) (v := .int (nI (i % 6 + 1))) fl_X0_49 (show 15 + i < 63 from by have := (by omega); omega) (cC_p0 q _ _ (by omega)) (g_sv (ci_arm hI (by omega))) (gDec_at DX0_givesIfLost_0 27 rfl) ?_
            refine g_aload_n hC (gDec_at DX0_givesIfLost_0 28 rfl) rfl ?_
            refine g_get (w := wC q) hC (15 + j) (v := .int (nI (j % 6 + 1))) fl_X0_49 (show 15 + j < 63 from by have := hj; omega) (cC_p0 q _ _ hj) (g_sv (ci_arm hI hj)) (gDec_at DX0_givesIfLost_0 29 rfl) ?_
            refine g_icmp_gtN hC (by omega) (by omega) (gDec_at DX0_givesIfLost_0 30 rfl) 67 (by decide) (fun h60 => ?_) (fun h60 => ?_)
            · skip
              refine g_iconst hC (gDec_at DX0_givesIfLost_0 33 rfl) (v := nI 0) (by decide) ?_
              refine g_istore hC (gDec_at DX0_givesIfLost_0 34 rfl) (by decide) (L' := [(9, .int (nI 0)), (8, .ref (q.2.2 (15 + i))), (0, .ref (q.2.2 9)), (1, .ref (q.2.2 (15 + j))), (2, .int (nI d)), (3, .long (lN (gsm (fun i => if i % 6 < B 9 0 then sGive B i (if i / 6 = j / 6 ∧ i % 6 ≤ j % 6 then d else B 1 i) else 0) i))), (5, .ref (q.2.2 11)), (6, .int (nI 12)), (7, .int (nI i))]) rfl ?_
              refine g_lload_n hC (gDec_at DX0_givesIfLost_0 35 rfl) rfl ?_
              refine g_aload_n hC (gDec_at DX0_givesIfLost_0 36 rfl) rfl ?_
              refine g_aload hC (gDec_at DX0_givesIfLost_0 37 rfl) rfl ?_
              refine g_iload hC (gDec_at DX0_givesIfLost_0 38 rfl) rfl ?_
              refine g_if_eqN hC (by decide) (gDec_at DX0_givesIfLost_0 39 rfl) 84 (by decide) (fun h => ?_) (fun h => absurd h (by decide))
              refine g_aload hC (gDec_at DX0_givesIfLost_0 43 rfl) rfl ?_
              refine g_get (w := wC q) hC (15 + i) (v := .int (nI (B 1 i))) fl_X0_89 (show 15 + i < 63 from by have := (by omega); omega) (cC_p0 q _ _ (by omega)) (g_sv (ci_f1 hI (by omega) (by omega))) (gDec_at DX0_givesIfLost_0 44 rfl) ?_
              refine g_i2lN hC (by omega) (gDec_at DX0_givesIfLost_0 45 rfl) ?_
              refine g_callVd (w := wC q) hC 9 (c_X0_giveAtDepth q hI (by omega) (by omega) (by omega)) vf_X0_giveAtDepth ml_X0_92 (by decide) (show 9 < 63 from by decide) rfl rfl rfl rfl rfl (Nat.le_of_ble_eq_true rfl) (gDec_at DX0_givesIfLost_0 46 rfl) ?_
              refine g_laddN hC (gDec_at DX0_givesIfLost_0 47 rfl) ?_
              refine g_lstore_n hC (gDec_at DX0_givesIfLost_0 48 rfl) (by decide) (L' := [(3, .long (lN ((gsm (fun i => if i % 6 < B 9 0 then sGive B i (if i / 6 = j / 6 ∧ i % 6 ≤ j % 6 then d else B 1 i) else 0) i) + (sGive B i (B 1 i))))), (9, .int (nI 0)), (8, .ref (q.2.2 (15 + i))), (0, .ref (q.2.2 9)), (1, .ref (q.2.2 (15 + j))), (2, .int (nI d)), (5, .ref (q.2.2 11)), (6, .int (nI 12)), (7, .int (nI i))]) rfl ?_
              refine g_iincN hC (gDec_at DX0_givesIfLost_0 49 rfl) rfl (by decide) (L' := [(7, .int (nI (i + 1))), (3, .long (lN ((gsm (fun i => if i % 6 < B 9 0 then sGive B i (if i / 6 = j / 6 ∧ i % 6 ≤ j % 6 then d else B 1 i) else 0) i) + (sGive B i (B 1 i))))), (9, .int (nI 0)), (8, .ref (q.2.2 (15 + i))), (0, .ref (q.2.2 9)), (1, .ref (q.2.2 (15 + j))), (2, .int (nI d)), (5, .ref (q.2.2 11)), (6, .int (nI 12))]) rfl ?_
              refine g_goto hC (gDec_at DX0_givesIfLost_0 50 rfl) 16 (by decide) ?_
              refine g_sub [4, 5, 6, 1, 7, 8, 0] (L' := [(0, .ref (q.2.2 9)), (1, .ref (q.2.2 (15 + j))), (2, .int (nI d)), (3, .long (lN ((gsm (fun i => if i % 6 < B 9 0 then sGive B i (if i / 6 = j / 6 ∧ i % 6 ≤ j % 6 then d else B 1 i) else 0) i) + (sGive B i (B 1 i))))), (5, .ref (q.2.2 11)), (6, .int (nI 12)), (7, .int (nI (i + 1)))]) rfl ?_
              have h9 := ih (i + 1) (by omega) (by omega)
              rw [show gsm (fun i => if i % 6 < B 9 0 then sGive B i (if i / 6 = j / 6 ∧ i % 6 ≤ j % 6 then d else B 1 i) else 0) (i + 1) = gsm (fun i => if i % 6 < B 9 0 then sGive B i (if i / 6 = j / 6 ∧ i % 6 ≤ j % 6 then d else B 1 i) else 0) i + sGive B i (B 1 i) from gsm_s ((if_pos h36).trans (congrArg (sGive B i) (if_neg (by omega))))] at h9
              exact h9
            · skip
              refine g_iconst hC (gDec_at DX0_givesIfLost_0 31 rfl) (v := nI 1) (by decide) ?_
              refine g_goto hC (gDec_at DX0_givesIfLost_0 32 rfl) 68 (by decide) ?_
              refine g_istore hC (gDec_at DX0_givesIfLost_0 34 rfl) (by decide) (L' := [(9, .int (nI 1)), (8, .ref (q.2.2 (15 + i))), (0, .ref (q.2.2 9)), (1, .ref (q.2.2 (15 + j))), (2, .int (nI d)), (3, .long (lN (gsm (fun i => if i % 6 < B 9 0 then sGive B i (if i / 6 = j / 6 ∧ i % 6 ≤ j % 6 then d else B 1 i) else 0) i))), (5, .ref (q.2.2 11)), (6, .int (nI 12)), (7, .int (nI i))]) rfl ?_
              refine g_lload_n hC (gDec_at DX0_givesIfLost_0 35 rfl) rfl ?_
              refine g_aload_n hC (gDec_at DX0_givesIfLost_0 36 rfl) rfl ?_
              refine g_aload hC (gDec_at DX0_givesIfLost_0 37 rfl) rfl ?_
              refine g_iload hC (gDec_at DX0_givesIfLost_0 38 rfl) rfl ?_
              refine g_if_eqN hC (by decide) (gDec_at DX0_givesIfLost_0 39 rfl) 84 (by decide) (fun h => absurd h (by decide)) (fun h => ?_)
              refine g_iload_n hC (gDec_at DX0_givesIfLost_0 40 rfl) rfl ?_
              refine g_i2lN hC (by omega) (gDec_at DX0_givesIfLost_0 41 rfl) ?_
              refine g_goto hC (gDec_at DX0_givesIfLost_0 42 rfl) 90 (by decide) ?_
              refine g_callVd (w := wC q) hC 9 (c_X0_giveAtDepth q hI (by omega) (by omega) (by omega)) vf_X0_giveAtDepth ml_X0_92 (by decide) (show 9 < 63 from by decide) rfl rfl rfl rfl rfl (Nat.le_of_ble_eq_true rfl) (gDec_at DX0_givesIfLost_0 46 rfl) ?_
              refine g_laddN hC (gDec_at DX0_givesIfLost_0 47 rfl) ?_
              refine g_lstore_n hC (gDec_at DX0_givesIfLost_0 48 rfl) (by decide) (L' := [(3, .long (lN ((gsm (fun i => if i % 6 < B 9 0 then sGive B i (if i / 6 = j / 6 ∧ i % 6 ≤ j % 6 then d else B 1 i) else 0) i) + (sGive B i d)))), (9, .int (nI 1)), (8, .ref (q.2.2 (15 + i))), (0, .ref (q.2.2 9)), (1, .ref (q.2.2 (15 + j))), (2, .int (nI d)), (5, .ref (q.2.2 11)), (6, .int (nI 12)), (7, .int (nI i))]) rfl ?_
              refine g_iincN hC (gDec_at DX0_givesIfLost_0 49 rfl) rfl (by decide) (L' := [(7, .int (nI (i + 1))), (3, .long (lN ((gsm (fun i => if i % 6 < B 9 0 then sGive B i (if i / 6 = j / 6 ∧ i % 6 ≤ j % 6 then d else B 1 i) else 0) i) + (sGive B i d)))), (9, .int (nI 1)), (8, .ref (q.2.2 (15 + i))), (0, .ref (q.2.2 9)), (1, .ref (q.2.2 (15 + j))), (2, .int (nI d)), (5, .ref (q.2.2 11)), (6, .int (nI 12))]) rfl ?_
              refine g_goto hC (gDec_at DX0_givesIfLost_0 50 rfl) 16 (by decide) ?_
              refine g_sub [4, 5, 6, 1, 7, 8, 0] (L' := [(0, .ref (q.2.2 9)), (1, .ref (q.2.2 (15 + j))), (2, .int (nI d)), (3, .long (lN ((gsm (fun i => if i % 6 < B 9 0 then sGive B i (if i / 6 = j / 6 ∧ i % 6 ≤ j % 6 then d else B 1 i) else 0) i) + (sGive B i d)))), (5, .ref (q.2.2 11)), (6, .int (nI 12)), (7, .int (nI (i + 1)))]) rfl ?_
              have h9 := ih (i + 1) (by omega) (by omega)
              rw [show gsm (fun i => if i % 6 < B 9 0 then sGive B i (if i / 6 = j / 6 ∧ i % 6 ≤ j % 6 then d else B 1 i) else 0) (i + 1) = gsm (fun i => if i % 6 < B 9 0 then sGive B i (if i / 6 = j / 6 ∧ i % 6 ≤ j % 6 then d else B 1 i) else 0) i + sGive B i d from gsm_s ((if_pos h36).trans (congrArg (sGive B i) (if_pos ⟨by omega, by omega⟩)))] at h9
              exact h9
  exact g_sub [4, 5, 6, 3, 2, 1, 0] rfl (loop16 (12 + 1 - 0) 0 (by omega) (by omega))

def sLd (B : gB) : Nat := gsm (fun i => if i % 6 < B 9 0 then B 0 i * B 1 i * (B 9 0 - i % 6) else 0) 12
theorem sLd_t {B : gB} (h : bV B) {i : Nat} (hi : i < 12) (ht : i % 6 < B 9 0) : B 0 i * B 1 i * (B 9 0 - i % 6) ≤ 2160 := by
  have h0 := bv_f0 h hi ht
  have h1 := bv_f1 h hi ht
  have hm := bv_many h
  exact mul_bd (mul_bd h0.2 h1.2) (by omega : B 9 0 - i % 6 ≤ 6)
theorem sLd_le {B : gB} (h : bV B) : sLd B ≤ 25920 := gsm_le (n := 12) (c := 2160) (fun k hk => by
  split
  · exact sLd_t h hk (by assumption)
  · omega)
set_option maxRecDepth 100000 in
set_option maxHeartbeats 4000000 in
theorem c_X0_load (q : gQ3) {M : gM} {B : gB} (hI : cI M B) : gCt (wC q) yX0_load cX0_load 7 (some .long) 1 [.ref (q.2.2 9)] M (gR (some (.long (lN (sLd B / 100)))) M) := by
  refine gMet RX0 (by decide +kernel) rfl (Nat.le_of_ble_eq_true rfl) (fun X hC => ?_)
  have hC : gC X (wC q) cX0_load 7 RX0 (some .long) 1 := hC
  show gG X (wC q) _ 7 M 0 [(0, .ref (q.2.2 9))] []
  have hl := sLd_le hI.2.2
  refine g_lconst hC (gDec_at DX0_load_0 0 rfl) (v := lN 0) (by decide) ?_
  refine g_lstore_n hC (gDec_at DX0_load_0 1 rfl) (by decide) (L' := [(1, .long (lN 0)), (0, .ref (q.2.2 9))]) rfl ?_
  refine g_aload_n hC (gDec_at DX0_load_0 2 rfl) rfl ?_
  refine g_get (w := wC q) hC 9 (v := .ref (q.2.2 11)) fl_X0_22 (show 9 < 63 from by decide) rfl rfl (gDec_at DX0_load_0 3 rfl) ?_
  refine g_astore_n hC (gDec_at DX0_load_0 4 rfl) (by decide) (L' := [(3, .ref (q.2.2 11)), (1, .long (lN 0)), (0, .ref (q.2.2 9))]) rfl ?_
  refine g_aload_n hC (gDec_at DX0_load_0 5 rfl) rfl ?_
  refine g_alen (w := wC q) hC 11 3 (show 11 < 63 from by decide) rfl rfl (gDec_at DX0_load_0 6 rfl) ?_
  refine g_istore hC (gDec_at DX0_load_0 7 rfl) (by decide) (L' := [(4, .int (nI 12)), (3, .ref (q.2.2 11)), (1, .long (lN 0)), (0, .ref (q.2.2 9))]) rfl ?_
  refine g_iconst hC (gDec_at DX0_load_0 8 rfl) (v := nI 0) (by decide) ?_
  refine g_istore hC (gDec_at DX0_load_0 9 rfl) (by decide) (L' := [(5, .int (nI 0)), (4, .int (nI 12)), (3, .ref (q.2.2 11)), (1, .long (lN 0)), (0, .ref (q.2.2 9))]) rfl ?_
  have loop14 : ∀ (fu i : Nat), i ≤ 12 → 12 - i < fu → gG X (wC q) (gR (some (.long (lN (sLd B / 100)))) M) 7 M 14 [(0, .ref (q.2.2 9)), (1, .long (lN (gsm (fun i => if i % 6 < B 9 0 then B 0 i * B 1 i * (B 9 0 - i % 6) else 0) i))), (3, .ref (q.2.2 11)), (4, .int (nI 12)), (5, .int (nI i))] [] := by
    intro fu; induction fu with
    | zero => intro i h1 h2; omega
    | succ fu ih =>
      intro i hi hfu 
      refine g_iload hC (gDec_at DX0_load_0 10 rfl) rfl ?_
      refine g_iload hC (gDec_at DX0_load_0 11 rfl) rfl ?_
      refine g_icmp_geN hC (by omega) (by omega) (gDec_at DX0_load_0 12 rfl) 70 (by decide) (fun h18 => ?_) (fun h18 => ?_)
      · skip
        obtain rfl : i = 12 := by omega
        have hl2 : gsm (fun i => if i % 6 < B 9 0 then B 0 i * B 1 i * (B 9 0 - i % 6) else 0) 12 ≤ 25920 := hl
        refine g_lload_n hC (gDec_at DX0_load_0 40 rfl) rfl ?_
        refine g_ldc2 hC cl_X0_171 (v' := lN 100) (by decide) (gDec_at DX0_load_0 41 rfl) ?_
        refine g_ldivN hC (by omega) (by omega) (by omega) (gDec_at DX0_load_0 42 rfl) ?_
        refine g_lret hC (gDec_at DX0_load_0 43 rfl) ?_
        exact ⟨rfl, rfl⟩
      · skip
        refine g_aload_n hC (gDec_at DX0_load_0 13 rfl) rfl ?_
        refine g_iload hC (gDec_at DX0_load_0 14 rfl) rfl ?_
        refine g_aald (w := wC q) hC 11 3 i (a := q.2.2 (15 + i)) (show 11 < 63 from by decide) rfl rfl (by omega) (by decide) rfl (gDec_at DX0_load_0 15 rfl) ?_
        refine g_astore hC (gDec_at DX0_load_0 16 rfl) (by decide) (L' := [(6, .ref (q.2.2 (15 + i))), (0, .ref (q.2.2 9)), (1, .long (lN (gsm (fun i => if i % 6 < B 9 0 then B 0 i * B 1 i * (B 9 0 - i % 6) else 0) i))), (3, .ref (q.2.2 11)), (4, .int (nI 12)), (5, .int (nI i))]) rfl ?_
        refine g_aload_n hC (gDec_at DX0_load_0 17 rfl) rfl ?_
        refine g_aload hC (gDec_at DX0_load_0 18 rfl) rfl ?_
        refine g_callVd (w := wC q) hC 9 (c_X0_has q hI (by omega)) vf_X0_has ml_X0_42 (by decide) (show 9 < 63 from by decide) rfl rfl rfl rfl rfl (Nat.le_of_ble_eq_true rfl) (gDec_at DX0_load_0 19 rfl) ?_
        refine g_if_eqB hC (gDec_at DX0_load_0 20 rfl) 64 (by decide) (fun h33 => ?_) (fun h33 => ?_)
        · skip
          refine g_iincN hC (gDec_at DX0_load_0 38 rfl) rfl (by decide) (L' := [(5, .int (nI (i + 1))), (6, .ref (q.2.2 (15 + i))), (0, .ref (q.2.2 9)), (1, .long (lN (gsm (fun i => if i % 6 < B 9 0 then B 0 i * B 1 i * (B 9 0 - i % 6) else 0) i))), (3, .ref (q.2.2 11)), (4, .int (nI 12))]) rfl ?_
          refine g_goto hC (gDec_at DX0_load_0 39 rfl) 14 (by decide) ?_
          refine g_sub [2, 3, 4, 5, 0] (L' := [(0, .ref (q.2.2 9)), (1, .long (lN (gsm (fun i => if i % 6 < B 9 0 then B 0 i * B 1 i * (B 9 0 - i % 6) else 0) i))), (3, .ref (q.2.2 11)), (4, .int (nI 12)), (5, .int (nI (i + 1)))]) rfl ?_
          have h9 := ih (i + 1) (by omega) (by omega)
          rw [show gsm (fun i => if i % 6 < B 9 0 then B 0 i * B 1 i * (B 9 0 - i % 6) else 0) (i + 1) = gsm (fun i => if i % 6 < B 9 0 then B 0 i * B 1 i * (B 9 0 - i % 6) else 0) i from gsm_s0 (if_neg h33)] at h9
          exact h9
        · skip
          have hs := sLd_t hI.2.2 (by omega : i < 12) h33
          rw [← Nat.add_sub_add_right (B 9 0) 1 (i % 6)] at hs
          refine g_lload_n hC (gDec_at DX0_load_0 21 rfl) rfl ?_
          refine g_aload hC (gDec_at DX0_load_0 22 rfl) rfl ?_
          refine g_get (w := wC q) hC (15 + i) (v := .int (nI (B 0 i))) fl_X0_102 (show 15 + i < 63 from by have := (by omega); omega) (cC_p0 q _ _ (by omega)) (g_sv (ci_f0 hI (by omega) (by omega))) (gDec_at DX0_load_0 23 rfl) ?_
          refine g_aload hC (gDec_at DX0_load_0 24 rfl) rfl ?_
          refine g_get (w := wC q) hC (15 + i) (v := .int (nI (B 1 i))) fl_X0_89 (show 15 + i < 63 from by have := (by omega); omega) (cC_p0 q _ _ (by omega)) (g_sv (ci_f1 hI (by omega) (by omega))) (gDec_at DX0_load_0 25 rfl) ?_
          refine g_imulN hC (gDec_at DX0_load_0 26 rfl) ?_
          refine g_aload_n hC (gDec_at DX0_load_0 27 rfl) rfl ?_
          refine g_get (w := wC q) hC 9 (v := .int (nI (B 9 0))) fl_X0_29 (show 9 < 63 from by decide) rfl (g_sv (ci_many hI)) (gDec_at DX0_load_0 28 rfl) ?_
          refine g_iconst hC (gDec_at DX0_load_0 29 rfl) (v := nI 1) (by decide) ?_
          refine g_iaddN hC (gDec_at DX0_load_0 30 rfl) ?_
          refine g_aload hC (gDec_at DX0_load_0 31 rfl) rfl ?_
          refine g_get (w := wC q) hC (15 + i) (v := .int (nI (i % 6 + 1))) fl_X0_49 (show 15 + i < 63 from by have := (by omega); omega) (cC_p0 q _ _ (by omega)) (g_sv (ci_arm hI (by omega))) (gDec_at DX0_load_0 32 rfl) ?_
          refine g_isubN hC (by omega) (gDec_at DX0_load_0 33 rfl) ?_
          refine g_imulN hC (gDec_at DX0_load_0 34 rfl) ?_
          refine g_i2lN hC (by omega) (gDec_at DX0_load_0 35 rfl) ?_
          refine g_laddN hC (gDec_at DX0_load_0 36 rfl) ?_
          refine g_lstore_n hC (gDec_at DX0_load_0 37 rfl) (by decide) (L' := [(1, .long (lN ((gsm (fun i => if i % 6 < B 9 0 then B 0 i * B 1 i * (B 9 0 - i % 6) else 0) i) + (((B 0 i) * (B 1 i)) * (((B 9 0) + 1) - (i % 6 + 1)))))), (6, .ref (q.2.2 (15 + i))), (0, .ref (q.2.2 9)), (3, .ref (q.2.2 11)), (4, .int (nI 12)), (5, .int (nI i))]) rfl ?_
          refine g_iincN hC (gDec_at DX0_load_0 38 rfl) rfl (by decide) (L' := [(5, .int (nI (i + 1))), (1, .long (lN ((gsm (fun i => if i % 6 < B 9 0 then B 0 i * B 1 i * (B 9 0 - i % 6) else 0) i) + (((B 0 i) * (B 1 i)) * (((B 9 0) + 1) - (i % 6 + 1)))))), (6, .ref (q.2.2 (15 + i))), (0, .ref (q.2.2 9)), (3, .ref (q.2.2 11)), (4, .int (nI 12))]) rfl ?_
          refine g_goto hC (gDec_at DX0_load_0 39 rfl) 14 (by decide) ?_
          refine g_sub [3, 1, 4, 5, 0] (L' := [(0, .ref (q.2.2 9)), (1, .long (lN ((gsm (fun i => if i % 6 < B 9 0 then B 0 i * B 1 i * (B 9 0 - i % 6) else 0) i) + (((B 0 i) * (B 1 i)) * (((B 9 0) + 1) - (i % 6 + 1)))))), (3, .ref (q.2.2 11)), (4, .int (nI 12)), (5, .int (nI (i + 1)))]) rfl ?_
          have h9 := ih (i + 1) (by omega) (by omega)
          rw [show gsm (fun i => if i % 6 < B 9 0 then B 0 i * B 1 i * (B 9 0 - i % 6) else 0) (i + 1) = gsm (fun i => if i % 6 < B 9 0 then B 0 i * B 1 i * (B 9 0 - i % 6) else 0) i + B 0 i * B 1 i * (B 9 0 + 1 - (i % 6 + 1)) from gsm_s ((if_pos h33).trans (by rw [Nat.add_sub_add_right]))] at h9
          exact h9
  exact g_sub [4, 3, 2, 1, 0] rfl (loop14 (12 + 1 - 0) 0 (by omega) (by omega))

/-- the first of d, d + 1 .. (n of them) for which P holds; 0: none -/
def ffirst (P : Nat → Prop) [DecidablePred P] : Nat → Nat → Nat
  | 0, _ => 0
  | n + 1, d => if P d then d else ffirst P n (d + 1)
theorem ffirst_spec {P : Nat → Prop} [DecidablePred P] : ∀ (n d : Nat), ffirst P n d = 0 ∨ (d ≤ ffirst P n d ∧ ffirst P n d < d + n ∧ P (ffirst P n d))
  | 0, _ => Or.inl rfl
  | n + 1, d => by
    unfold ffirst
    by_cases h : P d
    · rw [if_pos h]; exact Or.inr ⟨Nat.le_refl _, by omega, h⟩
    · rw [if_neg h]
      rcases ffirst_spec (P := P) n (d + 1) with h1 | ⟨h1, h2, h3⟩
      · exact Or.inl h1
      · exact Or.inr ⟨by omega, by omega, h3⟩
def sForm (B : gB) (j f s : Nat) : Nat := ffirst (fun d => 1000 * f * (j % 6 + 1) ≤ s * B 6 (B 2 j) * B 0 j * d * d) 37 4
theorem sForm_in (B : gB) (j f s : Nat) : sForm B j f s = 0 ∨ (4 ≤ sForm B j f s ∧ sForm B j f s ≤ 40) := by
  rcases ffirst_spec (P := fun d => 1000 * f * (j % 6 + 1) ≤ s * B 6 (B 2 j) * B 0 j * d * d) 37 4 with h | ⟨h1, h2, -⟩
  · exact Or.inl h
  · exact Or.inr ⟨h1, by unfold sForm; omega⟩
def fk (n : Nat) : Int32 := if n = 0 then -9 else nI n
theorem fk_n {n : Nat} (h : n < 2147483648) : fk n = -9 ↔ n = 0 := by
  unfold fk
  by_cases e : n = 0
  · simp [e]
  · rw [if_neg e]
    constructor
    · intro q
      have h1 := nI_toInt h
      rw [q] at h1
      have h2 : (-9 : Int32).toInt = -9 := by decide
      omega
    · intro q; exact absurd q e
set_option maxRecDepth 100000 in
set_option maxHeartbeats 4000000 in
theorem c_X0_formDepth (q : gQ3) {M : gM} {B : gB} (hI : cI M B) {j : Nat} (hj : j < 12) (ht : j % 6 < B 9 0) {f s : Nat} (hf : f ≤ 999) (hs : s ≤ 99) : gCt (wC q) yX0_formDepth cX0_formDepth 7 (some .int) 1 [.ref (q.2.2 9), .ref (q.2.2 (15 + j)), .int (nI f), .int (nI s)] M (gR (some (.int (fk (sForm B j f s)))) M) := by
  refine gMet RX0 (by decide +kernel) rfl (Nat.le_of_ble_eq_true rfl) (fun X hC => ?_)
  have hC : gC X (wC q) cX0_formDepth 7 RX0 (some .int) 1 := hC
  show gG X (wC q) _ 7 M 0 [(0, .ref (q.2.2 9)), (1, .ref (q.2.2 (15 + j))), (2, .int (nI f)), (3, .int (nI s))] []
  have h0 := bv_f0 hI.2.2 hj ht
  have he := bv_e hI.2.2 (bv_f2 hI.2.2 hj ht)
  have h6 : j % 6 + 1 ≤ 6 := by omega
  have hn := mul_bd (mul_bd (Nat.le_refl 1000) hf) h6
  show gG X _ _ _ _ _ _ _
  refine g_ldc2 hC cl_X0_136 (v' := lN 1000) (by decide) (gDec_at DX0_formDepth_0 0 rfl) ?_
  refine g_iload_n hC (gDec_at DX0_formDepth_0 1 rfl) rfl ?_
  refine g_i2lN hC (by omega) (gDec_at DX0_formDepth_0 2 rfl) ?_
  refine g_lmulN hC (gDec_at DX0_formDepth_0 3 rfl) ?_
  refine g_aload_n hC (gDec_at DX0_formDepth_0 4 rfl) rfl ?_
  refine g_get (w := wC q) hC (15 + j) (v := .int (nI (j % 6 + 1))) fl_X0_49 (show 15 + j < 63 from by have := hj; omega) (cC_p0 q _ _ hj) (g_sv (ci_arm hI hj)) (gDec_at DX0_formDepth_0 5 rfl) ?_
  refine g_i2lN hC (by omega) (gDec_at DX0_formDepth_0 6 rfl) ?_
  refine g_lmulN hC (gDec_at DX0_formDepth_0 7 rfl) ?_
  refine g_lstore hC (gDec_at DX0_formDepth_0 8 rfl) (by decide) (L' := [(4, .long (lN ((1000 * f) * (j % 6 + 1)))), (0, .ref (q.2.2 9)), (1, .ref (q.2.2 (15 + j))), (2, .int (nI f)), (3, .int (nI s))]) rfl ?_
  refine g_iconst hC (gDec_at DX0_formDepth_0 9 rfl) (v := nI 4) (by decide) ?_
  refine g_istore hC (gDec_at DX0_formDepth_0 10 rfl) (by decide) (L' := [(6, .int (nI 4)), (4, .long (lN ((1000 * f) * (j % 6 + 1)))), (0, .ref (q.2.2 9)), (1, .ref (q.2.2 (15 + j))), (2, .int (nI f)), (3, .int (nI s))]) rfl ?_
  have loop17 : ∀ (fu i : Nat), i ≤ 41 → 41 - i < fu → 4 ≤ i → sForm B j f s = ffirst (fun d => 1000 * f * (j % 6 + 1) ≤ s * B 6 (B 2 j) * B 0 j * d * d) (41 - i) i → gG X (wC q) (gR (some (.int (fk (sForm B j f s)))) M) 7 M 17 [(0, .ref (q.2.2 9)), (1, .ref (q.2.2 (15 + j))), (2, .int (nI f)), (3, .int (nI s)), (4, .long (lN (1000 * f * (j % 6 + 1)))), (6, .int (nI i))] [] := by
    intro fu; induction fu with
    | zero => intro i h1 h2; omega
    | succ fu ih =>
      intro i hi hfu h4i hff
      have hdd := mul_bd (mul_bd (mul_bd (mul_bd hs he.2) h0.2) (by omega : i ≤ 41)) (by omega : i ≤ 41)
      refine g_iload hC (gDec_at DX0_formDepth_0 11 rfl) rfl ?_
      refine g_bipush hC (gDec_at DX0_formDepth_0 12 rfl) (v := nI 40) (by decide) ?_
      refine g_icmp_gtN hC (by omega) (by omega) (gDec_at DX0_formDepth_0 13 rfl) 61 (by decide) (fun h21 => ?_) (fun h21 => ?_)
      · skip
        obtain rfl : i = 41 := by omega
        refine g_bipush hC (gDec_at DX0_formDepth_0 37 rfl) (v := -9) (by decide) ?_
        refine g_iret hC (gDec_at DX0_formDepth_0 38 rfl) ?_
        exact ⟨by rw [show sForm B j f s = 0 from hff]; rfl, rfl⟩
      · skip
        refine g_lload hC (gDec_at DX0_formDepth_0 14 rfl) rfl ?_
        refine g_iload_n hC (gDec_at DX0_formDepth_0 15 rfl) rfl ?_
        refine g_i2lN hC (by omega) (gDec_at DX0_formDepth_0 16 rfl) ?_
        refine g_aload_n hC (gDec_at DX0_formDepth_0 17 rfl) rfl ?_
        refine g_aload_n hC (gDec_at DX0_formDepth_0 18 rfl) rfl ?_
        refine g_callVd (w := wC q) hC 9 (c_X0_eOf q hI hj ht) vf_X0_eOf ml_X0_98 (by decide) (show 9 < 63 from by decide) rfl rfl rfl rfl rfl (Nat.le_of_ble_eq_true rfl) (gDec_at DX0_formDepth_0 19 rfl) ?_
        refine g_lmulN hC (gDec_at DX0_formDepth_0 20 rfl) ?_
        refine g_aload_n hC (gDec_at DX0_formDepth_0 21 rfl) rfl ?_
        refine g_get (w := wC q) hC (15 + j) (v := .int (nI (B 0 j))) fl_X0_102 (show 15 + j < 63 from by have := hj; omega) (cC_p0 q _ _ hj) (g_sv (ci_f0 hI hj ht)) (gDec_at DX0_formDepth_0 22 rfl) ?_
        refine g_i2lN hC (by omega) (gDec_at DX0_formDepth_0 23 rfl) ?_
        refine g_lmulN hC (gDec_at DX0_formDepth_0 24 rfl) ?_
        refine g_iload hC (gDec_at DX0_formDepth_0 25 rfl) rfl ?_
        refine g_i2lN hC (by omega) (gDec_at DX0_formDepth_0 26 rfl) ?_
        refine g_lmulN hC (gDec_at DX0_formDepth_0 27 rfl) ?_
        refine g_iload hC (gDec_at DX0_formDepth_0 28 rfl) rfl ?_
        refine g_i2lN hC (by omega) (gDec_at DX0_formDepth_0 29 rfl) ?_
        refine g_lmulN hC (gDec_at DX0_formDepth_0 30 rfl) ?_
        refine g_lc_gtN hC (by omega) (by omega) (gDec_at DX0_formDepth_0 31 rfl) (gDec_at DX0_formDepth_0 32 rfl) 55 (by decide) (fun h48 => ?_) (fun h48 => ?_)
        · skip
          refine g_iincN hC (gDec_at DX0_formDepth_0 35 rfl) rfl (by decide) (L' := [(6, .int (nI (i + 1))), (0, .ref (q.2.2 9)), (1, .ref (q.2.2 (15 + j))), (2, .int (nI f)), (3, .int (nI s)), (4, .long (lN (1000 * f * (j % 6 + 1))))]) rfl ?_
          refine g_goto hC (gDec_at DX0_formDepth_0 36 rfl) 17 (by decide) ?_
          refine g_sub [1, 2, 3, 4, 5, 0] (L' := [(0, .ref (q.2.2 9)), (1, .ref (q.2.2 (15 + j))), (2, .int (nI f)), (3, .int (nI s)), (4, .long (lN (1000 * f * (j % 6 + 1)))), (6, .int (nI (i + 1)))]) rfl ?_
          have h9 := ih (i + 1) (by omega) (by omega) (by omega) (by rw [hff, show 41 - i = (41 - (i + 1)) + 1 by omega]; exact if_neg (by omega))
          exact h9
        · skip
          refine g_iload hC (gDec_at DX0_formDepth_0 33 rfl) rfl ?_
          refine g_iret hC (gDec_at DX0_formDepth_0 34 rfl) ?_
          exact ⟨by rw [show sForm B j f s = i from by rw [hff, show 41 - i = (40 - i) + 1 by omega]; exact if_pos (by omega)]; unfold fk; rw [if_neg (by omega)], rfl⟩
  exact g_sub [2, 3, 4, 5, 1, 0] rfl (loop17 (41 + 1 - 4) 4 (by omega) (by omega) (by omega) rfl)

def sHas (B : gB) (f s : Nat) : Prop := ∀ j, j < 12 → j % 6 < B 9 0 → ¬ sForm B j f s = 0
theorem fk_ne {B : gB} {i f s : Nat} : (¬ fk (sForm B i f s) = -9) ↔ ¬ sForm B i f s = 0 := by
  rw [fk_n (by rcases sForm_in B i f s with h | h <;> omega)]
set_option maxRecDepth 100000 in
set_option maxHeartbeats 4000000 in
theorem c_X0_hasForm (q : gQ3) {M : gM} {B : gB} (hI : cI M B) {f s : Nat} (hf : f ≤ 999) (hs : s ≤ 99) (hh : sHas B f s) : gCt (wC q) yX0_hasForm cX0_hasForm 7 (some .boolean) 2 [.ref (q.2.2 9), .int (nI f), .int (nI s)] M (gR (some (.int 1)) M) := by
  refine gMet RX0 (by decide +kernel) rfl (Nat.le_of_ble_eq_true rfl) (fun X hC => ?_)
  have hC : gC X (wC q) cX0_hasForm 7 RX0 (some .boolean) 2 := hC
  show gG X (wC q) _ 7 M 0 [(0, .ref (q.2.2 9)), (1, .int (nI f)), (2, .int (nI s))] []
  refine g_aload_n hC (gDec_at DX0_hasForm_0 0 rfl) rfl ?_
  refine g_get (w := wC q) hC 9 (v := .ref (q.2.2 11)) fl_X0_22 (show 9 < 63 from by decide) rfl rfl (gDec_at DX0_hasForm_0 1 rfl) ?_
  refine g_astore_n hC (gDec_at DX0_hasForm_0 2 rfl) (by decide) (L' := [(3, .ref (q.2.2 11)), (0, .ref (q.2.2 9)), (1, .int (nI f)), (2, .int (nI s))]) rfl ?_
  refine g_aload_n hC (gDec_at DX0_hasForm_0 3 rfl) rfl ?_
  refine g_alen (w := wC q) hC 11 3 (show 11 < 63 from by decide) rfl rfl (gDec_at DX0_hasForm_0 4 rfl) ?_
  refine g_istore hC (gDec_at DX0_hasForm_0 5 rfl) (by decide) (L' := [(4, .int (nI 12)), (3, .ref (q.2.2 11)), (0, .ref (q.2.2 9)), (1, .int (nI f)), (2, .int (nI s))]) rfl ?_
  refine g_iconst hC (gDec_at DX0_hasForm_0 6 rfl) (v := nI 0) (by decide) ?_
  refine g_istore hC (gDec_at DX0_hasForm_0 7 rfl) (by decide) (L' := [(5, .int (nI 0)), (4, .int (nI 12)), (3, .ref (q.2.2 11)), (0, .ref (q.2.2 9)), (1, .int (nI f)), (2, .int (nI s))]) rfl ?_
  have loop12 : ∀ (fu i : Nat), i ≤ 12 → 12 - i < fu → gG X (wC q) (gR (some (.int 1)) M) 7 M 12 [(0, .ref (q.2.2 9)), (1, .int (nI f)), (2, .int (nI s)), (3, .ref (q.2.2 11)), (4, .int (nI 12)), (5, .int (nI i))] [] := by
    intro fu; induction fu with
    | zero => intro i h1 h2; omega
    | succ fu ih =>
      intro i hi hfu 
      refine g_iload hC (gDec_at DX0_hasForm_0 8 rfl) rfl ?_
      refine g_iload hC (gDec_at DX0_hasForm_0 9 rfl) rfl ?_
      refine g_icmp_geN hC (by omega) (by omega) (gDec_at DX0_hasForm_0 10 rfl) 55 (by decide) (fun h16 => ?_) (fun h16 => ?_)
      · skip
        obtain rfl : i = 12 := by omega
        refine g_iconst hC (gDec_at DX0_hasForm_0 30 rfl) (v := nI 1) (by decide) ?_
        refine g_zret hC (Or.inr rfl) (gDec_at DX0_hasForm_0 31 rfl) ?_
        exact ⟨rfl, rfl⟩
      · skip
        refine g_aload_n hC (gDec_at DX0_hasForm_0 11 rfl) rfl ?_
        refine g_iload hC (gDec_at DX0_hasForm_0 12 rfl) rfl ?_
        refine g_aald (w := wC q) hC 11 3 i (a := q.2.2 (15 + i)) (show 11 < 63 from by decide) rfl rfl (by omega) (by decide) rfl (gDec_at DX0_hasForm_0 13 rfl) ?_
        refine g_astore hC (gDec_at DX0_hasForm_0 14 rfl) (by decide) (L' := [(6, .ref (q.2.2 (15 + i))), (0, .ref (q.2.2 9)), (1, .int (nI f)), (2, .int (nI s)), (3, .ref (q.2.2 11)), (4, .int (nI 12)), (5, .int (nI i))]) rfl ?_
        refine g_aload_n hC (gDec_at DX0_hasForm_0 15 rfl) rfl ?_
        refine g_aload hC (gDec_at DX0_hasForm_0 16 rfl) rfl ?_
        refine g_callVd (w := wC q) hC 9 (c_X0_has q hI (by omega)) vf_X0_has ml_X0_42 (by decide) (show 9 < 63 from by decide) rfl rfl rfl rfl rfl (Nat.le_of_ble_eq_true rfl) (gDec_at DX0_hasForm_0 17 rfl) ?_
        refine g_if_eqB hC (gDec_at DX0_hasForm_0 18 rfl) 49 (by decide) (fun h31 => ?_) (fun h31 => ?_)
        · skip
          refine g_iincN hC (gDec_at DX0_hasForm_0 28 rfl) rfl (by decide) (L' := [(5, .int (nI (i + 1))), (6, .ref (q.2.2 (15 + i))), (0, .ref (q.2.2 9)), (1, .int (nI f)), (2, .int (nI s)), (3, .ref (q.2.2 11)), (4, .int (nI 12))]) rfl ?_
          refine g_goto hC (gDec_at DX0_hasForm_0 29 rfl) 12 (by decide) ?_
          refine g_sub [2, 3, 4, 5, 6, 0] (L' := [(0, .ref (q.2.2 9)), (1, .int (nI f)), (2, .int (nI s)), (3, .ref (q.2.2 11)), (4, .int (nI 12)), (5, .int (nI (i + 1)))]) rfl ?_
          have h9 := ih (i + 1) (by omega) (by omega)
          exact h9
        · skip
          refine g_aload_n hC (gDec_at DX0_hasForm_0 19 rfl) rfl ?_
          refine g_aload hC (gDec_at DX0_hasForm_0 20 rfl) rfl ?_
          refine g_iload_n hC (gDec_at DX0_hasForm_0 21 rfl) rfl ?_
          refine g_iload_n hC (gDec_at DX0_hasForm_0 22 rfl) rfl ?_
          refine g_callVd (w := wC q) hC 9 (c_X0_formDepth q hI (by omega) (by omega) (f := f) (s := s) (by omega) (by omega)) vf_X0_formDepth ml_X0_167 (by decide) (show 9 < 63 from by decide) rfl rfl rfl rfl rfl (Nat.le_of_ble_eq_true rfl) (gDec_at DX0_hasForm_0 23 rfl) ?_
          refine g_bipush hC (gDec_at DX0_hasForm_0 24 rfl) (v := -9) (by decide) ?_
          refine g_icmp_ne hC (gDec_at DX0_hasForm_0 25 rfl) 49 (by decide) (fun h44 => ?_) (fun h44 => ?_)
          · skip
            refine g_iincN hC (gDec_at DX0_hasForm_0 28 rfl) rfl (by decide) (L' := [(5, .int (nI (i + 1))), (6, .ref (q.2.2 (15 + i))), (0, .ref (q.2.2 9)), (1, .int (nI f)), (2, .int (nI s)), (3, .ref (q.2.2 11)), (4, .int (nI 12))]) rfl ?_
            refine g_goto hC (gDec_at DX0_hasForm_0 29 rfl) 12 (by decide) ?_
            refine g_sub [2, 3, 4, 5, 6, 0] (L' := [(0, .ref (q.2.2 9)), (1, .int (nI f)), (2, .int (nI s)), (3, .ref (q.2.2 11)), (4, .int (nI 12)), (5, .int (nI (i + 1)))]) rfl ?_
            have h9 := ih (i + 1) (by omega) (by omega)
            exact h9
          · skip
            exact absurd h44 (fk_ne.mpr (hh i (by omega) h31))
  exact g_sub [3, 4, 5, 2, 1, 0] rfl (loop12 (12 + 1 - 0) 0 (by omega) (by omega))

set_option maxRecDepth 100000 in
set_option maxHeartbeats 4000000 in
theorem c_X0_hasForm_no (q : gQ3) {M : gM} {B : gB} (hI : cI M B) {f s : Nat} (hf : f ≤ 999) (hs : s ≤ 99) (hh : ¬ sHas B f s) : gCt (wC q) yX0_hasForm cX0_hasForm 7 (some .boolean) 2 [.ref (q.2.2 9), .int (nI f), .int (nI s)] M (gR (some (.int 0)) M) := by
  refine gMet RX0 (by decide +kernel) rfl (Nat.le_of_ble_eq_true rfl) (fun X hC => ?_)
  have hC : gC X (wC q) cX0_hasForm 7 RX0 (some .boolean) 2 := hC
  show gG X (wC q) _ 7 M 0 [(0, .ref (q.2.2 9)), (1, .int (nI f)), (2, .int (nI s))] []
  refine g_aload_n hC (gDec_at DX0_hasForm_0 0 rfl) rfl ?_
  refine g_get (w := wC q) hC 9 (v := .ref (q.2.2 11)) fl_X0_22 (show 9 < 63 from by decide) rfl rfl (gDec_at DX0_hasForm_0 1 rfl) ?_
  refine g_astore_n hC (gDec_at DX0_hasForm_0 2 rfl) (by decide) (L' := [(3, .ref (q.2.2 11)), (0, .ref (q.2.2 9)), (1, .int (nI f)), (2, .int (nI s))]) rfl ?_
  refine g_aload_n hC (gDec_at DX0_hasForm_0 3 rfl) rfl ?_
  refine g_alen (w := wC q) hC 11 3 (show 11 < 63 from by decide) rfl rfl (gDec_at DX0_hasForm_0 4 rfl) ?_
  refine g_istore hC (gDec_at DX0_hasForm_0 5 rfl) (by decide) (L' := [(4, .int (nI 12)), (3, .ref (q.2.2 11)), (0, .ref (q.2.2 9)), (1, .int (nI f)), (2, .int (nI s))]) rfl ?_
  refine g_iconst hC (gDec_at DX0_hasForm_0 6 rfl) (v := nI 0) (by decide) ?_
  refine g_istore hC (gDec_at DX0_hasForm_0 7 rfl) (by decide) (L' := [(5, .int (nI 0)), (4, .int (nI 12)), (3, .ref (q.2.2 11)), (0, .ref (q.2.2 9)), (1, .int (nI f)), (2, .int (nI s))]) rfl ?_
  have loop12 : ∀ (fu i : Nat), i ≤ 12 → 12 - i < fu → (∀ j, j < i → j % 6 < B 9 0 → ¬ sForm B j f s = 0) → gG X (wC q) (gR (some (.int 0)) M) 7 M 12 [(0, .ref (q.2.2 9)), (1, .int (nI f)), (2, .int (nI s)), (3, .ref (q.2.2 11)), (4, .int (nI 12)), (5, .int (nI i))] [] := by
    intro fu; induction fu with
    | zero => intro i h1 h2; omega
    | succ fu ih =>
      intro i hi hfu hno
      refine g_iload hC (gDec_at DX0_hasForm_0 8 rfl) rfl ?_
      refine g_iload hC (gDec_at DX0_hasForm_0 9 rfl) rfl ?_
      refine g_icmp_geN hC (by omega) (by omega) (gDec_at DX0_hasForm_0 10 rfl) 55 (by decide) (fun h16 => ?_) (fun h16 => ?_)
      · skip
        obtain rfl : i = 12 := by omega
        exact absurd hno hh --end
      · skip
        refine g_aload_n hC (gDec_at DX0_hasForm_0 11 rfl) rfl ?_
        refine g_iload hC (gDec_at DX0_hasForm_0 12 rfl) rfl ?_
        refine g_aald (w := wC q) hC 11 3 i (a := q.2.2 (15 + i)) (show 11 < 63 from by decide) rfl rfl (by omega) (by decide) rfl (gDec_at DX0_hasForm_0 13 rfl) ?_
        refine g_astore hC (gDec_at DX0_hasForm_0 14 rfl) (by decide) (L' := [(6, .ref (q.2.2 (15 + i))), (0, .ref (q.2.2 9)), (1, .int (nI f)), (2, .int (nI s)), (3, .ref (q.2.2 11)), (4, .int (nI 12)), (5, .int (nI i))]) rfl ?_
        refine g_aload_n hC (gDec_at DX0_hasForm_0 15 rfl) rfl ?_
        refine g_aload hC (gDec_at DX0_hasForm_0 16 rfl) rfl ?_
        refine g_callVd (w := wC q) hC 9 (c_X0_has q hI (by omega)) vf_X0_has ml_X0_42 (by decide) (show 9 < 63 from by decide) rfl rfl rfl rfl rfl (Nat.le_of_ble_eq_true rfl) (gDec_at DX0_hasForm_0 17 rfl) ?_
        refine g_if_eqB hC (gDec_at DX0_hasForm_0 18 rfl) 49 (by decide) (fun h31 => ?_) (fun h31 => ?_)
        · skip
          refine g_iincN hC (gDec_at DX0_hasForm_0 28 rfl) rfl (by decide) (L' := [(5, .int (nI (i + 1))), (6, .ref (q.2.2 (15 + i))), (0, .ref (q.2.2 9)), (1, .int (nI f)), (2, .int (nI s)), (3, .ref (q.2.2 11)), (4, .int (nI 12))]) rfl ?_
          refine g_goto hC (gDec_at DX0_hasForm_0 29 rfl) 12 (by decide) ?_
          refine g_sub [2, 3, 4, 5, 6, 0] (L' := [(0, .ref (q.2.2 9)), (1, .int (nI f)), (2, .int (nI s)), (3, .ref (q.2.2 11)), (4, .int (nI 12)), (5, .int (nI (i + 1)))]) rfl ?_
          have h9 := ih (i + 1) (by omega) (by omega) (fun j hj2 ht2 => by rcases Nat.lt_succ_iff_lt_or_eq.mp hj2 with q | q; exact hno j q ht2; subst q; exact absurd ht2 h31)
          exact h9
        · skip
          refine g_aload_n hC (gDec_at DX0_hasForm_0 19 rfl) rfl ?_
          refine g_aload hC (gDec_at DX0_hasForm_0 20 rfl) rfl ?_
          refine g_iload_n hC (gDec_at DX0_hasForm_0 21 rfl) rfl ?_
          refine g_iload_n hC (gDec_at DX0_hasForm_0 22 rfl) rfl ?_
          refine g_callVd (w := wC q) hC 9 (c_X0_formDepth q hI (by omega) (by omega) (f := f) (s := s) (by omega) (by omega)) vf_X0_formDepth ml_X0_167 (by decide) (show 9 < 63 from by decide) rfl rfl rfl rfl rfl (Nat.le_of_ble_eq_true rfl) (gDec_at DX0_hasForm_0 23 rfl) ?_
          refine g_bipush hC (gDec_at DX0_hasForm_0 24 rfl) (v := -9) (by decide) ?_
          refine g_icmp_ne hC (gDec_at DX0_hasForm_0 25 rfl) 49 (by decide) (fun h44 => ?_) (fun h44 => ?_)
          · skip
            refine g_iincN hC (gDec_at DX0_hasForm_0 28 rfl) rfl (by decide) (L' := [(5, .int (nI (i + 1))), (6, .ref (q.2.2 (15 + i))), (0, .ref (q.2.2 9)), (1, .int (nI f)), (2, .int (nI s)), (3, .ref (q.2.2 11)), (4, .int (nI 12))]) rfl ?_
            refine g_goto hC (gDec_at DX0_hasForm_0 29 rfl) 12 (by decide) ?_
            refine g_sub [2, 3, 4, 5, 6, 0] (L' := [(0, .ref (q.2.2 9)), (1, .int (nI f)), (2, .int (nI s)), (3, .ref (q.2.2 11)), (4, .int (nI 12)), (5, .int (nI (i + 1)))]) rfl ?_
            have h9 := ih (i + 1) (by omega) (by omega) (fun j hj2 ht2 => by rcases Nat.lt_succ_iff_lt_or_eq.mp hj2 with q | q; exact hno j q ht2; subst q; exact fk_ne.mp h44)
            exact h9
          · skip
            skip
            refine g_iconst hC (gDec_at DX0_hasForm_0 26 rfl) (v := nI 0) (by decide) ?_
            refine g_zret hC (Or.inl rfl) (gDec_at DX0_hasForm_0 27 rfl) ?_
            exact ⟨rfl, rfl⟩
  exact g_sub [3, 4, 5, 2, 1, 0] rfl (loop12 (12 + 1 - 0) 0 (by omega) (by omega) (fun j h => absurd h (Nat.not_lt_zero j)))
end
section
/-! BOW: what changes it; extremes, the break, sets, off -/
theorem gupd_get (M : gM) (i k : Nat) (x : Int32) (i' k' : Nat) : (gupd M i k x).1 i' k' = if i' = i ∧ k' = k then x else M.1 i' k' := by
  unfold gupd upd
  by_cases h : i' = i
  · subst h
    by_cases h2 : k' = k <;> simp [h2]
  · simp [h]
def upB (B : gB) (f j v : Nat) : gB := fun f' j' => if f' = f ∧ j' = j then v else B f' j'
/-- M' is M but for cells that P names -/
def sameO (P : Nat → Prop) (M M' : gM) : Prop := ∀ i, ¬ P i → M'.1 i = M.1 i
theorem sameO_rf {P : Nat → Prop} {M : gM} : sameO P M M := fun _ _ => rfl
theorem sameO_up {P : Nat → Prop} {M M' : gM} (h : sameO P M M') {i k : Nat} {x : Int32} (hi : P i) : sameO P M (gupd M' i k x) := by
  intro c hc
  rw [← h c hc]
  have : c ≠ i := fun e => hc (e ▸ hi)
  simp [gupd, this]
def fldOf (f k : Nat) : Prop := (f = 0 ∧ k = 3) ∨ (f = 1 ∧ k = 4) ∨ (f = 2 ∧ k = 5) ∨ (f = 3 ∧ k = 6) ∨ (f = 4 ∧ k = 8) ∨ (f = 5 ∧ k = 7)
theorem bK_up {M : gM} (h : bK M) {i k : Nat} {x : Int32} (hk : 3 ≤ k ∨ i < 15) (hx : k = 8 → x = 0 ∨ x = 1) : bK (gupd M i k x) := by
  intro b hb j hj
  obtain ⟨h1, h2, h3, h4⟩ := h b hb j hj
  refine ⟨?_, ?_, ?_, ?_⟩
  · rw [gupd_get, if_neg (by omega)]; assumption
  · rw [gupd_get, if_neg (by omega)]; assumption
  · rw [gupd_get, if_neg (by omega)]; assumption
  · rw [gupd_get]
    split
    · rename_i q; exact hx q.2.symm
    · exact h4
theorem cI_set {M : gM} {B : gB} (h : cI M B) {f k j v : Nat} (hf : fldOf f k) (hV : bV (upB B f j v)) (h8 : k = 8 → v ≤ 1 := by omega) : cI (gupd M (15 + j) k (nI v)) (upB B f j v) := by
  obtain ⟨hK, ⟨h1, h2, h3, h4⟩, -⟩ := h
  have hf9 : f ≠ 9 ∧ f ≠ 6 ∧ f ≠ 7 ∧ f ≠ 8 ∧ 3 ≤ k := by rcases hf with q | q | q | q | q | q <;> omega
  refine ⟨bK_up hK (by omega) (fun q => by rcases (show v = 0 ∨ v = 1 by have := h8 q; omega) with rfl | rfl; exact Or.inl rfl; exact Or.inr rfl), ⟨?_, ?_, fun w hw => ?_, fun j' hj' ht' => ?_⟩, hV⟩
  · rw [gupd_get, if_neg (by omega), h1]; unfold upB; rw [if_neg (by omega)]
  · rw [gupd_get, if_neg (by omega), h2]; unfold upB; rw [if_neg (by omega)]
  · obtain ⟨a, b, c⟩ := h3 w hw
    refine ⟨?_, ?_, ?_⟩ <;> rw [gupd_get, if_neg (by omega)] <;> unfold upB <;> rw [if_neg (by omega)] <;> assumption
  · have ht : j' % 6 < B 9 0 := by
      have e : upB B f j v 9 0 = B 9 0 := by unfold upB; rw [if_neg (by omega)]
      rw [e] at ht'; exact ht'
    obtain ⟨a0, a1, a2, a3, a4, a5⟩ := h4 j' hj' ht
    unfold upB
    rcases hf with ⟨rfl, rfl⟩ | ⟨rfl, rfl⟩ | ⟨rfl, rfl⟩ | ⟨rfl, rfl⟩ | ⟨rfl, rfl⟩ | ⟨rfl, rfl⟩ <;>
    · by_cases e : j' = j
      · subst e
        simp [gupd_get, a0, a1, a2, a3, a4, a5] at *
        try simp [a0, a1, a2, a3, a4, a5]
      · have e2 : ¬ (15 + 18 * 0 + j' = 15 + j) := by omega
        simp [gupd_get, e, e2] at *
        try simp [a0, a1, a2, a3, a4, a5]
theorem nI_n9 {n : Nat} (h : n < 2147483648) : ¬ nI n = -9 := fun q => by
  have h1 := nI_toInt h
  rw [q] at h1
  have h2 : (-9 : Int32).toInt = -9 := by decide
  omega
def sTold (j : Nat) : Nat := 10 * (j / 6) + j % 6
/-- the first place with the greatest (g = 1), the least (g = 0) f -/
def sExt (B : gB) (f : Nat → Nat) (g : Nat) : Nat → Nat
  | 0 => 0
  | n + 1 => if n % 6 < B 9 0 ∧ ((0 < g ∧ f (sExt B f g n) < f n) ∨ (g = 0 ∧ f n < f (sExt B f g n))) then n else sExt B f g n
theorem sExt_1 (B : gB) (f : Nat → Nat) (g : Nat) : sExt B f g 1 = 0 := by
  unfold sExt
  split <;> rfl
theorem sExt_lt {B : gB} {f : Nat → Nat} {g : Nat} (hm : 1 ≤ B 9 0) : ∀ n, 0 < n → sExt B f g n < n ∧ sExt B f g n % 6 < B 9 0
  | 0, h => absurd h (Nat.lt_irrefl 0)
  | 1, _ => by rw [sExt_1]; omega
  | n + 2, _ => by
    have ih := sExt_lt (B := B) (f := f) (g := g) hm (n + 1) (by omega)
    rw [sExt]
    split
    · rename_i hc; exact ⟨by omega, hc.1⟩
    · omega
set_option maxRecDepth 100000 in
set_option maxHeartbeats 4000000 in
theorem c_X0_extremePlace (q : gQ3) {M : gM} {B : gB} (hI : cI M B) {x g : Nat} (hx : x ≤ 40) (hg : g ≤ 1) : gCt (wC q) yX0_extremePlace cX0_extremePlace 17 (some .int) 5 [.ref (q.2.2 9), .int (nI x), .int (nI g)] M (gR (some (.int (nI (sTold (sExt B (sStr B (sPull B x) (sAll B)) g 12))))) M) := by
  refine gMet RX0 (by decide +kernel) rfl (Nat.le_of_ble_eq_true rfl) (fun X hC => ?_)
  have hC : gC X (wC q) cX0_extremePlace 17 RX0 (some .int) 5 := hC
  show gG X (wC q) _ 17 M 0 [(0, .ref (q.2.2 9)), (1, .int (nI x)), (2, .int (nI g))] []
  have hm := bv_many hI.2.2
  have hpl := sPull_le B hx
  have hal := sAll_le B
  have hst := fun j => sStr_le B j (gives := sAll B) hpl
  refine g_aload_n hC (gDec_at DX0_extremePlace_0 0 rfl) rfl ?_
  refine g_iload_n hC (gDec_at DX0_extremePlace_0 1 rfl) rfl ?_
  refine g_callVd (w := wC q) hC 9 (c_X0_pullAt q hI (x := x) (by omega)) vf_X0_pullAt ml_X0_154 (by decide) (show 9 < 63 from by decide) rfl rfl rfl rfl rfl (Nat.le_of_ble_eq_true rfl) (gDec_at DX0_extremePlace_0 2 rfl) ?_
  refine g_lstore_n hC (gDec_at DX0_extremePlace_0 3 rfl) (by decide) (L' := [(3, .long (lN (sPull B x))), (0, .ref (q.2.2 9)), (1, .int (nI x)), (2, .int (nI g))]) rfl ?_
  refine g_aload_n hC (gDec_at DX0_extremePlace_0 4 rfl) rfl ?_
  refine g_callVd (w := wC q) hC 9 (c_X0_allGives q hI) vf_X0_allGives ml_X0_157 (by decide) (show 9 < 63 from by decide) rfl rfl rfl rfl rfl (Nat.le_of_ble_eq_true rfl) (gDec_at DX0_extremePlace_0 5 rfl) ?_
  refine g_lstore hC (gDec_at DX0_extremePlace_0 6 rfl) (by decide) (L' := [(5, .long (lN (sAll B))), (3, .long (lN (sPull B x))), (0, .ref (q.2.2 9)), (1, .int (nI x)), (2, .int (nI g))]) rfl ?_
  refine g_bipush hC (gDec_at DX0_extremePlace_0 7 rfl) (v := -9) (by decide) ?_
  refine g_istore hC (gDec_at DX0_extremePlace_0 8 rfl) (by decide) (L' := [(7, .int (-9)), (5, .long (lN (sAll B))), (3, .long (lN (sPull B x))), (0, .ref (q.2.2 9)), (1, .int (nI x)), (2, .int (nI g))]) rfl ?_
  refine g_lconst hC (gDec_at DX0_extremePlace_0 9 rfl) (v := lN 0) (by decide) ?_
  refine g_lstore hC (gDec_at DX0_extremePlace_0 10 rfl) (by decide) (L' := [(8, .long (lN 0)), (7, .int (-9)), (5, .long (lN (sAll B))), (3, .long (lN (sPull B x))), (0, .ref (q.2.2 9)), (1, .int (nI x)), (2, .int (nI g))]) rfl ?_
  refine g_aload_n hC (gDec_at DX0_extremePlace_0 11 rfl) rfl ?_
  refine g_get (w := wC q) hC 9 (v := .ref (q.2.2 11)) fl_X0_22 (show 9 < 63 from by decide) rfl rfl (gDec_at DX0_extremePlace_0 12 rfl) ?_
  refine g_astore hC (gDec_at DX0_extremePlace_0 13 rfl) (by decide) (L' := [(10, .ref (q.2.2 11)), (8, .long (lN 0)), (7, .int (-9)), (5, .long (lN (sAll B))), (3, .long (lN (sPull B x))), (0, .ref (q.2.2 9)), (1, .int (nI x)), (2, .int (nI g))]) rfl ?_
  refine g_aload hC (gDec_at DX0_extremePlace_0 14 rfl) rfl ?_
  refine g_alen (w := wC q) hC 11 3 (show 11 < 63 from by decide) rfl rfl (gDec_at DX0_extremePlace_0 15 rfl) ?_
  refine g_istore hC (gDec_at DX0_extremePlace_0 16 rfl) (by decide) (L' := [(11, .int (nI 12)), (10, .ref (q.2.2 11)), (8, .long (lN 0)), (7, .int (-9)), (5, .long (lN (sAll B))), (3, .long (lN (sPull B x))), (0, .ref (q.2.2 9)), (1, .int (nI x)), (2, .int (nI g))]) rfl ?_
  refine g_iconst hC (gDec_at DX0_extremePlace_0 17 rfl) (v := nI 0) (by decide) ?_
  refine g_istore hC (gDec_at DX0_extremePlace_0 18 rfl) (by decide) (L' := [(12, .int (nI 0)), (11, .int (nI 12)), (10, .ref (q.2.2 11)), (8, .long (lN 0)), (7, .int (-9)), (5, .long (lN (sAll B))), (3, .long (lN (sPull B x))), (0, .ref (q.2.2 9)), (1, .int (nI x)), (2, .int (nI g))]) rfl ?_
  have loop33 : ∀ (fu i : Nat) (fnd : Int32) (fs : Int64), i ≤ 12 → 12 - i < fu → (i = 0 ∧ fnd = -9 ∧ fs = lN 0 ∨ 0 < i ∧ fnd = nI (sTold (sExt B (sStr B (sPull B x) (sAll B)) g i)) ∧ fs = lN ((sStr B (sPull B x) (sAll B)) (sExt B (sStr B (sPull B x) (sAll B)) g i))) → gG X (wC q) (gR (some (.int (nI (sTold (sExt B (sStr B (sPull B x) (sAll B)) g 12))))) M) 17 M 33 [(0, .ref (q.2.2 9)), (1, .int (nI x)), (2, .int (nI g)), (3, .long (lN (sPull B x))), (5, .long (lN (sAll B))), (7, .int fnd), (8, .long fs), (10, .ref (q.2.2 11)), (11, .int (nI 12)), (12, .int (nI i))] [] := by
    intro fu; induction fu with
    | zero => intro i fnd fs h1 h2; omega
    | succ fu ih =>
      intro i fnd fs hi hfu hf
      have hsi := hst i
      rcases hf with ⟨h0, rfl, rfl⟩ | ⟨h0, rfl, rfl⟩
      · skip
        refine g_iload hC (gDec_at DX0_extremePlace_0 19 rfl) rfl ?_
        refine g_iload hC (gDec_at DX0_extremePlace_0 20 rfl) rfl ?_
        refine g_icmp_geN hC (by omega) (by omega) (gDec_at DX0_extremePlace_0 21 rfl) 131 (by decide) (fun h37 => ?_) (fun h37 => ?_)
        · skip
          omega
        · skip
          refine g_aload hC (gDec_at DX0_extremePlace_0 22 rfl) rfl ?_
          refine g_iload hC (gDec_at DX0_extremePlace_0 23 rfl) rfl ?_
          refine g_aald (w := wC q) hC 11 3 i (a := q.2.2 (15 + i)) (show 11 < 63 from by decide) rfl rfl (by omega) (by decide) rfl (gDec_at DX0_extremePlace_0 24 rfl) ?_
          refine g_astore hC (gDec_at DX0_extremePlace_0 25 rfl) (by decide) (L' := [(13, .ref (q.2.2 (15 + i))), (0, .ref (q.2.2 9)), (1, .int (nI x)), (2, .int (nI g)), (3, .long (lN (sPull B x))), (5, .long (lN (sAll B))), (7, .int (-9)), (8, .long (lN 0)), (10, .ref (q.2.2 11)), (11, .int (nI 12)), (12, .int (nI i))]) rfl ?_
          refine g_aload_n hC (gDec_at DX0_extremePlace_0 26 rfl) rfl ?_
          refine g_aload hC (gDec_at DX0_extremePlace_0 27 rfl) rfl ?_
          refine g_callVd (w := wC q) hC 9 (c_X0_has q hI (by omega)) vf_X0_has ml_X0_42 (by decide) (show 9 < 63 from by decide) rfl rfl rfl rfl rfl (Nat.le_of_ble_eq_true rfl) (gDec_at DX0_extremePlace_0 28 rfl) ?_
          refine g_if_eqB hC (gDec_at DX0_extremePlace_0 29 rfl) 125 (by decide) (fun h53 => ?_) (fun h53 => ?_)
          · skip
            exact absurd h53 (by subst h0; omega)
          · skip
            refine g_aload_n hC (gDec_at DX0_extremePlace_0 30 rfl) rfl ?_
            refine g_aload hC (gDec_at DX0_extremePlace_0 31 rfl) rfl ?_
            refine g_lload_n hC (gDec_at DX0_extremePlace_0 32 rfl) rfl ?_
            refine g_lload hC (gDec_at DX0_extremePlace_0 33 rfl) rfl ?_
            refine g_callVd (w := wC q) hC 9 (c_X0_strainOf q hI (by omega) (by omega) (pull := (sPull B x)) (gives := (sAll B)) (by omega) (by omega)) vf_X0_strainOf ml_X0_132 (by decide) (show 9 < 63 from by decide) rfl rfl rfl rfl rfl (Nat.le_of_ble_eq_true rfl) (gDec_at DX0_extremePlace_0 34 rfl) ?_
            refine g_lstore hC (gDec_at DX0_extremePlace_0 35 rfl) (by decide) (L' := [(14, .long (lN (sStr B (sPull B x) (sAll B) i))), (13, .ref (q.2.2 (15 + i))), (0, .ref (q.2.2 9)), (1, .int (nI x)), (2, .int (nI g)), (3, .long (lN (sPull B x))), (5, .long (lN (sAll B))), (7, .int (-9)), (8, .long (lN 0)), (10, .ref (q.2.2 11)), (11, .int (nI 12)), (12, .int (nI i))]) rfl ?_
            refine g_iload_n hC (gDec_at DX0_extremePlace_0 36 rfl) rfl ?_
            refine g_if_eqN hC (by omega) (gDec_at DX0_extremePlace_0 37 rfl) 87 (by decide) (fun h68 => ?_) (fun h68 => ?_)
            · skip
              refine g_lload hC (gDec_at DX0_extremePlace_0 46 rfl) rfl ?_
              refine g_lload hC (gDec_at DX0_extremePlace_0 47 rfl) rfl ?_
              refine g_lc_geN hC (by omega) (by omega) (gDec_at DX0_extremePlace_0 48 rfl) (gDec_at DX0_extremePlace_0 49 rfl) 99 (by decide) (fun h91 => ?_) (fun h91 => ?_)
              · skip
                refine g_iconst hC (gDec_at DX0_extremePlace_0 52 rfl) (v := nI 0) (by decide) ?_
                refine g_istore hC (gDec_at DX0_extremePlace_0 53 rfl) (by decide) (L' := [(16, .int (nI 0)), (14, .long (lN (sStr B (sPull B x) (sAll B) i))), (13, .ref (q.2.2 (15 + i))), (0, .ref (q.2.2 9)), (1, .int (nI x)), (2, .int (nI g)), (3, .long (lN (sPull B x))), (5, .long (lN (sAll B))), (7, .int (-9)), (8, .long (lN 0)), (10, .ref (q.2.2 11)), (11, .int (nI 12)), (12, .int (nI i))]) rfl ?_
                refine g_iload hC (gDec_at DX0_extremePlace_0 54 rfl) rfl ?_
                refine g_bipush hC (gDec_at DX0_extremePlace_0 55 rfl) (v := -9) (by decide) ?_
                refine g_icmp_eq hC (gDec_at DX0_extremePlace_0 56 rfl) 114 (by decide) (fun h => ?_) (fun h => absurd rfl h)
                refine g_aload hC (gDec_at DX0_extremePlace_0 59 rfl) rfl ?_
                refine g_get (w := wC q) hC (15 + i) (v := .int (nI (10 * (i / 6) + i % 6))) fl_X0_75 (show 15 + i < 63 from by have := (by omega); omega) (cC_p0 q _ _ (by omega)) (g_sv (ci_told hI (by omega))) (gDec_at DX0_extremePlace_0 60 rfl) ?_
                refine g_istore hC (gDec_at DX0_extremePlace_0 61 rfl) (by decide) (L' := [(7, .int (nI (10 * (i / 6) + i % 6))), (16, .int (nI 0)), (14, .long (lN (sStr B (sPull B x) (sAll B) i))), (13, .ref (q.2.2 (15 + i))), (0, .ref (q.2.2 9)), (1, .int (nI x)), (2, .int (nI g)), (3, .long (lN (sPull B x))), (5, .long (lN (sAll B))), (8, .long (lN 0)), (10, .ref (q.2.2 11)), (11, .int (nI 12)), (12, .int (nI i))]) rfl ?_
                refine g_lload hC (gDec_at DX0_extremePlace_0 62 rfl) rfl ?_
                refine g_lstore hC (gDec_at DX0_extremePlace_0 63 rfl) (by decide) (L' := [(8, .long (lN (sStr B (sPull B x) (sAll B) i))), (7, .int (nI (10 * (i / 6) + i % 6))), (16, .int (nI 0)), (14, .long (lN (sStr B (sPull B x) (sAll B) i))), (13, .ref (q.2.2 (15 + i))), (0, .ref (q.2.2 9)), (1, .int (nI x)), (2, .int (nI g)), (3, .long (lN (sPull B x))), (5, .long (lN (sAll B))), (10, .ref (q.2.2 11)), (11, .int (nI 12)), (12, .int (nI i))]) rfl ?_
                refine g_iincN hC (gDec_at DX0_extremePlace_1 0 rfl) rfl (by decide) (L' := [(12, .int (nI (i + 1))), (8, .long (lN (sStr B (sPull B x) (sAll B) i))), (7, .int (nI (10 * (i / 6) + i % 6))), (16, .int (nI 0)), (14, .long (lN (sStr B (sPull B x) (sAll B) i))), (13, .ref (q.2.2 (15 + i))), (0, .ref (q.2.2 9)), (1, .int (nI x)), (2, .int (nI g)), (3, .long (lN (sPull B x))), (5, .long (lN (sAll B))), (10, .ref (q.2.2 11)), (11, .int (nI 12))]) rfl ?_
                refine g_goto hC (gDec_at DX0_extremePlace_1 1 rfl) 33 (by decide) ?_
                refine g_sub [6, 7, 8, 9, 10, 2, 1, 11, 12, 0] (L' := [(0, .ref (q.2.2 9)), (1, .int (nI x)), (2, .int (nI g)), (3, .long (lN (sPull B x))), (5, .long (lN (sAll B))), (7, .int (nI (10 * (i / 6) + i % 6))), (8, .long (lN (sStr B (sPull B x) (sAll B) i))), (10, .ref (q.2.2 11)), (11, .int (nI 12)), (12, .int (nI (i + 1)))]) rfl ?_
                have h9 := ih (i + 1) (nI (10 * (i / 6) + i % 6)) (lN (sStr B (sPull B x) (sAll B) i)) (by omega) (by omega) (Or.inr ⟨by omega, by subst h0; rw [sExt_1]; rfl, by subst h0; rw [sExt_1]⟩)
                exact h9
              · skip
                refine g_iconst hC (gDec_at DX0_extremePlace_0 50 rfl) (v := nI 1) (by decide) ?_
                refine g_goto hC (gDec_at DX0_extremePlace_0 51 rfl) 100 (by decide) ?_
                refine g_istore hC (gDec_at DX0_extremePlace_0 53 rfl) (by decide) (L' := [(16, .int (nI 1)), (14, .long (lN (sStr B (sPull B x) (sAll B) i))), (13, .ref (q.2.2 (15 + i))), (0, .ref (q.2.2 9)), (1, .int (nI x)), (2, .int (nI g)), (3, .long (lN (sPull B x))), (5, .long (lN (sAll B))), (7, .int (-9)), (8, .long (lN 0)), (10, .ref (q.2.2 11)), (11, .int (nI 12)), (12, .int (nI i))]) rfl ?_
                refine g_iload hC (gDec_at DX0_extremePlace_0 54 rfl) rfl ?_
                refine g_bipush hC (gDec_at DX0_extremePlace_0 55 rfl) (v := -9) (by decide) ?_
                refine g_icmp_eq hC (gDec_at DX0_extremePlace_0 56 rfl) 114 (by decide) (fun h => ?_) (fun h => absurd rfl h)
                refine g_aload hC (gDec_at DX0_extremePlace_0 59 rfl) rfl ?_
                refine g_get (w := wC q) hC (15 + i) (v := .int (nI (10 * (i / 6) + i % 6))) fl_X0_75 (show 15 + i < 63 from by have := (by omega); omega) (cC_p0 q _ _ (by omega)) (g_sv (ci_told hI (by omega))) (gDec_at DX0_extremePlace_0 60 rfl) ?_
                refine g_istore hC (gDec_at DX0_extremePlace_0 61 rfl) (by decide) (L' := [(7, .int (nI (10 * (i / 6) + i % 6))), (16, .int (nI 1)), (14, .long (lN (sStr B (sPull B x) (sAll B) i))), (13, .ref (q.2.2 (15 + i))), (0, .ref (q.2.2 9)), (1, .int (nI x)), (2, .int (nI g)), (3, .long (lN (sPull B x))), (5, .long (lN (sAll B))), (8, .long (lN 0)), (10, .ref (q.2.2 11)), (11, .int (nI 12)), (12, .int (nI i))]) rfl ?_
                refine g_lload hC (gDec_at DX0_extremePlace_0 62 rfl) rfl ?_
                refine g_lstore hC (gDec_at DX0_extremePlace_0 63 rfl) (by decide) (L' := [(8, .long (lN (sStr B (sPull B x) (sAll B) i))), (7, .int (nI (10 * (i / 6) + i % 6))), (16, .int (nI 1)), (14, .long (lN (sStr B (sPull B x) (sAll B) i))), (13, .ref (q.2.2 (15 + i))), (0, .ref (q.2.2 9)), (1, .int (nI x)), (2, .int (nI g)), (3, .long (lN (sPull B x))), (5, .long (lN (sAll B))), (10, .ref (q.2.2 11)), (11, .int (nI 12)), (12, .int (nI i))]) rfl ?_
                refine g_iincN hC (gDec_at DX0_extremePlace_1 0 rfl) rfl (by decide) (L' := [(12, .int (nI (i + 1))), (8, .long (lN (sStr B (sPull B x) (sAll B) i))), (7, .int (nI (10 * (i / 6) + i % 6))), (16, .int (nI 1)), (14, .long (lN (sStr B (sPull B x) (sAll B) i))), (13, .ref (q.2.2 (15 + i))), (0, .ref (q.2.2 9)), (1, .int (nI x)), (2, .int (nI g)), (3, .long (lN (sPull B x))), (5, .long (lN (sAll B))), (10, .ref (q.2.2 11)), (11, .int (nI 12))]) rfl ?_
                refine g_goto hC (gDec_at DX0_extremePlace_1 1 rfl) 33 (by decide) ?_
                refine g_sub [6, 7, 8, 9, 10, 2, 1, 11, 12, 0] (L' := [(0, .ref (q.2.2 9)), (1, .int (nI x)), (2, .int (nI g)), (3, .long (lN (sPull B x))), (5, .long (lN (sAll B))), (7, .int (nI (10 * (i / 6) + i % 6))), (8, .long (lN (sStr B (sPull B x) (sAll B) i))), (10, .ref (q.2.2 11)), (11, .int (nI 12)), (12, .int (nI (i + 1)))]) rfl ?_
                have h9 := ih (i + 1) (nI (10 * (i / 6) + i % 6)) (lN (sStr B (sPull B x) (sAll B) i)) (by omega) (by omega) (Or.inr ⟨by omega, by subst h0; rw [sExt_1]; rfl, by subst h0; rw [sExt_1]⟩)
                exact h9
            · skip
              refine g_lload hC (gDec_at DX0_extremePlace_0 38 rfl) rfl ?_
              refine g_lload hC (gDec_at DX0_extremePlace_0 39 rfl) rfl ?_
              refine g_lc_leN hC (by omega) (by omega) (gDec_at DX0_extremePlace_0 40 rfl) (gDec_at DX0_extremePlace_0 41 rfl) 83 (by decide) (fun h75 => ?_) (fun h75 => ?_)
              · skip
                refine g_iconst hC (gDec_at DX0_extremePlace_0 44 rfl) (v := nI 0) (by decide) ?_
                refine g_goto hC (gDec_at DX0_extremePlace_0 45 rfl) 100 (by decide) ?_
                refine g_istore hC (gDec_at DX0_extremePlace_0 53 rfl) (by decide) (L' := [(16, .int (nI 0)), (14, .long (lN (sStr B (sPull B x) (sAll B) i))), (13, .ref (q.2.2 (15 + i))), (0, .ref (q.2.2 9)), (1, .int (nI x)), (2, .int (nI g)), (3, .long (lN (sPull B x))), (5, .long (lN (sAll B))), (7, .int (-9)), (8, .long (lN 0)), (10, .ref (q.2.2 11)), (11, .int (nI 12)), (12, .int (nI i))]) rfl ?_
                refine g_iload hC (gDec_at DX0_extremePlace_0 54 rfl) rfl ?_
                refine g_bipush hC (gDec_at DX0_extremePlace_0 55 rfl) (v := -9) (by decide) ?_
                refine g_icmp_eq hC (gDec_at DX0_extremePlace_0 56 rfl) 114 (by decide) (fun h => ?_) (fun h => absurd rfl h)
                refine g_aload hC (gDec_at DX0_extremePlace_0 59 rfl) rfl ?_
                refine g_get (w := wC q) hC (15 + i) (v := .int (nI (10 * (i / 6) + i % 6))) fl_X0_75 (show 15 + i < 63 from by have := (by omega); omega) (cC_p0 q _ _ (by omega)) (g_sv (ci_told hI (by omega))) (gDec_at DX0_extremePlace_0 60 rfl) ?_
                refine g_istore hC (gDec_at DX0_extremePlace_0 61 rfl) (by decide) (L' := [(7, .int (nI (10 * (i / 6) + i % 6))), (16, .int (nI 0)), (14, .long (lN (sStr B (sPull B x) (sAll B) i))), (13, .ref (q.2.2 (15 + i))), (0, .ref (q.2.2 9)), (1, .int (nI x)), (2, .int (nI g)), (3, .long (lN (sPull B x))), (5, .long (lN (sAll B))), (8, .long (lN 0)), (10, .ref (q.2.2 11)), (11, .int (nI 12)), (12, .int (nI i))]) rfl ?_
                refine g_lload hC (gDec_at DX0_extremePlace_0 62 rfl) rfl ?_
                refine g_lstore hC (gDec_at DX0_extremePlace_0 63 rfl) (by decide) (L' := [(8, .long (lN (sStr B (sPull B x) (sAll B) i))), (7, .int (nI (10 * (i / 6) + i % 6))), (16, .int (nI 0)), (14, .long (lN (sStr B (sPull B x) (sAll B) i))), (13, .ref (q.2.2 (15 + i))), (0, .ref (q.2.2 9)), (1, .int (nI x)), (2, .int (nI g)), (3, .long (lN (sPull B x))), (5, .long (lN (sAll B))), (10, .ref (q.2.2 11)), (11, .int (nI 12)), (12, .int (nI i))]) rfl ?_
                refine g_iincN hC (gDec_at DX0_extremePlace_1 0 rfl) rfl (by decide) (L' := [(12, .int (nI (i + 1))), (8, .long (lN (sStr B (sPull B x) (sAll B) i))), (7, .int (nI (10 * (i / 6) + i % 6))), (16, .int (nI 0)), (14, .long (lN (sStr B (sPull B x) (sAll B) i))), (13, .ref (q.2.2 (15 + i))), (0, .ref (q.2.2 9)), (1, .int (nI x)), (2, .int (nI g)), (3, .long (lN (sPull B x))), (5, .long (lN (sAll B))), (10, .ref (q.2.2 11)), (11, .int (nI 12))]) rfl ?_
                refine g_goto hC (gDec_at DX0_extremePlace_1 1 rfl) 33 (by decide) ?_
                refine g_sub [6, 7, 8, 9, 10, 2, 1, 11, 12, 0] (L' := [(0, .ref (q.2.2 9)), (1, .int (nI x)), (2, .int (nI g)), (3, .long (lN (sPull B x))), (5, .long (lN (sAll B))), (7, .int (nI (10 * (i / 6) + i % 6))), (8, .long (lN (sStr B (sPull B x) (sAll B) i))), (10, .ref (q.2.2 11)), (11, .int (nI 12)), (12, .int (nI (i + 1)))]) rfl ?_
                have h9 := ih (i + 1) (nI (10 * (i / 6) + i % 6)) (lN (sStr B (sPull B x) (sAll B) i)) (by omega) (by omega) (Or.inr ⟨by omega, by subst h0; rw [sExt_1]; rfl, by subst h0; rw [sExt_1]⟩)
                exact h9
              · skip
                refine g_iconst hC (gDec_at DX0_extremePlace_0 42 rfl) (v := nI 1) (by decide) ?_
                refine g_goto hC (gDec_at DX0_extremePlace_0 43 rfl) 100 (by decide) ?_
                refine g_istore hC (gDec_at DX0_extremePlace_0 53 rfl) (by decide) (L' := [(16, .int (nI 1)), (14, .long (lN (sStr B (sPull B x) (sAll B) i))), (13, .ref (q.2.2 (15 + i))), (0, .ref (q.2.2 9)), (1, .int (nI x)), (2, .int (nI g)), (3, .long (lN (sPull B x))), (5, .long (lN (sAll B))), (7, .int (-9)), (8, .long (lN 0)), (10, .ref (q.2.2 11)), (11, .int (nI 12)), (12, .int (nI i))]) rfl ?_
                refine g_iload hC (gDec_at DX0_extremePlace_0 54 rfl) rfl ?_
                refine g_bipush hC (gDec_at DX0_extremePlace_0 55 rfl) (v := -9) (by decide) ?_
                refine g_icmp_eq hC (gDec_at DX0_extremePlace_0 56 rfl) 114 (by decide) (fun h => ?_) (fun h => absurd rfl h)
                refine g_aload hC (gDec_at DX0_extremePlace_0 59 rfl) rfl ?_
                refine g_get (w := wC q) hC (15 + i) (v := .int (nI (10 * (i / 6) + i % 6))) fl_X0_75 (show 15 + i < 63 from by have := (by omega); omega) (cC_p0 q _ _ (by omega)) (g_sv (ci_told hI (by omega))) (gDec_at DX0_extremePlace_0 60 rfl) ?_
                refine g_istore hC (gDec_at DX0_extremePlace_0 61 rfl) (by decide) (L' := [(7, .int (nI (10 * (i / 6) + i % 6))), (16, .int (nI 1)), (14, .long (lN (sStr B (sPull B x) (sAll B) i))), (13, .ref (q.2.2 (15 + i))), (0, .ref (q.2.2 9)), (1, .int (nI x)), (2, .int (nI g)), (3, .long (lN (sPull B x))), (5, .long (lN (sAll B))), (8, .long (lN 0)), (10, .ref (q.2.2 11)), (11, .int (nI 12)), (12, .int (nI i))]) rfl ?_
                refine g_lload hC (gDec_at DX0_extremePlace_0 62 rfl) rfl ?_
                refine g_lstore hC (gDec_at DX0_extremePlace_0 63 rfl) (by decide) (L' := [(8, .long (lN (sStr B (sPull B x) (sAll B) i))), (7, .int (nI (10 * (i / 6) + i % 6))), (16, .int (nI 1)), (14, .long (lN (sStr B (sPull B x) (sAll B) i))), (13, .ref (q.2.2 (15 + i))), (0, .ref (q.2.2 9)), (1, .int (nI x)), (2, .int (nI g)), (3, .long (lN (sPull B x))), (5, .long (lN (sAll B))), (10, .ref (q.2.2 11)), (11, .int (nI 12)), (12, .int (nI i))]) rfl ?_
                refine g_iincN hC (gDec_at DX0_extremePlace_1 0 rfl) rfl (by decide) (L' := [(12, .int (nI (i + 1))), (8, .long (lN (sStr B (sPull B x) (sAll B) i))), (7, .int (nI (10 * (i / 6) + i % 6))), (16, .int (nI 1)), (14, .long (lN (sStr B (sPull B x) (sAll B) i))), (13, .ref (q.2.2 (15 + i))), (0, .ref (q.2.2 9)), (1, .int (nI x)), (2, .int (nI g)), (3, .long (lN (sPull B x))), (5, .long (lN (sAll B))), (10, .ref (q.2.2 11)), (11, .int (nI 12))]) rfl ?_
                refine g_goto hC (gDec_at DX0_extremePlace_1 1 rfl) 33 (by decide) ?_
                refine g_sub [6, 7, 8, 9, 10, 2, 1, 11, 12, 0] (L' := [(0, .ref (q.2.2 9)), (1, .int (nI x)), (2, .int (nI g)), (3, .long (lN (sPull B x))), (5, .long (lN (sAll B))), (7, .int (nI (10 * (i / 6) + i % 6))), (8, .long (lN (sStr B (sPull B x) (sAll B) i))), (10, .ref (q.2.2 11)), (11, .int (nI 12)), (12, .int (nI (i + 1)))]) rfl ?_
                have h9 := ih (i + 1) (nI (10 * (i / 6) + i % 6)) (lN (sStr B (sPull B x) (sAll B) i)) (by omega) (by omega) (Or.inr ⟨by omega, by subst h0; rw [sExt_1]; rfl, by subst h0; rw [sExt_1]⟩)
                exact h9
      · skip
        refine g_iload hC (gDec_at DX0_extremePlace_0 19 rfl) rfl ?_
        refine g_iload hC (gDec_at DX0_extremePlace_0 20 rfl) rfl ?_
        refine g_icmp_geN hC (by omega) (by omega) (gDec_at DX0_extremePlace_0 21 rfl) 131 (by decide) (fun h37_1 => ?_) (fun h37_1 => ?_)
        · skip
          obtain rfl : i = 12 := by omega
          refine g_iload hC (gDec_at DX0_extremePlace_1 2 rfl) rfl ?_
          refine g_iret hC (gDec_at DX0_extremePlace_1 3 rfl) ?_
          exact ⟨rfl, rfl⟩
        · skip
          refine g_aload hC (gDec_at DX0_extremePlace_0 22 rfl) rfl ?_
          refine g_iload hC (gDec_at DX0_extremePlace_0 23 rfl) rfl ?_
          refine g_aald (w := wC q) hC 11 3 i (a := q.2.2 (15 + i)) (show 11 < 63 from by decide) rfl rfl (by omega) (by decide) rfl (gDec_at DX0_extremePlace_0 24 rfl) ?_
          refine g_astore hC (gDec_at DX0_extremePlace_0 25 rfl) (by decide) (L' := [(13, .ref (q.2.2 (15 + i))), (0, .ref (q.2.2 9)), (1, .int (nI x)), (2, .int (nI g)), (3, .long (lN (sPull B x))), (5, .long (lN (sAll B))), (7, .int (nI (sTold (sExt B (sStr B (sPull B x) (sAll B)) g i)))), (8, .long (lN (sStr B (sPull B x) (sAll B) (sExt B (sStr B (sPull B x) (sAll B)) g i)))), (10, .ref (q.2.2 11)), (11, .int (nI 12)), (12, .int (nI i))]) rfl ?_
          refine g_aload_n hC (gDec_at DX0_extremePlace_0 26 rfl) rfl ?_
          refine g_aload hC (gDec_at DX0_extremePlace_0 27 rfl) rfl ?_
          refine g_callVd (w := wC q) hC 9 (c_X0_has q hI (by omega)) vf_X0_has ml_X0_42 (by decide) (show 9 < 63 from by decide) rfl rfl rfl rfl rfl (Nat.le_of_ble_eq_true rfl) (gDec_at DX0_extremePlace_0 28 rfl) ?_
          refine g_if_eqB hC (gDec_at DX0_extremePlace_0 29 rfl) 125 (by decide) (fun h53_1 => ?_) (fun h53_1 => ?_)
          · skip
            refine g_iincN hC (gDec_at DX0_extremePlace_1 0 rfl) rfl (by decide) (L' := [(12, .int (nI (i + 1))), (13, .ref (q.2.2 (15 + i))), (0, .ref (q.2.2 9)), (1, .int (nI x)), (2, .int (nI g)), (3, .long (lN (sPull B x))), (5, .long (lN (sAll B))), (7, .int (nI (sTold (sExt B (sStr B (sPull B x) (sAll B)) g i)))), (8, .long (lN (sStr B (sPull B x) (sAll B) (sExt B (sStr B (sPull B x) (sAll B)) g i)))), (10, .ref (q.2.2 11)), (11, .int (nI 12))]) rfl ?_
            refine g_goto hC (gDec_at DX0_extremePlace_1 1 rfl) 33 (by decide) ?_
            refine g_sub [2, 3, 4, 5, 6, 7, 8, 9, 10, 0] (L' := [(0, .ref (q.2.2 9)), (1, .int (nI x)), (2, .int (nI g)), (3, .long (lN (sPull B x))), (5, .long (lN (sAll B))), (7, .int (nI (sTold (sExt B (sStr B (sPull B x) (sAll B)) g i)))), (8, .long (lN (sStr B (sPull B x) (sAll B) (sExt B (sStr B (sPull B x) (sAll B)) g i)))), (10, .ref (q.2.2 11)), (11, .int (nI 12)), (12, .int (nI (i + 1)))]) rfl ?_
            have h9 := ih (i + 1) (nI (sTold (sExt B (sStr B (sPull B x) (sAll B)) g i))) (lN (sStr B (sPull B x) (sAll B) (sExt B (sStr B (sPull B x) (sAll B)) g i))) (by omega) (by omega) (Or.inr ⟨by omega, by rw [show (sExt B (sStr B (sPull B x) (sAll B)) g (i + 1)) = (sExt B (sStr B (sPull B x) (sAll B)) g i) from if_neg (fun z => h53_1 z.1)], by rw [show (sExt B (sStr B (sPull B x) (sAll B)) g (i + 1)) = (sExt B (sStr B (sPull B x) (sAll B)) g i) from if_neg (fun z => h53_1 z.1)]⟩)
            exact h9
          · skip
            have hse := hst (sExt B (sStr B (sPull B x) (sAll B)) g i)
            refine g_aload_n hC (gDec_at DX0_extremePlace_0 30 rfl) rfl ?_
            refine g_aload hC (gDec_at DX0_extremePlace_0 31 rfl) rfl ?_
            refine g_lload_n hC (gDec_at DX0_extremePlace_0 32 rfl) rfl ?_
            refine g_lload hC (gDec_at DX0_extremePlace_0 33 rfl) rfl ?_
            refine g_callVd (w := wC q) hC 9 (c_X0_strainOf q hI (by omega) (by omega) (pull := (sPull B x)) (gives := (sAll B)) (by omega) (by omega)) vf_X0_strainOf ml_X0_132 (by decide) (show 9 < 63 from by decide) rfl rfl rfl rfl rfl (Nat.le_of_ble_eq_true rfl) (gDec_at DX0_extremePlace_0 34 rfl) ?_
            refine g_lstore hC (gDec_at DX0_extremePlace_0 35 rfl) (by decide) (L' := [(14, .long (lN (sStr B (sPull B x) (sAll B) i))), (13, .ref (q.2.2 (15 + i))), (0, .ref (q.2.2 9)), (1, .int (nI x)), (2, .int (nI g)), (3, .long (lN (sPull B x))), (5, .long (lN (sAll B))), (7, .int (nI (sTold (sExt B (sStr B (sPull B x) (sAll B)) g i)))), (8, .long (lN (sStr B (sPull B x) (sAll B) (sExt B (sStr B (sPull B x) (sAll B)) g i)))), (10, .ref (q.2.2 11)), (11, .int (nI 12)), (12, .int (nI i))]) rfl ?_
            refine g_iload_n hC (gDec_at DX0_extremePlace_0 36 rfl) rfl ?_
            refine g_if_eqN hC (by omega) (gDec_at DX0_extremePlace_0 37 rfl) 87 (by decide) (fun h68_1 => ?_) (fun h68_1 => ?_)
            · skip
              refine g_lload hC (gDec_at DX0_extremePlace_0 46 rfl) rfl ?_
              refine g_lload hC (gDec_at DX0_extremePlace_0 47 rfl) rfl ?_
              refine g_lc_geN hC (by omega) (by omega) (gDec_at DX0_extremePlace_0 48 rfl) (gDec_at DX0_extremePlace_0 49 rfl) 99 (by decide) (fun h91_1 => ?_) (fun h91_1 => ?_)
              · skip
                refine g_iconst hC (gDec_at DX0_extremePlace_0 52 rfl) (v := nI 0) (by decide) ?_
                refine g_istore hC (gDec_at DX0_extremePlace_0 53 rfl) (by decide) (L' := [(16, .int (nI 0)), (14, .long (lN (sStr B (sPull B x) (sAll B) i))), (13, .ref (q.2.2 (15 + i))), (0, .ref (q.2.2 9)), (1, .int (nI x)), (2, .int (nI g)), (3, .long (lN (sPull B x))), (5, .long (lN (sAll B))), (7, .int (nI (sTold (sExt B (sStr B (sPull B x) (sAll B)) g i)))), (8, .long (lN (sStr B (sPull B x) (sAll B) (sExt B (sStr B (sPull B x) (sAll B)) g i)))), (10, .ref (q.2.2 11)), (11, .int (nI 12)), (12, .int (nI i))]) rfl ?_
                refine g_iload hC (gDec_at DX0_extremePlace_0 54 rfl) rfl ?_
                refine g_bipush hC (gDec_at DX0_extremePlace_0 55 rfl) (v := -9) (by decide) ?_
                refine g_icmp_eq hC (gDec_at DX0_extremePlace_0 56 rfl) 114 (by decide) (fun h => absurd h (nI_n9 (by have := (sExt_lt (B := B) (f := (sStr B (sPull B x) (sAll B))) (g := g) hm.1 i h0).1; unfold sTold; omega))) (fun h => ?_)
                refine g_iload hC (gDec_at DX0_extremePlace_0 57 rfl) rfl ?_
                refine g_if_eqN hC (by decide) (gDec_at DX0_extremePlace_0 58 rfl) 125 (by decide) (fun h => ?_) (fun h => absurd h (by decide))
                refine g_iincN hC (gDec_at DX0_extremePlace_1 0 rfl) rfl (by decide) (L' := [(12, .int (nI (i + 1))), (16, .int (nI 0)), (14, .long (lN (sStr B (sPull B x) (sAll B) i))), (13, .ref (q.2.2 (15 + i))), (0, .ref (q.2.2 9)), (1, .int (nI x)), (2, .int (nI g)), (3, .long (lN (sPull B x))), (5, .long (lN (sAll B))), (7, .int (nI (sTold (sExt B (sStr B (sPull B x) (sAll B)) g i)))), (8, .long (lN (sStr B (sPull B x) (sAll B) (sExt B (sStr B (sPull B x) (sAll B)) g i)))), (10, .ref (q.2.2 11)), (11, .int (nI 12))]) rfl ?_
                refine g_goto hC (gDec_at DX0_extremePlace_1 1 rfl) 33 (by decide) ?_
                refine g_sub [4, 5, 6, 7, 8, 9, 10, 11, 12, 0] (L' := [(0, .ref (q.2.2 9)), (1, .int (nI x)), (2, .int (nI g)), (3, .long (lN (sPull B x))), (5, .long (lN (sAll B))), (7, .int (nI (sTold (sExt B (sStr B (sPull B x) (sAll B)) g i)))), (8, .long (lN (sStr B (sPull B x) (sAll B) (sExt B (sStr B (sPull B x) (sAll B)) g i)))), (10, .ref (q.2.2 11)), (11, .int (nI 12)), (12, .int (nI (i + 1)))]) rfl ?_
                have h9 := ih (i + 1) (nI (sTold (sExt B (sStr B (sPull B x) (sAll B)) g i))) (lN (sStr B (sPull B x) (sAll B) (sExt B (sStr B (sPull B x) (sAll B)) g i))) (by omega) (by omega) (Or.inr ⟨by omega, by rw [show (sExt B (sStr B (sPull B x) (sAll B)) g (i + 1)) = (sExt B (sStr B (sPull B x) (sAll B)) g i) from if_neg (fun z => by have := z.2; omega)], by rw [show (sExt B (sStr B (sPull B x) (sAll B)) g (i + 1)) = (sExt B (sStr B (sPull B x) (sAll B)) g i) from if_neg (fun z => by have := z.2; omega)]⟩)
                exact h9
              · skip
                refine g_iconst hC (gDec_at DX0_extremePlace_0 50 rfl) (v := nI 1) (by decide) ?_
                refine g_goto hC (gDec_at DX0_extremePlace_0 51 rfl) 100 (by decide) ?_
                refine g_istore hC (gDec_at DX0_extremePlace_0 53 rfl) (by decide) (L' := [(16, .int (nI 1)), (14, .long (lN (sStr B (sPull B x) (sAll B) i))), (13, .ref (q.2.2 (15 + i))), (0, .ref (q.2.2 9)), (1, .int (nI x)), (2, .int (nI g)), (3, .long (lN (sPull B x))), (5, .long (lN (sAll B))), (7, .int (nI (sTold (sExt B (sStr B (sPull B x) (sAll B)) g i)))), (8, .long (lN (sStr B (sPull B x) (sAll B) (sExt B (sStr B (sPull B x) (sAll B)) g i)))), (10, .ref (q.2.2 11)), (11, .int (nI 12)), (12, .int (nI i))]) rfl ?_
                refine g_iload hC (gDec_at DX0_extremePlace_0 54 rfl) rfl ?_
                refine g_bipush hC (gDec_at DX0_extremePlace_0 55 rfl) (v := -9) (by decide) ?_
                refine g_icmp_eq hC (gDec_at DX0_extremePlace_0 56 rfl) 114 (by decide) (fun h => absurd h (nI_n9 (by have := (sExt_lt (B := B) (f := (sStr B (sPull B x) (sAll B))) (g := g) hm.1 i h0).1; unfold sTold; omega))) (fun h => ?_)
                refine g_iload hC (gDec_at DX0_extremePlace_0 57 rfl) rfl ?_
                refine g_if_eqN hC (by decide) (gDec_at DX0_extremePlace_0 58 rfl) 125 (by decide) (fun h => absurd h (by decide)) (fun h => ?_)
                refine g_aload hC (gDec_at DX0_extremePlace_0 59 rfl) rfl ?_
                refine g_get (w := wC q) hC (15 + i) (v := .int (nI (10 * (i / 6) + i % 6))) fl_X0_75 (show 15 + i < 63 from by have := (by omega); omega) (cC_p0 q _ _ (by omega)) (g_sv (ci_told hI (by omega))) (gDec_at DX0_extremePlace_0 60 rfl) ?_
                refine g_istore hC (gDec_at DX0_extremePlace_0 61 rfl) (by decide) (L' := [(7, .int (nI (10 * (i / 6) + i % 6))), (16, .int (nI 1)), (14, .long (lN (sStr B (sPull B x) (sAll B) i))), (13, .ref (q.2.2 (15 + i))), (0, .ref (q.2.2 9)), (1, .int (nI x)), (2, .int (nI g)), (3, .long (lN (sPull B x))), (5, .long (lN (sAll B))), (8, .long (lN (sStr B (sPull B x) (sAll B) (sExt B (sStr B (sPull B x) (sAll B)) g i)))), (10, .ref (q.2.2 11)), (11, .int (nI 12)), (12, .int (nI i))]) rfl ?_
                refine g_lload hC (gDec_at DX0_extremePlace_0 62 rfl) rfl ?_
                refine g_lstore hC (gDec_at DX0_extremePlace_0 63 rfl) (by decide) (L' := [(8, .long (lN (sStr B (sPull B x) (sAll B) i))), (7, .int (nI (10 * (i / 6) + i % 6))), (16, .int (nI 1)), (14, .long (lN (sStr B (sPull B x) (sAll B) i))), (13, .ref (q.2.2 (15 + i))), (0, .ref (q.2.2 9)), (1, .int (nI x)), (2, .int (nI g)), (3, .long (lN (sPull B x))), (5, .long (lN (sAll B))), (10, .ref (q.2.2 11)), (11, .int (nI 12)), (12, .int (nI i))]) rfl ?_
                refine g_iincN hC (gDec_at DX0_extremePlace_1 0 rfl) rfl (by decide) (L' := [(12, .int (nI (i + 1))), (8, .long (lN (sStr B (sPull B x) (sAll B) i))), (7, .int (nI (10 * (i / 6) + i % 6))), (16, .int (nI 1)), (14, .long (lN (sStr B (sPull B x) (sAll B) i))), (13, .ref (q.2.2 (15 + i))), (0, .ref (q.2.2 9)), (1, .int (nI x)), (2, .int (nI g)), (3, .long (lN (sPull B x))), (5, .long (lN (sAll B))), (10, .ref (q.2.2 11)), (11, .int (nI 12))]) rfl ?_
                refine g_goto hC (gDec_at DX0_extremePlace_1 1 rfl) 33 (by decide) ?_
                refine g_sub [6, 7, 8, 9, 10, 2, 1, 11, 12, 0] (L' := [(0, .ref (q.2.2 9)), (1, .int (nI x)), (2, .int (nI g)), (3, .long (lN (sPull B x))), (5, .long (lN (sAll B))), (7, .int (nI (10 * (i / 6) + i % 6))), (8, .long (lN (sStr B (sPull B x) (sAll B) i))), (10, .ref (q.2.2 11)), (11, .int (nI 12)), (12, .int (nI (i + 1)))]) rfl ?_
                have h9 := ih (i + 1) (nI (10 * (i / 6) + i % 6)) (lN (sStr B (sPull B x) (sAll B) i)) (by omega) (by omega) (Or.inr ⟨by omega, by rw [show (sExt B (sStr B (sPull B x) (sAll B)) g (i + 1)) = i from if_pos ⟨h53_1, by omega⟩]; rfl, by rw [show (sExt B (sStr B (sPull B x) (sAll B)) g (i + 1)) = i from if_pos ⟨h53_1, by omega⟩]⟩)
                exact h9
            · skip
              refine g_lload hC (gDec_at DX0_extremePlace_0 38 rfl) rfl ?_
              refine g_lload hC (gDec_at DX0_extremePlace_0 39 rfl) rfl ?_
              refine g_lc_leN hC (by omega) (by omega) (gDec_at DX0_extremePlace_0 40 rfl) (gDec_at DX0_extremePlace_0 41 rfl) 83 (by decide) (fun h75_1 => ?_) (fun h75_1 => ?_)
              · skip
                refine g_iconst hC (gDec_at DX0_extremePlace_0 44 rfl) (v := nI 0) (by decide) ?_
                refine g_goto hC (gDec_at DX0_extremePlace_0 45 rfl) 100 (by decide) ?_
                refine g_istore hC (gDec_at DX0_extremePlace_0 53 rfl) (by decide) (L' := [(16, .int (nI 0)), (14, .long (lN (sStr B (sPull B x) (sAll B) i))), (13, .ref (q.2.2 (15 + i))), (0, .ref (q.2.2 9)), (1, .int (nI x)), (2, .int (nI g)), (3, .long (lN (sPull B x))), (5, .long (lN (sAll B))), (7, .int (nI (sTold (sExt B (sStr B (sPull B x) (sAll B)) g i)))), (8, .long (lN (sStr B (sPull B x) (sAll B) (sExt B (sStr B (sPull B x) (sAll B)) g i)))), (10, .ref (q.2.2 11)), (11, .int (nI 12)), (12, .int (nI i))]) rfl ?_
                refine g_iload hC (gDec_at DX0_extremePlace_0 54 rfl) rfl ?_
                refine g_bipush hC (gDec_at DX0_extremePlace_0 55 rfl) (v := -9) (by decide) ?_
                refine g_icmp_eq hC (gDec_at DX0_extremePlace_0 56 rfl) 114 (by decide) (fun h => absurd h (nI_n9 (by have := (sExt_lt (B := B) (f := (sStr B (sPull B x) (sAll B))) (g := g) hm.1 i h0).1; unfold sTold; omega))) (fun h => ?_)
                refine g_iload hC (gDec_at DX0_extremePlace_0 57 rfl) rfl ?_
                refine g_if_eqN hC (by decide) (gDec_at DX0_extremePlace_0 58 rfl) 125 (by decide) (fun h => ?_) (fun h => absurd h (by decide))
                refine g_iincN hC (gDec_at DX0_extremePlace_1 0 rfl) rfl (by decide) (L' := [(12, .int (nI (i + 1))), (16, .int (nI 0)), (14, .long (lN (sStr B (sPull B x) (sAll B) i))), (13, .ref (q.2.2 (15 + i))), (0, .ref (q.2.2 9)), (1, .int (nI x)), (2, .int (nI g)), (3, .long (lN (sPull B x))), (5, .long (lN (sAll B))), (7, .int (nI (sTold (sExt B (sStr B (sPull B x) (sAll B)) g i)))), (8, .long (lN (sStr B (sPull B x) (sAll B) (sExt B (sStr B (sPull B x) (sAll B)) g i)))), (10, .ref (q.2.2 11)), (11, .int (nI 12))]) rfl ?_
                refine g_goto hC (gDec_at DX0_extremePlace_1 1 rfl) 33 (by decide) ?_
                refine g_sub [4, 5, 6, 7, 8, 9, 10, 11, 12, 0] (L' := [(0, .ref (q.2.2 9)), (1, .int (nI x)), (2, .int (nI g)), (3, .long (lN (sPull B x))), (5, .long (lN (sAll B))), (7, .int (nI (sTold (sExt B (sStr B (sPull B x) (sAll B)) g i)))), (8, .long (lN (sStr B (sPull B x) (sAll B) (sExt B (sStr B (sPull B x) (sAll B)) g i)))), (10, .ref (q.2.2 11)), (11, .int (nI 12)), (12, .int (nI (i + 1)))]) rfl ?_
                have h9 := ih (i + 1) (nI (sTold (sExt B (sStr B (sPull B x) (sAll B)) g i))) (lN (sStr B (sPull B x) (sAll B) (sExt B (sStr B (sPull B x) (sAll B)) g i))) (by omega) (by omega) (Or.inr ⟨by omega, by rw [show (sExt B (sStr B (sPull B x) (sAll B)) g (i + 1)) = (sExt B (sStr B (sPull B x) (sAll B)) g i) from if_neg (fun z => by have := z.2; omega)], by rw [show (sExt B (sStr B (sPull B x) (sAll B)) g (i + 1)) = (sExt B (sStr B (sPull B x) (sAll B)) g i) from if_neg (fun z => by have := z.2; omega)]⟩)
                exact h9
              · skip
                refine g_iconst hC (gDec_at DX0_extremePlace_0 42 rfl) (v := nI 1) (by decide) ?_
                refine g_goto hC (gDec_at DX0_extremePlace_0 43 rfl) 100 (by decide) ?_
                refine g_istore hC (gDec_at DX0_extremePlace_0 53 rfl) (by decide) (L' := [(16, .int (nI 1)), (14, .long (lN (sStr B (sPull B x) (sAll B) i))), (13, .ref (q.2.2 (15 + i))), (0, .ref (q.2.2 9)), (1, .int (nI x)), (2, .int (nI g)), (3, .long (lN (sPull B x))), (5, .long (lN (sAll B))), (7, .int (nI (sTold (sExt B (sStr B (sPull B x) (sAll B)) g i)))), (8, .long (lN (sStr B (sPull B x) (sAll B) (sExt B (sStr B (sPull B x) (sAll B)) g i)))), (10, .ref (q.2.2 11)), (11, .int (nI 12)), (12, .int (nI i))]) rfl ?_
                refine g_iload hC (gDec_at DX0_extremePlace_0 54 rfl) rfl ?_
                refine g_bipush hC (gDec_at DX0_extremePlace_0 55 rfl) (v := -9) (by decide) ?_
                refine g_icmp_eq hC (gDec_at DX0_extremePlace_0 56 rfl) 114 (by decide) (fun h => absurd h (nI_n9 (by have := (sExt_lt (B := B) (f := (sStr B (sPull B x) (sAll B))) (g := g) hm.1 i h0).1; unfold sTold; omega))) (fun h => ?_)
                refine g_iload hC (gDec_at DX0_extremePlace_0 57 rfl) rfl ?_
                refine g_if_eqN hC (by decide) (gDec_at DX0_extremePlace_0 58 rfl) 125 (by decide) (fun h => absurd h (by decide)) (fun h => ?_)
                refine g_aload hC (gDec_at DX0_extremePlace_0 59 rfl) rfl ?_
                refine g_get (w := wC q) hC (15 + i) (v := .int (nI (10 * (i / 6) + i % 6))) fl_X0_75 (show 15 + i < 63 from by have := (by omega); omega) (cC_p0 q _ _ (by omega)) (g_sv (ci_told hI (by omega))) (gDec_at DX0_extremePlace_0 60 rfl) ?_
                refine g_istore hC (gDec_at DX0_extremePlace_0 61 rfl) (by decide) (L' := [(7, .int (nI (10 * (i / 6) + i % 6))), (16, .int (nI 1)), (14, .long (lN (sStr B (sPull B x) (sAll B) i))), (13, .ref (q.2.2 (15 + i))), (0, .ref (q.2.2 9)), (1, .int (nI x)), (2, .int (nI g)), (3, .long (lN (sPull B x))), (5, .long (lN (sAll B))), (8, .long (lN (sStr B (sPull B x) (sAll B) (sExt B (sStr B (sPull B x) (sAll B)) g i)))), (10, .ref (q.2.2 11)), (11, .int (nI 12)), (12, .int (nI i))]) rfl ?_
                refine g_lload hC (gDec_at DX0_extremePlace_0 62 rfl) rfl ?_
                refine g_lstore hC (gDec_at DX0_extremePlace_0 63 rfl) (by decide) (L' := [(8, .long (lN (sStr B (sPull B x) (sAll B) i))), (7, .int (nI (10 * (i / 6) + i % 6))), (16, .int (nI 1)), (14, .long (lN (sStr B (sPull B x) (sAll B) i))), (13, .ref (q.2.2 (15 + i))), (0, .ref (q.2.2 9)), (1, .int (nI x)), (2, .int (nI g)), (3, .long (lN (sPull B x))), (5, .long (lN (sAll B))), (10, .ref (q.2.2 11)), (11, .int (nI 12)), (12, .int (nI i))]) rfl ?_
                refine g_iincN hC (gDec_at DX0_extremePlace_1 0 rfl) rfl (by decide) (L' := [(12, .int (nI (i + 1))), (8, .long (lN (sStr B (sPull B x) (sAll B) i))), (7, .int (nI (10 * (i / 6) + i % 6))), (16, .int (nI 1)), (14, .long (lN (sStr B (sPull B x) (sAll B) i))), (13, .ref (q.2.2 (15 + i))), (0, .ref (q.2.2 9)), (1, .int (nI x)), (2, .int (nI g)), (3, .long (lN (sPull B x))), (5, .long (lN (sAll B))), (10, .ref (q.2.2 11)), (11, .int (nI 12))]) rfl ?_
                refine g_goto hC (gDec_at DX0_extremePlace_1 1 rfl) 33 (by decide) ?_
                refine g_sub [6, 7, 8, 9, 10, 2, 1, 11, 12, 0] (L' := [(0, .ref (q.2.2 9)), (1, .int (nI x)), (2, .int (nI g)), (3, .long (lN (sPull B x))), (5, .long (lN (sAll B))), (7, .int (nI (10 * (i / 6) + i % 6))), (8, .long (lN (sStr B (sPull B x) (sAll B) i))), (10, .ref (q.2.2 11)), (11, .int (nI 12)), (12, .int (nI (i + 1)))]) rfl ?_
                have h9 := ih (i + 1) (nI (10 * (i / 6) + i % 6)) (lN (sStr B (sPull B x) (sAll B) i)) (by omega) (by omega) (Or.inr ⟨by omega, by rw [show (sExt B (sStr B (sPull B x) (sAll B)) g (i + 1)) = i from if_pos ⟨h53_1, by omega⟩]; rfl, by rw [show (sExt B (sStr B (sPull B x) (sAll B)) g (i + 1)) = i from if_pos ⟨h53_1, by omega⟩]⟩)
                exact h9
  exact g_sub [7, 8, 9, 6, 5, 4, 3, 2, 1, 0] rfl (loop33 (12 + 1 - 0) 0 (-9) (lN 0) (by omega) (by omega) (Or.inl ⟨rfl, rfl, rfl⟩))

theorem lsub_le {a b m : Nat} (ha : a < 4611686018427387904) (hb : b < 4611686018427387904) (hm : m < 4611686018427387904) : lN a - lN b ≤ lN m ↔ a - b ≤ m := by
  have h1 : (lN a).toInt = a := pk_lT (by omega)
  have h2 : (lN b).toInt = b := pk_lT (by omega)
  have h3 : (lN m).toInt = m := pk_lT (by omega)
  rw [Int64.le_iff_toInt_le, Int64.toInt_sub, h1, h2, h3]
  have e : ((a : Int) - (b : Int)).bmod (2 ^ 64) = (a : Int) - b := by
    rw [Int.bmod_eq_of_le] <;> omega
  rw [e]
  omega
def sAb (B : gB) (ln : Nat → Nat) (pull gives j : Nat) : Nat := sStr B pull gives j - 1000 * ln j
def bkP (q : gQ3) (r : Nat) (wv : Value) : Prop := r = 0 ∧ wv = .null ∨ ∃ k, r = k + 1 ∧ wv = .ref (q.2.2 (15 + k))
/-- the place (and 1) most above its line, and by how much -/
def sBk (B : gB) (a : Nat → Nat) : Nat → Nat × Nat
  | 0 => (0, 0)
  | n + 1 => if n % 6 < B 9 0 ∧ (sBk B a n).2 < a n then (n + 1, a n) else sBk B a n
theorem sBk_bd {B : gB} {a : Nat → Nat} {c : Nat} (h : ∀ j, a j ≤ c) : ∀ n, (sBk B a n).2 ≤ c
  | 0 => Nat.zero_le _
  | n + 1 => by
    rw [sBk]
    split
    · exact h n
    · exact sBk_bd h n
theorem sBk_at {B : gB} {a : Nat → Nat} : ∀ n, (sBk B a n).1 = 0 ∨ ((sBk B a n).1 ≤ n ∧ ((sBk B a n).1 - 1) % 6 < B 9 0)
  | 0 => Or.inl rfl
  | n + 1 => by
    rw [sBk]
    split
    · rename_i h; exact Or.inr ⟨Nat.le_refl _, h.1⟩
    · rcases sBk_at (B := B) (a := a) n with h | h
      · exact Or.inl h
      · exact Or.inr ⟨by omega, h.2⟩
theorem sPl_le {B : gB} (h : bV B) {j : Nat} (hj : j < 12) (ht : j % 6 < B 9 0) : sPl B j ≤ 99 := by
  have h2 := bv_pull h (bv_f2 h hj ht)
  unfold sPl; split <;> omega
theorem sPr_le {B : gB} (h : bV B) {j : Nat} (hj : j < 12) (ht : j % 6 < B 9 0) : sPr B j ≤ 99 := (bv_press h (bv_f2 h hj ht)).2
set_option maxRecDepth 100000 in
set_option maxHeartbeats 4000000 in
theorem c_X0_breakingPlace_no (q : gQ3) {M : gM} {B : gB} (hI : cI M B) {pull gives : Nat} (hp : pull ≤ 80000000) (hg : gives ≤ 432000000000) (hk : (sBk B (sAb B (sPl B) pull gives) 12).1 = 0) : gCt (wC q) yX0_breakingPlace cX0_breakingPlace 14 (some (.object "BowBend$Place")) 2 [.ref (q.2.2 9), .long (lN pull), .long (lN gives)] M (gR (some .null) M) := by
  refine gMet RX0 (by decide +kernel) rfl (Nat.le_of_ble_eq_true rfl) (fun X hC => ?_)
  have hC : gC X (wC q) cX0_breakingPlace 14 RX0 (some (.object "BowBend$Place")) 2 := hC
  show gG X (wC q) _ 14 M 0 [(0, .ref (q.2.2 9)), (1, .long (lN pull)), (3, .long (lN gives))] []
  have hm := bv_many hI.2.2
  have hst := fun j => sStr_le B j (gives := gives) hp
  have hbd := fun n => sBk_bd (B := B) (a := (sAb B (sPl B) pull gives)) (c := 480000000000000) (fun j => by have := hst j; unfold sAb; omega) n
  refine g_null hC (gDec_at DX0_breakingPlace_0 0 rfl) ?_
  refine g_astoreN hC (gDec_at DX0_breakingPlace_0 1 rfl) (by decide) (L' := [(5, .null), (0, .ref (q.2.2 9)), (1, .long (lN pull)), (3, .long (lN gives))]) rfl ?_
  refine g_lconst hC (gDec_at DX0_breakingPlace_0 2 rfl) (v := lN 0) (by decide) ?_
  refine g_lstore hC (gDec_at DX0_breakingPlace_0 3 rfl) (by decide) (L' := [(6, .long (lN 0)), (5, .null), (0, .ref (q.2.2 9)), (1, .long (lN pull)), (3, .long (lN gives))]) rfl ?_
  refine g_aload_n hC (gDec_at DX0_breakingPlace_0 4 rfl) rfl ?_
  refine g_get (w := wC q) hC 9 (v := .ref (q.2.2 11)) fl_X0_22 (show 9 < 63 from by decide) rfl rfl (gDec_at DX0_breakingPlace_0 5 rfl) ?_
  refine g_astore hC (gDec_at DX0_breakingPlace_0 6 rfl) (by decide) (L' := [(8, .ref (q.2.2 11)), (6, .long (lN 0)), (5, .null), (0, .ref (q.2.2 9)), (1, .long (lN pull)), (3, .long (lN gives))]) rfl ?_
  refine g_aload hC (gDec_at DX0_breakingPlace_0 7 rfl) rfl ?_
  refine g_alen (w := wC q) hC 11 3 (show 11 < 63 from by decide) rfl rfl (gDec_at DX0_breakingPlace_0 8 rfl) ?_
  refine g_istore hC (gDec_at DX0_breakingPlace_0 9 rfl) (by decide) (L' := [(9, .int (nI 12)), (8, .ref (q.2.2 11)), (6, .long (lN 0)), (5, .null), (0, .ref (q.2.2 9)), (1, .long (lN pull)), (3, .long (lN gives))]) rfl ?_
  refine g_iconst hC (gDec_at DX0_breakingPlace_0 10 rfl) (v := nI 0) (by decide) ?_
  refine g_istore hC (gDec_at DX0_breakingPlace_0 11 rfl) (by decide) (L' := [(10, .int (nI 0)), (9, .int (nI 12)), (8, .ref (q.2.2 11)), (6, .long (lN 0)), (5, .null), (0, .ref (q.2.2 9)), (1, .long (lN pull)), (3, .long (lN gives))]) rfl ?_
  have loop20 : ∀ (fu i : Nat) (wv : Value), i ≤ 12 → 12 - i < fu → bkP q (sBk B (sAb B (sPl B) pull gives) i).1 wv → gG X (wC q) (gR (some .null) M) 14 M 20 [(0, .ref (q.2.2 9)), (1, .long (lN pull)), (3, .long (lN gives)), (5, wv), (6, .long (lN ((sBk B (sAb B (sPl B) pull gives) i).2))), (8, .ref (q.2.2 11)), (9, .int (nI 12)), (10, .int (nI i))] [] := by
    intro fu; induction fu with
    | zero => intro i wv h1 h2; omega
    | succ fu ih =>
      intro i wv hi hfu hf
      have hsi := hst i
      have hbi := hbd i
      refine g_iload hC (gDec_at DX0_breakingPlace_0 12 rfl) rfl ?_
      refine g_iload hC (gDec_at DX0_breakingPlace_0 13 rfl) rfl ?_
      refine g_icmp_geN hC (by omega) (by omega) (gDec_at DX0_breakingPlace_0 14 rfl) 86 (by decide) (fun h24 => ?_) (fun h24 => ?_)
      · skip
        obtain rfl : i = 12 := by omega
        rcases hf with ⟨hz, rfl⟩ | ⟨k, hz, rfl⟩
        · skip
          refine g_aloadN hC (gDec_at DX0_breakingPlace_0 45 rfl) rfl ?_
          refine g_aret hC (Or.inl rfl) (gDec_at DX0_breakingPlace_0 46 rfl) ?_
          exact ⟨rfl, rfl⟩
        · skip
          exact absurd hk (by omega)
      · skip
        refine g_aload hC (gDec_at DX0_breakingPlace_0 15 rfl) rfl ?_
        refine g_iload hC (gDec_at DX0_breakingPlace_0 16 rfl) rfl ?_
        refine g_aald (w := wC q) hC 11 3 i (a := q.2.2 (15 + i)) (show 11 < 63 from by decide) rfl rfl (by omega) (by decide) rfl (gDec_at DX0_breakingPlace_0 17 rfl) ?_
        refine g_astore hC (gDec_at DX0_breakingPlace_0 18 rfl) (by decide) (L' := [(11, .ref (q.2.2 (15 + i))), (0, .ref (q.2.2 9)), (1, .long (lN pull)), (3, .long (lN gives)), (5, wv), (6, .long (lN ((sBk B (sAb B (sPl B) pull gives) i).2))), (8, .ref (q.2.2 11)), (9, .int (nI 12)), (10, .int (nI i))]) rfl ?_
        refine g_aload_n hC (gDec_at DX0_breakingPlace_0 19 rfl) rfl ?_
        refine g_aload hC (gDec_at DX0_breakingPlace_0 20 rfl) rfl ?_
        refine g_callVd (w := wC q) hC 9 (c_X0_has q hI (by omega)) vf_X0_has ml_X0_42 (by decide) (show 9 < 63 from by decide) rfl rfl rfl rfl rfl (Nat.le_of_ble_eq_true rfl) (gDec_at DX0_breakingPlace_0 21 rfl) ?_
        refine g_if_eqB hC (gDec_at DX0_breakingPlace_0 22 rfl) 80 (by decide) (fun h40 => ?_) (fun h40 => ?_)
        · skip
          refine g_iincN hC (gDec_at DX0_breakingPlace_0 43 rfl) rfl (by decide) (L' := [(10, .int (nI (i + 1))), (11, .ref (q.2.2 (15 + i))), (0, .ref (q.2.2 9)), (1, .long (lN pull)), (3, .long (lN gives)), (5, wv), (6, .long (lN ((sBk B (sAb B (sPl B) pull gives) i).2))), (8, .ref (q.2.2 11)), (9, .int (nI 12))]) rfl ?_
          refine g_goto hC (gDec_at DX0_breakingPlace_0 44 rfl) 20 (by decide) ?_
          refine g_sub [2, 3, 4, 5, 6, 7, 8, 0] (L' := [(0, .ref (q.2.2 9)), (1, .long (lN pull)), (3, .long (lN gives)), (5, wv), (6, .long (lN ((sBk B (sAb B (sPl B) pull gives) i).2))), (8, .ref (q.2.2 11)), (9, .int (nI 12)), (10, .int (nI (i + 1)))]) rfl ?_
          have e9 : (sBk B (sAb B (sPl B) pull gives) (i + 1)) = (sBk B (sAb B (sPl B) pull gives) i) := if_neg (fun z => h40 z.1)
          have h9 := ih (i + 1) wv (by omega) (by omega) (by rw [e9]; exact hf)
          rw [e9] at h9
          exact h9
        · skip
          have hpl := sPl_le hI.2.2 (by omega : i < 12) h40
          refine g_aload_n hC (gDec_at DX0_breakingPlace_0 23 rfl) rfl ?_
          refine g_aload hC (gDec_at DX0_breakingPlace_0 24 rfl) rfl ?_
          refine g_lload_n hC (gDec_at DX0_breakingPlace_0 25 rfl) rfl ?_
          refine g_lload_n hC (gDec_at DX0_breakingPlace_0 26 rfl) rfl ?_
          refine g_callVd (w := wC q) hC 9 (c_X0_strainOf q hI (by omega) (by omega) (pull := pull) (gives := gives) (by omega) (by omega)) vf_X0_strainOf ml_X0_132 (by decide) (show 9 < 63 from by decide) rfl rfl rfl rfl rfl (Nat.le_of_ble_eq_true rfl) (gDec_at DX0_breakingPlace_0 27 rfl) ?_
          refine g_ldc2 hC cl_X0_136 (v' := lN 1000) (by decide) (gDec_at DX0_breakingPlace_0 28 rfl) ?_
          refine g_aload_n hC (gDec_at DX0_breakingPlace_0 29 rfl) rfl ?_
          refine g_aload hC (gDec_at DX0_breakingPlace_0 30 rfl) rfl ?_
          refine g_callVd (w := wC q) hC 9 (c_X0_pullLineOf q hI (by omega) (by omega)) vf_X0_pullLineOf ml_X0_138 (by decide) (show 9 < 63 from by decide) rfl rfl rfl rfl rfl (Nat.le_of_ble_eq_true rfl) (gDec_at DX0_breakingPlace_0 31 rfl) ?_
          refine g_lmulN hC (gDec_at DX0_breakingPlace_0 32 rfl) ?_
          refine g_lsub hC (gDec_at DX0_breakingPlace_0 33 rfl) (v := (lN (sStr B pull gives i) - lN (1000 * sPl B i))) rfl ?_
          refine g_lstore hC (gDec_at DX0_breakingPlace_0 34 rfl) (by decide) (L' := [(12, .long (lN (sStr B pull gives i) - lN (1000 * sPl B i))), (11, .ref (q.2.2 (15 + i))), (0, .ref (q.2.2 9)), (1, .long (lN pull)), (3, .long (lN gives)), (5, wv), (6, .long (lN ((sBk B (sAb B (sPl B) pull gives) i).2))), (8, .ref (q.2.2 11)), (9, .int (nI 12)), (10, .int (nI i))]) rfl ?_
          refine g_lload hC (gDec_at DX0_breakingPlace_0 35 rfl) rfl ?_
          refine g_lload hC (gDec_at DX0_breakingPlace_0 36 rfl) rfl ?_
          refine g_lc_le hC (gDec_at DX0_breakingPlace_0 37 rfl) (gDec_at DX0_breakingPlace_0 38 rfl) 80 (by decide) (fun h68 => ?_) (fun h68 => ?_)
          · skip
            have h68n : sStr B pull gives i - 1000 * sPl B i ≤ (sBk B (sAb B (sPl B) pull gives) i).2 := (lsub_le (by omega) (by omega) (by omega)).mp h68
            refine g_iincN hC (gDec_at DX0_breakingPlace_0 43 rfl) rfl (by decide) (L' := [(10, .int (nI (i + 1))), (12, .long (lN (sStr B pull gives i) - lN (1000 * sPl B i))), (11, .ref (q.2.2 (15 + i))), (0, .ref (q.2.2 9)), (1, .long (lN pull)), (3, .long (lN gives)), (5, wv), (6, .long (lN ((sBk B (sAb B (sPl B) pull gives) i).2))), (8, .ref (q.2.2 11)), (9, .int (nI 12))]) rfl ?_
            refine g_goto hC (gDec_at DX0_breakingPlace_0 44 rfl) 20 (by decide) ?_
            refine g_sub [3, 4, 5, 6, 7, 8, 9, 0] (L' := [(0, .ref (q.2.2 9)), (1, .long (lN pull)), (3, .long (lN gives)), (5, wv), (6, .long (lN ((sBk B (sAb B (sPl B) pull gives) i).2))), (8, .ref (q.2.2 11)), (9, .int (nI 12)), (10, .int (nI (i + 1)))]) rfl ?_
            have e9 : (sBk B (sAb B (sPl B) pull gives) (i + 1)) = (sBk B (sAb B (sPl B) pull gives) i) := if_neg (fun z => by have z2 : (sBk B (sAb B (sPl B) pull gives) i).2 < sStr B pull gives i - 1000 * sPl B i := z.2; omega)
            have h9 := ih (i + 1) wv (by omega) (by omega) (by rw [e9]; exact hf)
            rw [e9] at h9
            exact h9
          · skip
            have h68n : (sBk B (sAb B (sPl B) pull gives) i).2 < sStr B pull gives i - 1000 * sPl B i := Nat.lt_of_not_le (fun z => h68 ((lsub_le (by omega) (by omega) (by omega)).mpr z))
            rw [lN_sub (show 1000 * sPl B i ≤ sStr B pull gives i from by omega)]
            refine g_sub [0, 1, 2, 3, 4, 6, 7, 8, 9] (L' := [(12, .long (lN (sStr B pull gives i - 1000 * sPl B i))), (11, .ref (q.2.2 (15 + i))), (0, .ref (q.2.2 9)), (1, .long (lN pull)), (3, .long (lN gives)), (6, .long (lN ((sBk B (sAb B (sPl B) pull gives) i).2))), (8, .ref (q.2.2 11)), (9, .int (nI 12)), (10, .int (nI i))]) rfl ?_
            refine g_lload hC (gDec_at DX0_breakingPlace_0 39 rfl) rfl ?_
            refine g_lstore hC (gDec_at DX0_breakingPlace_0 40 rfl) (by decide) (L' := [(6, .long (lN (sStr B pull gives i - 1000 * sPl B i))), (12, .long (lN (sStr B pull gives i - 1000 * sPl B i))), (11, .ref (q.2.2 (15 + i))), (0, .ref (q.2.2 9)), (1, .long (lN pull)), (3, .long (lN gives)), (8, .ref (q.2.2 11)), (9, .int (nI 12)), (10, .int (nI i))]) rfl ?_
            refine g_aload hC (gDec_at DX0_breakingPlace_0 41 rfl) rfl ?_
            refine g_astore hC (gDec_at DX0_breakingPlace_0 42 rfl) (by decide) (L' := [(5, .ref (q.2.2 (15 + i))), (6, .long (lN (sStr B pull gives i - 1000 * sPl B i))), (12, .long (lN (sStr B pull gives i - 1000 * sPl B i))), (11, .ref (q.2.2 (15 + i))), (0, .ref (q.2.2 9)), (1, .long (lN pull)), (3, .long (lN gives)), (8, .ref (q.2.2 11)), (9, .int (nI 12)), (10, .int (nI i))]) rfl ?_
            refine g_iincN hC (gDec_at DX0_breakingPlace_0 43 rfl) rfl (by decide) (L' := [(10, .int (nI (i + 1))), (5, .ref (q.2.2 (15 + i))), (6, .long (lN (sStr B pull gives i - 1000 * sPl B i))), (12, .long (lN (sStr B pull gives i - 1000 * sPl B i))), (11, .ref (q.2.2 (15 + i))), (0, .ref (q.2.2 9)), (1, .long (lN pull)), (3, .long (lN gives)), (8, .ref (q.2.2 11)), (9, .int (nI 12))]) rfl ?_
            refine g_goto hC (gDec_at DX0_breakingPlace_0 44 rfl) 20 (by decide) ?_
            refine g_sub [5, 6, 7, 1, 2, 8, 9, 0] (L' := [(0, .ref (q.2.2 9)), (1, .long (lN pull)), (3, .long (lN gives)), (5, .ref (q.2.2 (15 + i))), (6, .long (lN (sStr B pull gives i - 1000 * sPl B i))), (8, .ref (q.2.2 11)), (9, .int (nI 12)), (10, .int (nI (i + 1)))]) rfl ?_
            have e9 : (sBk B (sAb B (sPl B) pull gives) (i + 1)) = (i + 1, (sAb B (sPl B) pull gives) i) := if_pos ⟨h40, by show _ < sStr B pull gives i - 1000 * sPl B i; omega⟩
            have h9 := ih (i + 1) (.ref (q.2.2 (15 + i))) (by omega) (by omega) (Or.inr ⟨i, by rw [e9], rfl⟩)
            rw [e9] at h9
            exact h9
  exact g_sub [5, 6, 7, 4, 3, 2, 1, 0] rfl (loop20 (12 + 1 - 0) 0 .null (by omega) (by omega) (Or.inl ⟨rfl, rfl⟩))

set_option maxRecDepth 100000 in
set_option maxHeartbeats 4000000 in
theorem c_X0_breakingPlace (q : gQ3) {M : gM} {B : gB} (hI : cI M B) {pull gives : Nat} (hp : pull ≤ 80000000) (hg : gives ≤ 432000000000) {j : Nat} (hk : (sBk B (sAb B (sPl B) pull gives) 12).1 = j + 1) : gCt (wC q) yX0_breakingPlace cX0_breakingPlace 14 (some (.object "BowBend$Place")) 2 [.ref (q.2.2 9), .long (lN pull), .long (lN gives)] M (gR (some (.ref (q.2.2 (15 + j)))) M) := by
  refine gMet RX0 (by decide +kernel) rfl (Nat.le_of_ble_eq_true rfl) (fun X hC => ?_)
  have hC : gC X (wC q) cX0_breakingPlace 14 RX0 (some (.object "BowBend$Place")) 2 := hC
  show gG X (wC q) _ 14 M 0 [(0, .ref (q.2.2 9)), (1, .long (lN pull)), (3, .long (lN gives))] []
  have hm := bv_many hI.2.2
  have hst := fun j => sStr_le B j (gives := gives) hp
  have hbd := fun n => sBk_bd (B := B) (a := (sAb B (sPl B) pull gives)) (c := 480000000000000) (fun j => by have := hst j; unfold sAb; omega) n
  refine g_null hC (gDec_at DX0_breakingPlace_0 0 rfl) ?_
  refine g_astoreN hC (gDec_at DX0_breakingPlace_0 1 rfl) (by decide) (L' := [(5, .null), (0, .ref (q.2.2 9)), (1, .long (lN pull)), (3, .long (lN gives))]) rfl ?_
  refine g_lconst hC (gDec_at DX0_breakingPlace_0 2 rfl) (v := lN 0) (by decide) ?_
  refine g_lstore hC (gDec_at DX0_breakingPlace_0 3 rfl) (by decide) (L' := [(6, .long (lN 0)), (5, .null), (0, .ref (q.2.2 9)), (1, .long (lN pull)), (3, .long (lN gives))]) rfl ?_
  refine g_aload_n hC (gDec_at DX0_breakingPlace_0 4 rfl) rfl ?_
  refine g_get (w := wC q) hC 9 (v := .ref (q.2.2 11)) fl_X0_22 (show 9 < 63 from by decide) rfl rfl (gDec_at DX0_breakingPlace_0 5 rfl) ?_
  refine g_astore hC (gDec_at DX0_breakingPlace_0 6 rfl) (by decide) (L' := [(8, .ref (q.2.2 11)), (6, .long (lN 0)), (5, .null), (0, .ref (q.2.2 9)), (1, .long (lN pull)), (3, .long (lN gives))]) rfl ?_
  refine g_aload hC (gDec_at DX0_breakingPlace_0 7 rfl) rfl ?_
  refine g_alen (w := wC q) hC 11 3 (show 11 < 63 from by decide) rfl rfl (gDec_at DX0_breakingPlace_0 8 rfl) ?_
  refine g_istore hC (gDec_at DX0_breakingPlace_0 9 rfl) (by decide) (L' := [(9, .int (nI 12)), (8, .ref (q.2.2 11)), (6, .long (lN 0)), (5, .null), (0, .ref (q.2.2 9)), (1, .long (lN pull)), (3, .long (lN gives))]) rfl ?_
  refine g_iconst hC (gDec_at DX0_breakingPlace_0 10 rfl) (v := nI 0) (by decide) ?_
  refine g_istore hC (gDec_at DX0_breakingPlace_0 11 rfl) (by decide) (L' := [(10, .int (nI 0)), (9, .int (nI 12)), (8, .ref (q.2.2 11)), (6, .long (lN 0)), (5, .null), (0, .ref (q.2.2 9)), (1, .long (lN pull)), (3, .long (lN gives))]) rfl ?_
  have loop20 : ∀ (fu i : Nat) (wv : Value), i ≤ 12 → 12 - i < fu → bkP q (sBk B (sAb B (sPl B) pull gives) i).1 wv → gG X (wC q) (gR (some (.ref (q.2.2 (15 + j)))) M) 14 M 20 [(0, .ref (q.2.2 9)), (1, .long (lN pull)), (3, .long (lN gives)), (5, wv), (6, .long (lN ((sBk B (sAb B (sPl B) pull gives) i).2))), (8, .ref (q.2.2 11)), (9, .int (nI 12)), (10, .int (nI i))] [] := by
    intro fu; induction fu with
    | zero => intro i wv h1 h2; omega
    | succ fu ih =>
      intro i wv hi hfu hf
      have hsi := hst i
      have hbi := hbd i
      refine g_iload hC (gDec_at DX0_breakingPlace_0 12 rfl) rfl ?_
      refine g_iload hC (gDec_at DX0_breakingPlace_0 13 rfl) rfl ?_
      refine g_icmp_geN hC (by omega) (by omega) (gDec_at DX0_breakingPlace_0 14 rfl) 86 (by decide) (fun h24 => ?_) (fun h24 => ?_)
      · skip
        obtain rfl : i = 12 := by omega
        rcases hf with ⟨hz, rfl⟩ | ⟨k, hz, rfl⟩
        · skip
          exact absurd hk (by omega)
        · skip
          obtain rfl : k = j := by omega
          refine g_aload hC (gDec_at DX0_breakingPlace_0 45 rfl) rfl ?_
          refine g_aret hC (Or.inr ⟨_, rfl⟩) (gDec_at DX0_breakingPlace_0 46 rfl) ?_
          exact ⟨rfl, rfl⟩
      · skip
        refine g_aload hC (gDec_at DX0_breakingPlace_0 15 rfl) rfl ?_
        refine g_iload hC (gDec_at DX0_breakingPlace_0 16 rfl) rfl ?_
        refine g_aald (w := wC q) hC 11 3 i (a := q.2.2 (15 + i)) (show 11 < 63 from by decide) rfl rfl (by omega) (by decide) rfl (gDec_at DX0_breakingPlace_0 17 rfl) ?_
        refine g_astore hC (gDec_at DX0_breakingPlace_0 18 rfl) (by decide) (L' := [(11, .ref (q.2.2 (15 + i))), (0, .ref (q.2.2 9)), (1, .long (lN pull)), (3, .long (lN gives)), (5, wv), (6, .long (lN ((sBk B (sAb B (sPl B) pull gives) i).2))), (8, .ref (q.2.2 11)), (9, .int (nI 12)), (10, .int (nI i))]) rfl ?_
        refine g_aload_n hC (gDec_at DX0_breakingPlace_0 19 rfl) rfl ?_
        refine g_aload hC (gDec_at DX0_breakingPlace_0 20 rfl) rfl ?_
        refine g_callVd (w := wC q) hC 9 (c_X0_has q hI (by omega)) vf_X0_has ml_X0_42 (by decide) (show 9 < 63 from by decide) rfl rfl rfl rfl rfl (Nat.le_of_ble_eq_true rfl) (gDec_at DX0_breakingPlace_0 21 rfl) ?_
        refine g_if_eqB hC (gDec_at DX0_breakingPlace_0 22 rfl) 80 (by decide) (fun h40 => ?_) (fun h40 => ?_)
        · skip
          refine g_iincN hC (gDec_at DX0_breakingPlace_0 43 rfl) rfl (by decide) (L' := [(10, .int (nI (i + 1))), (11, .ref (q.2.2 (15 + i))), (0, .ref (q.2.2 9)), (1, .long (lN pull)), (3, .long (lN gives)), (5, wv), (6, .long (lN ((sBk B (sAb B (sPl B) pull gives) i).2))), (8, .ref (q.2.2 11)), (9, .int (nI 12))]) rfl ?_
          refine g_goto hC (gDec_at DX0_breakingPlace_0 44 rfl) 20 (by decide) ?_
          refine g_sub [2, 3, 4, 5, 6, 7, 8, 0] (L' := [(0, .ref (q.2.2 9)), (1, .long (lN pull)), (3, .long (lN gives)), (5, wv), (6, .long (lN ((sBk B (sAb B (sPl B) pull gives) i).2))), (8, .ref (q.2.2 11)), (9, .int (nI 12)), (10, .int (nI (i + 1)))]) rfl ?_
          have e9 : (sBk B (sAb B (sPl B) pull gives) (i + 1)) = (sBk B (sAb B (sPl B) pull gives) i) := if_neg (fun z => h40 z.1)
          have h9 := ih (i + 1) wv (by omega) (by omega) (by rw [e9]; exact hf)
          rw [e9] at h9
          exact h9
        · skip
          have hpl := sPl_le hI.2.2 (by omega : i < 12) h40
          refine g_aload_n hC (gDec_at DX0_breakingPlace_0 23 rfl) rfl ?_
          refine g_aload hC (gDec_at DX0_breakingPlace_0 24 rfl) rfl ?_
          refine g_lload_n hC (gDec_at DX0_breakingPlace_0 25 rfl) rfl ?_
          refine g_lload_n hC (gDec_at DX0_breakingPlace_0 26 rfl) rfl ?_
          refine g_callVd (w := wC q) hC 9 (c_X0_strainOf q hI (by omega) (by omega) (pull := pull) (gives := gives) (by omega) (by omega)) vf_X0_strainOf ml_X0_132 (by decide) (show 9 < 63 from by decide) rfl rfl rfl rfl rfl (Nat.le_of_ble_eq_true rfl) (gDec_at DX0_breakingPlace_0 27 rfl) ?_
          refine g_ldc2 hC cl_X0_136 (v' := lN 1000) (by decide) (gDec_at DX0_breakingPlace_0 28 rfl) ?_
          refine g_aload_n hC (gDec_at DX0_breakingPlace_0 29 rfl) rfl ?_
          refine g_aload hC (gDec_at DX0_breakingPlace_0 30 rfl) rfl ?_
          refine g_callVd (w := wC q) hC 9 (c_X0_pullLineOf q hI (by omega) (by omega)) vf_X0_pullLineOf ml_X0_138 (by decide) (show 9 < 63 from by decide) rfl rfl rfl rfl rfl (Nat.le_of_ble_eq_true rfl) (gDec_at DX0_breakingPlace_0 31 rfl) ?_
          refine g_lmulN hC (gDec_at DX0_breakingPlace_0 32 rfl) ?_
          refine g_lsub hC (gDec_at DX0_breakingPlace_0 33 rfl) (v := (lN (sStr B pull gives i) - lN (1000 * sPl B i))) rfl ?_
          refine g_lstore hC (gDec_at DX0_breakingPlace_0 34 rfl) (by decide) (L' := [(12, .long (lN (sStr B pull gives i) - lN (1000 * sPl B i))), (11, .ref (q.2.2 (15 + i))), (0, .ref (q.2.2 9)), (1, .long (lN pull)), (3, .long (lN gives)), (5, wv), (6, .long (lN ((sBk B (sAb B (sPl B) pull gives) i).2))), (8, .ref (q.2.2 11)), (9, .int (nI 12)), (10, .int (nI i))]) rfl ?_
          refine g_lload hC (gDec_at DX0_breakingPlace_0 35 rfl) rfl ?_
          refine g_lload hC (gDec_at DX0_breakingPlace_0 36 rfl) rfl ?_
          refine g_lc_le hC (gDec_at DX0_breakingPlace_0 37 rfl) (gDec_at DX0_breakingPlace_0 38 rfl) 80 (by decide) (fun h68 => ?_) (fun h68 => ?_)
          · skip
            have h68n : sStr B pull gives i - 1000 * sPl B i ≤ (sBk B (sAb B (sPl B) pull gives) i).2 := (lsub_le (by omega) (by omega) (by omega)).mp h68
            refine g_iincN hC (gDec_at DX0_breakingPlace_0 43 rfl) rfl (by decide) (L' := [(10, .int (nI (i + 1))), (12, .long (lN (sStr B pull gives i) - lN (1000 * sPl B i))), (11, .ref (q.2.2 (15 + i))), (0, .ref (q.2.2 9)), (1, .long (lN pull)), (3, .long (lN gives)), (5, wv), (6, .long (lN ((sBk B (sAb B (sPl B) pull gives) i).2))), (8, .ref (q.2.2 11)), (9, .int (nI 12))]) rfl ?_
            refine g_goto hC (gDec_at DX0_breakingPlace_0 44 rfl) 20 (by decide) ?_
            refine g_sub [3, 4, 5, 6, 7, 8, 9, 0] (L' := [(0, .ref (q.2.2 9)), (1, .long (lN pull)), (3, .long (lN gives)), (5, wv), (6, .long (lN ((sBk B (sAb B (sPl B) pull gives) i).2))), (8, .ref (q.2.2 11)), (9, .int (nI 12)), (10, .int (nI (i + 1)))]) rfl ?_
            have e9 : (sBk B (sAb B (sPl B) pull gives) (i + 1)) = (sBk B (sAb B (sPl B) pull gives) i) := if_neg (fun z => by have z2 : (sBk B (sAb B (sPl B) pull gives) i).2 < sStr B pull gives i - 1000 * sPl B i := z.2; omega)
            have h9 := ih (i + 1) wv (by omega) (by omega) (by rw [e9]; exact hf)
            rw [e9] at h9
            exact h9
          · skip
            have h68n : (sBk B (sAb B (sPl B) pull gives) i).2 < sStr B pull gives i - 1000 * sPl B i := Nat.lt_of_not_le (fun z => h68 ((lsub_le (by omega) (by omega) (by omega)).mpr z))
            rw [lN_sub (show 1000 * sPl B i ≤ sStr B pull gives i from by omega)]
            refine g_sub [0, 1, 2, 3, 4, 6, 7, 8, 9] (L' := [(12, .long (lN (sStr B pull gives i - 1000 * sPl B i))), (11, .ref (q.2.2 (15 + i))), (0, .ref (q.2.2 9)), (1, .long (lN pull)), (3, .long (lN gives)), (6, .long (lN ((sBk B (sAb B (sPl B) pull gives) i).2))), (8, .ref (q.2.2 11)), (9, .int (nI 12)), (10, .int (nI i))]) rfl ?_
            refine g_lload hC (gDec_at DX0_breakingPlace_0 39 rfl) rfl ?_
            refine g_lstore hC (gDec_at DX0_breakingPlace_0 40 rfl) (by decide) (L' := [(6, .long (lN (sStr B pull gives i - 1000 * sPl B i))), (12, .long (lN (sStr B pull gives i - 1000 * sPl B i))), (11, .ref (q.2.2 (15 + i))), (0, .ref (q.2.2 9)), (1, .long (lN pull)), (3, .long (lN gives)), (8, .ref (q.2.2 11)), (9, .int (nI 12)), (10, .int (nI i))]) rfl ?_
            refine g_aload hC (gDec_at DX0_breakingPlace_0 41 rfl) rfl ?_
            refine g_astore hC (gDec_at DX0_breakingPlace_0 42 rfl) (by decide) (L' := [(5, .ref (q.2.2 (15 + i))), (6, .long (lN (sStr B pull gives i - 1000 * sPl B i))), (12, .long (lN (sStr B pull gives i - 1000 * sPl B i))), (11, .ref (q.2.2 (15 + i))), (0, .ref (q.2.2 9)), (1, .long (lN pull)), (3, .long (lN gives)), (8, .ref (q.2.2 11)), (9, .int (nI 12)), (10, .int (nI i))]) rfl ?_
            refine g_iincN hC (gDec_at DX0_breakingPlace_0 43 rfl) rfl (by decide) (L' := [(10, .int (nI (i + 1))), (5, .ref (q.2.2 (15 + i))), (6, .long (lN (sStr B pull gives i - 1000 * sPl B i))), (12, .long (lN (sStr B pull gives i - 1000 * sPl B i))), (11, .ref (q.2.2 (15 + i))), (0, .ref (q.2.2 9)), (1, .long (lN pull)), (3, .long (lN gives)), (8, .ref (q.2.2 11)), (9, .int (nI 12))]) rfl ?_
            refine g_goto hC (gDec_at DX0_breakingPlace_0 44 rfl) 20 (by decide) ?_
            refine g_sub [5, 6, 7, 1, 2, 8, 9, 0] (L' := [(0, .ref (q.2.2 9)), (1, .long (lN pull)), (3, .long (lN gives)), (5, .ref (q.2.2 (15 + i))), (6, .long (lN (sStr B pull gives i - 1000 * sPl B i))), (8, .ref (q.2.2 11)), (9, .int (nI 12)), (10, .int (nI (i + 1)))]) rfl ?_
            have e9 : (sBk B (sAb B (sPl B) pull gives) (i + 1)) = (i + 1, (sAb B (sPl B) pull gives) i) := if_pos ⟨h40, by show _ < sStr B pull gives i - 1000 * sPl B i; omega⟩
            have h9 := ih (i + 1) (.ref (q.2.2 (15 + i))) (by omega) (by omega) (Or.inr ⟨i, by rw [e9], rfl⟩)
            rw [e9] at h9
            exact h9
  exact g_sub [5, 6, 7, 4, 3, 2, 1, 0] rfl (loop20 (12 + 1 - 0) 0 .null (by omega) (by omega) (Or.inl ⟨rfl, rfl⟩))

def tkB (B : gB) (a : Nat → Nat) (n : Nat) : gB := fun r j => if r = 3 ∧ j < n ∧ j % 6 < B 9 0 then min 99 (B 3 j + (a j + 999) / 1000) else B r j
theorem tkB_0 (B : gB) (a : Nat → Nat) : tkB B a 0 = B := by
  funext r j; unfold tkB; rw [if_neg (by omega)]
theorem tkB_s {B : gB} (hV : bV B) {a : Nat → Nat} {n v : Nat} (hn : n < 12) (hv : n % 6 < B 9 0 → v = min 99 (B 3 n + (a n + 999) / 1000)) (ht : n % 6 < B 9 0) : upB (tkB B a n) 3 n v = tkB B a (n + 1) := by
  funext r j
  unfold upB tkB
  by_cases h : r = 3 ∧ j = n
  · obtain ⟨rfl, rfl⟩ := h
    rw [if_pos ⟨rfl, rfl⟩, if_pos ⟨rfl, by omega, ht⟩, hv ht]
  · rw [if_neg h]
    by_cases h2 : r = 3 ∧ j < n ∧ j % 6 < B 9 0
    · rw [if_pos h2, if_pos ⟨h2.1, by omega, h2.2.2⟩]
    · rw [if_neg h2, if_neg (by omega)]
theorem tkB_k {B : gB} (hV : bV B) {a : Nat → Nat} {n : Nat} (hn : n < 12) (h0 : n % 6 < B 9 0 → a n = 0) : tkB B a (n + 1) = tkB B a n := by
  funext r j
  unfold tkB
  by_cases h : r = 3 ∧ j = n
  · obtain ⟨rfl, rfl⟩ := h
    by_cases ht : j % 6 < B 9 0
    · have h3 := bv_f3 hV hn ht
      rw [if_pos ⟨rfl, by omega, ht⟩, if_neg (by omega), h0 ht]
      omega
    · rw [if_neg (by omega), if_neg (by omega)]
  · by_cases h2 : r = 3 ∧ j < n ∧ j % 6 < B 9 0
    · rw [if_pos h2, if_pos ⟨h2.1, by omega, h2.2.2⟩]
    · rw [if_neg h2, if_neg (by omega)]
theorem tkB_i (B : gB) (a : Nat → Nat) (n : Nat) : tkB B a n 3 n = B 3 n := by
  unfold tkB; rw [if_neg (by omega)]
theorem tkB_V {B : gB} (hV : bV B) (a : Nat → Nat) (n : Nat) : bV (tkB B a n) := by
  obtain ⟨h1, h2, h3, h4, h5⟩ := hV
  refine ⟨h1, h2, h3, h4, fun j hj ht => ?_⟩
  obtain ⟨a0, a1, a2, a3, a4, a5⟩ := h5 j hj ht
  refine ⟨a0, a1, a2, ?_, a4, a5⟩
  show (if 3 = 3 ∧ j < n ∧ j % 6 < B 9 0 then min 99 (B 3 j + (a j + 999) / 1000) else B 3 j) ≤ 99
  split <;> omega
def sTkN (B : gB) (a : Nat → Nat) (n : Nat) : Nat := gsm (fun j => if j % 6 < B 9 0 ∧ 0 < a j then 1 else 0) n
set_option maxRecDepth 100000 in
set_option maxHeartbeats 4000000 in
theorem c_X0_takeSets (q : gQ3) {M : gM} {B : gB} (hI : cI M B) {pull gives : Nat} (hp : pull ≤ 80000000) (hg : gives ≤ 432000000000) : gCt (wC q) yX0_takeSets cX0_takeSets 12 (some .int) 2 [.ref (q.2.2 9), .long (lN pull), .long (lN gives)] M (fun v M' => v = some (.int (nI (sTkN B (sAb B (sPr B) pull gives) 12))) ∧ cI M' (tkB B (sAb B (sPr B) pull gives) 12) ∧ sameO (fun i => 15 ≤ i ∧ i < 27) M M') := by
  refine gMet RX0 (by decide +kernel) rfl (Nat.le_of_ble_eq_true rfl) (fun X hC => ?_)
  have hC : gC X (wC q) cX0_takeSets 12 RX0 (some .int) 2 := hC
  show gG X (wC q) _ 12 M 0 [(0, .ref (q.2.2 9)), (1, .long (lN pull)), (3, .long (lN gives))] []
  have hm := bv_many hI.2.2
  have hst := fun j => sStr_le B j (gives := gives) hp
  refine g_iconst hC (gDec_at DX0_takeSets_0 0 rfl) (v := nI 0) (by decide) ?_
  refine g_istore hC (gDec_at DX0_takeSets_0 1 rfl) (by decide) (L' := [(5, .int (nI 0)), (0, .ref (q.2.2 9)), (1, .long (lN pull)), (3, .long (lN gives))]) rfl ?_
  refine g_aload_n hC (gDec_at DX0_takeSets_0 2 rfl) rfl ?_
  refine g_get (w := wC q) hC 9 (v := .ref (q.2.2 11)) fl_X0_22 (show 9 < 63 from by decide) rfl rfl (gDec_at DX0_takeSets_0 3 rfl) ?_
  refine g_astore hC (gDec_at DX0_takeSets_0 4 rfl) (by decide) (L' := [(6, .ref (q.2.2 11)), (5, .int (nI 0)), (0, .ref (q.2.2 9)), (1, .long (lN pull)), (3, .long (lN gives))]) rfl ?_
  refine g_aload hC (gDec_at DX0_takeSets_0 5 rfl) rfl ?_
  refine g_alen (w := wC q) hC 11 3 (show 11 < 63 from by decide) rfl rfl (gDec_at DX0_takeSets_0 6 rfl) ?_
  refine g_istore hC (gDec_at DX0_takeSets_0 7 rfl) (by decide) (L' := [(7, .int (nI 12)), (6, .ref (q.2.2 11)), (5, .int (nI 0)), (0, .ref (q.2.2 9)), (1, .long (lN pull)), (3, .long (lN gives))]) rfl ?_
  refine g_iconst hC (gDec_at DX0_takeSets_0 8 rfl) (v := nI 0) (by decide) ?_
  refine g_istore hC (gDec_at DX0_takeSets_0 9 rfl) (by decide) (L' := [(8, .int (nI 0)), (7, .int (nI 12)), (6, .ref (q.2.2 11)), (5, .int (nI 0)), (0, .ref (q.2.2 9)), (1, .long (lN pull)), (3, .long (lN gives))]) rfl ?_
  have loop17 : ∀ (fu i : Nat) (M1 : gM), i ≤ 12 → 12 - i < fu → cI M1 (tkB B (sAb B (sPr B) pull gives) i) → sameO (fun i => 15 ≤ i ∧ i < 27) M M1 → gG X (wC q) (fun v M' => v = some (.int (nI (sTkN B (sAb B (sPr B) pull gives) 12))) ∧ cI M' (tkB B (sAb B (sPr B) pull gives) 12) ∧ sameO (fun i => 15 ≤ i ∧ i < 27) M M') 12 M1 17 [(0, .ref (q.2.2 9)), (1, .long (lN pull)), (3, .long (lN gives)), (5, .int (nI (sTkN B (sAb B (sPr B) pull gives) i))), (6, .ref (q.2.2 11)), (7, .int (nI 12)), (8, .int (nI i))] [] := by
    intro fu; induction fu with
    | zero => intro i M1 h1 h2; omega
    | succ fu ih =>
      intro i M1 hi hfu hI1 hs1
      have hsi := hst i
      refine g_iload hC (gDec_at DX0_takeSets_0 10 rfl) rfl ?_
      refine g_iload hC (gDec_at DX0_takeSets_0 11 rfl) rfl ?_
      refine g_icmp_geN hC (by omega) (by omega) (gDec_at DX0_takeSets_0 12 rfl) 106 (by decide) (fun h21 => ?_) (fun h21 => ?_)
      · skip
        obtain rfl : i = 12 := by omega
        refine g_iload hC (gDec_at DX0_takeSets_0 54 rfl) rfl ?_
        refine g_iret hC (gDec_at DX0_takeSets_0 55 rfl) ?_
        exact ⟨rfl, hI1, hs1⟩
      · skip
        refine g_aload hC (gDec_at DX0_takeSets_0 13 rfl) rfl ?_
        refine g_iload hC (gDec_at DX0_takeSets_0 14 rfl) rfl ?_
        refine g_aald (w := wC q) hC 11 3 i (a := q.2.2 (15 + i)) (show 11 < 63 from by decide) rfl rfl (by omega) (by decide) rfl (gDec_at DX0_takeSets_0 15 rfl) ?_
        refine g_astore hC (gDec_at DX0_takeSets_0 16 rfl) (by decide) (L' := [(9, .ref (q.2.2 (15 + i))), (0, .ref (q.2.2 9)), (1, .long (lN pull)), (3, .long (lN gives)), (5, .int (nI (sTkN B (sAb B (sPr B) pull gives) i))), (6, .ref (q.2.2 11)), (7, .int (nI 12)), (8, .int (nI i))]) rfl ?_
        refine g_aload_n hC (gDec_at DX0_takeSets_0 17 rfl) rfl ?_
        refine g_aload hC (gDec_at DX0_takeSets_0 18 rfl) rfl ?_
        refine g_callVd (w := wC q) hC 9 (c_X0_has q hI1 (by omega)) vf_X0_has ml_X0_42 (by decide) (show 9 < 63 from by decide) rfl rfl rfl rfl rfl (Nat.le_of_ble_eq_true rfl) (gDec_at DX0_takeSets_0 19 rfl) ?_
        refine g_if_eqB hC (gDec_at DX0_takeSets_0 20 rfl) 100 (by decide) (fun h37 => ?_) (fun h37 => ?_)
        · skip
          have h37 : ¬ i % 6 < B 9 0 := h37
          refine g_iincN hC (gDec_at DX0_takeSets_0 52 rfl) rfl (by decide) (L' := [(8, .int (nI (i + 1))), (9, .ref (q.2.2 (15 + i))), (0, .ref (q.2.2 9)), (1, .long (lN pull)), (3, .long (lN gives)), (5, .int (nI (sTkN B (sAb B (sPr B) pull gives) i))), (6, .ref (q.2.2 11)), (7, .int (nI 12))]) rfl ?_
          refine g_goto hC (gDec_at DX0_takeSets_0 53 rfl) 17 (by decide) ?_
          refine g_sub [2, 3, 4, 5, 6, 7, 0] (L' := [(0, .ref (q.2.2 9)), (1, .long (lN pull)), (3, .long (lN gives)), (5, .int (nI (sTkN B (sAb B (sPr B) pull gives) i))), (6, .ref (q.2.2 11)), (7, .int (nI 12)), (8, .int (nI (i + 1)))]) rfl ?_
          have h9 := ih (i + 1) M1 (by omega) (by omega) (by rw [tkB_k hI.2.2 (by omega) (fun z => absurd z h37)]; exact hI1) (hs1)
          rw [show sTkN B (sAb B (sPr B) pull gives) (i + 1) = sTkN B (sAb B (sPr B) pull gives) i from gsm_s0 (if_neg (fun z => h37 z.1))] at h9
          exact h9
        · skip
          have h37 : i % 6 < B 9 0 := h37
          have hpr := sPr_le hI.2.2 (by omega : i < 12) h37
          have hs3 := bv_f3 hI.2.2 (by omega : i < 12) h37
          have e3 := tkB_i B (sAb B (sPr B) pull gives) i
          refine g_aload_n hC (gDec_at DX0_takeSets_0 21 rfl) rfl ?_
          refine g_aload hC (gDec_at DX0_takeSets_0 22 rfl) rfl ?_
          refine g_lload_n hC (gDec_at DX0_takeSets_0 23 rfl) rfl ?_
          refine g_lload_n hC (gDec_at DX0_takeSets_0 24 rfl) rfl ?_
          refine g_callVd (w := wC q) hC 9 (c_X0_strainOf q hI1 (by omega) (by omega) (pull := pull) (gives := gives) (by omega) (by omega)) vf_X0_strainOf ml_X0_132 (by decide) (show 9 < 63 from by decide) rfl rfl rfl rfl rfl (Nat.le_of_ble_eq_true rfl) (gDec_at DX0_takeSets_0 25 rfl) ?_
          refine g_ldc2 hC cl_X0_136 (v' := lN 1000) (by decide) (gDec_at DX0_takeSets_0 26 rfl) ?_
          refine g_aload_n hC (gDec_at DX0_takeSets_0 27 rfl) rfl ?_
          refine g_aload hC (gDec_at DX0_takeSets_0 28 rfl) rfl ?_
          refine g_callVd (w := wC q) hC 9 (c_X0_pressLineOf q hI1 (by omega) (by omega)) vf_X0_pressLineOf ml_X0_141 (by decide) (show 9 < 63 from by decide) rfl rfl rfl rfl rfl (Nat.le_of_ble_eq_true rfl) (gDec_at DX0_takeSets_0 29 rfl) ?_
          refine g_lmulN hC (gDec_at DX0_takeSets_0 30 rfl) ?_
          refine g_lsub hC (gDec_at DX0_takeSets_0 31 rfl) (v := (lN (sStr B pull gives i) - lN (1000 * sPr B i))) rfl ?_
          refine g_lstore hC (gDec_at DX0_takeSets_0 32 rfl) (by decide) (L' := [(10, .long (lN (sStr B pull gives i) - lN (1000 * sPr B i))), (9, .ref (q.2.2 (15 + i))), (0, .ref (q.2.2 9)), (1, .long (lN pull)), (3, .long (lN gives)), (5, .int (nI (sTkN B (sAb B (sPr B) pull gives) i))), (6, .ref (q.2.2 11)), (7, .int (nI 12)), (8, .int (nI i))]) rfl ?_
          refine g_lload hC (gDec_at DX0_takeSets_0 33 rfl) rfl ?_
          refine g_lconst hC (gDec_at DX0_takeSets_0 34 rfl) (v := lN 0) (by decide) ?_
          refine g_lc_le hC (gDec_at DX0_takeSets_0 35 rfl) (gDec_at DX0_takeSets_0 36 rfl) 100 (by decide) (fun h64 => ?_) (fun h64 => ?_)
          · skip
            have h64n : sStr B pull gives i - 1000 * sPr B i ≤ 0 := (lsub_le (by omega) (by omega) (m := 0) (by omega)).mp h64
            refine g_iincN hC (gDec_at DX0_takeSets_0 52 rfl) rfl (by decide) (L' := [(8, .int (nI (i + 1))), (10, .long (lN (sStr B pull gives i) - lN (1000 * sPr B i))), (9, .ref (q.2.2 (15 + i))), (0, .ref (q.2.2 9)), (1, .long (lN pull)), (3, .long (lN gives)), (5, .int (nI (sTkN B (sAb B (sPr B) pull gives) i))), (6, .ref (q.2.2 11)), (7, .int (nI 12))]) rfl ?_
            refine g_goto hC (gDec_at DX0_takeSets_0 53 rfl) 17 (by decide) ?_
            refine g_sub [3, 4, 5, 6, 7, 8, 0] (L' := [(0, .ref (q.2.2 9)), (1, .long (lN pull)), (3, .long (lN gives)), (5, .int (nI (sTkN B (sAb B (sPr B) pull gives) i))), (6, .ref (q.2.2 11)), (7, .int (nI 12)), (8, .int (nI (i + 1)))]) rfl ?_
            have h9 := ih (i + 1) M1 (by omega) (by omega) (by rw [tkB_k hI.2.2 (by omega) (fun _ => by show sStr B pull gives i - 1000 * sPr B i = 0; omega)]; exact hI1) (hs1)
            rw [show sTkN B (sAb B (sPr B) pull gives) (i + 1) = sTkN B (sAb B (sPr B) pull gives) i from gsm_s0 (if_neg (fun z => by have z2 : 0 < sStr B pull gives i - 1000 * sPr B i := z.2; omega))] at h9
            exact h9
          · skip
            have h64n : 0 < sStr B pull gives i - 1000 * sPr B i := Nat.lt_of_not_le (fun z => h64 ((lsub_le (by omega) (by omega) (m := 0) (by omega)).mpr z))
            rw [lN_sub (show 1000 * sPr B i ≤ sStr B pull gives i from by omega)]
            refine g_aload hC (gDec_at DX0_takeSets_0 37 rfl) rfl ?_
            refine g_ldc2 hC cl_X0_144 (v' := lN 99) (by decide) (gDec_at DX0_takeSets_0 38 rfl) ?_
            refine g_aload hC (gDec_at DX0_takeSets_0 39 rfl) rfl ?_
            refine g_get (w := wC q) hC (15 + i) (v := .int (nI (B 3 i))) fl_X0_146 (show 15 + i < 63 from by omega) (cC_p0 q _ _ (by omega)) (g_sv ((ci_f3 hI1 (by omega) (by omega)).trans (congrArg nI e3))) (gDec_at DX0_takeSets_0 40 rfl) ?_
            refine g_i2lN hC (by omega) (gDec_at DX0_takeSets_0 41 rfl) ?_
            refine g_lload hC (gDec_at DX0_takeSets_0 42 rfl) rfl ?_
            refine g_ldc2 hC cl_X0_149 (v' := lN 999) (by decide) (gDec_at DX0_takeSets_0 43 rfl) ?_
            refine g_laddN hC (gDec_at DX0_takeSets_0 44 rfl) ?_
            refine g_ldc2 hC cl_X0_136 (v' := lN 1000) (by decide) (gDec_at DX0_takeSets_0 45 rfl) ?_
            refine g_ldivN hC (by omega) (by omega) (by omega) (gDec_at DX0_takeSets_0 46 rfl) ?_
            refine g_laddN hC (gDec_at DX0_takeSets_0 47 rfl) ?_
            refine g_mmin_long ml_X0_151 hC jm_min_long (by decide) (v := (lN (min 99 (B 3 i + (sStr B pull gives i - 1000 * sPr B i + 999) / 1000)))) (lN_min (by omega) (by omega)) (Nat.le_of_ble_eq_true rfl) (gDec_at DX0_takeSets_0 48 rfl) ?_
            refine g_l2iN hC (gDec_at DX0_takeSets_0 49 rfl) ?_
            refine g_putI (w := wC q) hC (15 + i) fl_X0_146 fp_1_6 (show 15 + i < 63 from by have := (by omega); omega) (cC_p0 q _ _ (by omega)) (Nat.le_of_ble_eq_true rfl) (cC_p0 q _ _ (by omega)) rfl (gDec_at DX0_takeSets_0 50 rfl) ?_
            refine g_iincN hC (gDec_at DX0_takeSets_0 51 rfl) rfl (by decide) (L' := [(5, .int (nI (sTkN B (sAb B (sPr B) pull gives) i + 1))), (10, .long (lN (sStr B pull gives i - 1000 * sPr B i))), (9, .ref (q.2.2 (15 + i))), (0, .ref (q.2.2 9)), (1, .long (lN pull)), (3, .long (lN gives)), (6, .ref (q.2.2 11)), (7, .int (nI 12)), (8, .int (nI i))]) rfl ?_
            refine g_iincN hC (gDec_at DX0_takeSets_0 52 rfl) rfl (by decide) (L' := [(8, .int (nI (i + 1))), (5, .int (nI (sTkN B (sAb B (sPr B) pull gives) i + 1))), (10, .long (lN (sStr B pull gives i - 1000 * sPr B i))), (9, .ref (q.2.2 (15 + i))), (0, .ref (q.2.2 9)), (1, .long (lN pull)), (3, .long (lN gives)), (6, .ref (q.2.2 11)), (7, .int (nI 12))]) rfl ?_
            refine g_goto hC (gDec_at DX0_takeSets_0 53 rfl) 17 (by decide) ?_
            refine g_sub [4, 5, 6, 1, 7, 8, 0] (L' := [(0, .ref (q.2.2 9)), (1, .long (lN pull)), (3, .long (lN gives)), (5, .int (nI (sTkN B (sAb B (sPr B) pull gives) i + 1))), (6, .ref (q.2.2 11)), (7, .int (nI 12)), (8, .int (nI (i + 1)))]) rfl ?_
            have e1 : upB (tkB B (sAb B (sPr B) pull gives) i) 3 i (min 99 (B 3 i + (sStr B pull gives i - 1000 * sPr B i + 999) / 1000)) = (tkB B (sAb B (sPr B) pull gives) (i + 1)) := tkB_s hI.2.2 (by omega) (fun _ => rfl) h37
            have hI2 : cI (gupd M1 (15 + i) 6 (nI (min 99 (B 3 i + (sStr B pull gives i - 1000 * sPr B i + 999) / 1000)))) (tkB B (sAb B (sPr B) pull gives) (i + 1)) := by rw [← e1]; exact cI_set hI1 (by unfold fldOf; omega) (by rw [e1]; exact tkB_V hI.2.2 _ _)
            have h9 := ih (i + 1) _ (by omega) (by omega) (hI2) (sameO_up hs1 (by omega))
            rw [show sTkN B (sAb B (sPr B) pull gives) (i + 1) = sTkN B (sAb B (sPr B) pull gives) i + 1 from gsm_s (if_pos ⟨h37, by show 0 < sStr B pull gives i - 1000 * sPr B i; omega⟩)] at h9
            exact h9
  exact g_sub [4, 5, 6, 3, 2, 1, 0] rfl (loop17 (12 + 1 - 0) 0 M (by omega) (by omega) (by rw [tkB_0]; exact hI) sameO_rf)
end
section
/-! BOW: form taken, off; Place, Wood; the text -/
def fmB (B : gB) (f s n : Nat) : gB := fun r j => if r = 1 ∧ j < n ∧ j % 6 < B 9 0 then sForm B j f s else B r j
theorem fmB_0 (B : gB) (f s : Nat) : fmB B f s 0 = B := by
  funext r j; unfold fmB; rw [if_neg (by omega)]
theorem fmB_s (B : gB) (f s n : Nat) (ht : n % 6 < B 9 0) : upB (fmB B f s n) 1 n (sForm B n f s) = fmB B f s (n + 1) := by
  funext r j
  unfold upB fmB
  by_cases h : r = 1 ∧ j = n
  · obtain ⟨rfl, rfl⟩ := h
    rw [if_pos ⟨rfl, rfl⟩, if_pos ⟨rfl, by omega, ht⟩]
  · rw [if_neg h]
    by_cases h2 : r = 1 ∧ j < n ∧ j % 6 < B 9 0
    · rw [if_pos h2, if_pos ⟨h2.1, by omega, h2.2.2⟩]
    · rw [if_neg h2, if_neg (by omega)]
theorem fmB_k (B : gB) (f s n : Nat) (ht : ¬ n % 6 < B 9 0) : fmB B f s (n + 1) = fmB B f s n := by
  funext r j
  unfold fmB
  by_cases h2 : r = 1 ∧ j < n ∧ j % 6 < B 9 0
  · rw [if_pos h2, if_pos ⟨h2.1, by omega, h2.2.2⟩]
  · rw [if_neg h2, if_neg]
    rintro ⟨a, b, c⟩
    by_cases e : j = n
    · subst e; exact ht c
    · omega
theorem fmB_i (B : gB) (f s n : Nat) : fmB B f s n 1 n = B 1 n := by
  unfold fmB; rw [if_neg (by omega)]
theorem fmB_V {B : gB} (hV : bV B) {f s : Nat} (hh : sHas B f s) (n : Nat) : bV (fmB B f s n) := by
  obtain ⟨h1, h2, h3, h4, h5⟩ := hV
  refine ⟨h1, h2, h3, h4, fun j hj ht => ?_⟩
  obtain ⟨a0, a1, a2, a3, a4, a5⟩ := h5 j hj ht
  have h6 := hh j hj ht
  have h7 := sForm_in B j f s
  refine ⟨a0, ?_, a2, a3, a4, a5⟩
  show 4 ≤ (if 1 = 1 ∧ j < n ∧ j % 6 < B 9 0 then sForm B j f s else B 1 j) ∧ (if 1 = 1 ∧ j < n ∧ j % 6 < B 9 0 then sForm B j f s else B 1 j) ≤ 40
  split <;> omega
def sFmN (B : gB) (f s n : Nat) : Nat := gsm (fun j => if j % 6 < B 9 0 ∧ ¬ sForm B j f s = B 1 j then 1 else 0) n
theorem fk_p {n : Nat} (h : ¬ n = 0) : fk n = nI n := if_neg h
set_option maxRecDepth 100000 in
set_option maxHeartbeats 4000000 in
theorem c_X0_takeForm (q : gQ3) {M : gM} {B : gB} (hI : cI M B) {f s : Nat} (hf : f ≤ 999) (hs : s ≤ 99) (hh : sHas B f s) : gCt (wC q) yX0_takeForm cX0_takeForm 9 (some .int) 2 [.ref (q.2.2 9), .int (nI f), .int (nI s)] M (fun v M' => v = some (.int (nI (sFmN B f s 12))) ∧ cI M' (fmB B f s 12) ∧ sameO (fun i => 15 ≤ i ∧ i < 27) M M') := by
  refine gMet RX0 (by decide +kernel) rfl (Nat.le_of_ble_eq_true rfl) (fun X hC => ?_)
  have hC : gC X (wC q) cX0_takeForm 9 RX0 (some .int) 2 := hC
  show gG X (wC q) _ 9 M 0 [(0, .ref (q.2.2 9)), (1, .int (nI f)), (2, .int (nI s))] []
  have hm := bv_many hI.2.2
  refine g_iconst hC (gDec_at DX0_takeForm_0 0 rfl) (v := nI 0) (by decide) ?_
  refine g_istore_n hC (gDec_at DX0_takeForm_0 1 rfl) (by decide) (L' := [(3, .int (nI 0)), (0, .ref (q.2.2 9)), (1, .int (nI f)), (2, .int (nI s))]) rfl ?_
  refine g_aload_n hC (gDec_at DX0_takeForm_0 2 rfl) rfl ?_
  refine g_get (w := wC q) hC 9 (v := .ref (q.2.2 11)) fl_X0_22 (show 9 < 63 from by decide) rfl rfl (gDec_at DX0_takeForm_0 3 rfl) ?_
  refine g_astore hC (gDec_at DX0_takeForm_0 4 rfl) (by decide) (L' := [(4, .ref (q.2.2 11)), (3, .int (nI 0)), (0, .ref (q.2.2 9)), (1, .int (nI f)), (2, .int (nI s))]) rfl ?_
  refine g_aload hC (gDec_at DX0_takeForm_0 5 rfl) rfl ?_
  refine g_alen (w := wC q) hC 11 3 (show 11 < 63 from by decide) rfl rfl (gDec_at DX0_takeForm_0 6 rfl) ?_
  refine g_istore hC (gDec_at DX0_takeForm_0 7 rfl) (by decide) (L' := [(5, .int (nI 12)), (4, .ref (q.2.2 11)), (3, .int (nI 0)), (0, .ref (q.2.2 9)), (1, .int (nI f)), (2, .int (nI s))]) rfl ?_
  refine g_iconst hC (gDec_at DX0_takeForm_0 8 rfl) (v := nI 0) (by decide) ?_
  refine g_istore hC (gDec_at DX0_takeForm_0 9 rfl) (by decide) (L' := [(6, .int (nI 0)), (5, .int (nI 12)), (4, .ref (q.2.2 11)), (3, .int (nI 0)), (0, .ref (q.2.2 9)), (1, .int (nI f)), (2, .int (nI s))]) rfl ?_
  have loop16 : ∀ (fu i : Nat) (M1 : gM), i ≤ 12 → 12 - i < fu → cI M1 (fmB B f s i) → sameO (fun i => 15 ≤ i ∧ i < 27) M M1 → gG X (wC q) (fun v M' => v = some (.int (nI (sFmN B f s 12))) ∧ cI M' (fmB B f s 12) ∧ sameO (fun i => 15 ≤ i ∧ i < 27) M M') 9 M1 16 [(0, .ref (q.2.2 9)), (1, .int (nI f)), (2, .int (nI s)), (3, .int (nI (sFmN B f s i))), (4, .ref (q.2.2 11)), (5, .int (nI 12)), (6, .int (nI i))] [] := by
    intro fu; induction fu with
    | zero => intro i M1 h1 h2; omega
    | succ fu ih =>
      intro i M1 hi hfu hI1 hs1
      refine g_iload hC (gDec_at DX0_takeForm_0 10 rfl) rfl ?_
      refine g_iload hC (gDec_at DX0_takeForm_0 11 rfl) rfl ?_
      refine g_icmp_geN hC (by omega) (by omega) (gDec_at DX0_takeForm_0 12 rfl) 75 (by decide) (fun h20 => ?_) (fun h20 => ?_)
      · skip
        obtain rfl : i = 12 := by omega
        refine g_iload_n hC (gDec_at DX0_takeForm_0 37 rfl) rfl ?_
        refine g_iret hC (gDec_at DX0_takeForm_0 38 rfl) ?_
        exact ⟨rfl, hI1, hs1⟩
      · skip
        refine g_aload hC (gDec_at DX0_takeForm_0 13 rfl) rfl ?_
        refine g_iload hC (gDec_at DX0_takeForm_0 14 rfl) rfl ?_
        refine g_aald (w := wC q) hC 11 3 i (a := q.2.2 (15 + i)) (show 11 < 63 from by decide) rfl rfl (by omega) (by decide) rfl (gDec_at DX0_takeForm_0 15 rfl) ?_
        refine g_astore hC (gDec_at DX0_takeForm_0 16 rfl) (by decide) (L' := [(7, .ref (q.2.2 (15 + i))), (0, .ref (q.2.2 9)), (1, .int (nI f)), (2, .int (nI s)), (3, .int (nI (sFmN B f s i))), (4, .ref (q.2.2 11)), (5, .int (nI 12)), (6, .int (nI i))]) rfl ?_
        refine g_aload_n hC (gDec_at DX0_takeForm_0 17 rfl) rfl ?_
        refine g_aload hC (gDec_at DX0_takeForm_0 18 rfl) rfl ?_
        refine g_callVd (w := wC q) hC 9 (c_X0_has q hI1 (by omega)) vf_X0_has ml_X0_42 (by decide) (show 9 < 63 from by decide) rfl rfl rfl rfl rfl (Nat.le_of_ble_eq_true rfl) (gDec_at DX0_takeForm_0 19 rfl) ?_
        refine g_if_eqB hC (gDec_at DX0_takeForm_0 20 rfl) 69 (by decide) (fun h36 => ?_) (fun h36 => ?_)
        · skip
          have h36 : ¬ i % 6 < B 9 0 := h36
          refine g_iincN hC (gDec_at DX0_takeForm_0 35 rfl) rfl (by decide) (L' := [(6, .int (nI (i + 1))), (7, .ref (q.2.2 (15 + i))), (0, .ref (q.2.2 9)), (1, .int (nI f)), (2, .int (nI s)), (3, .int (nI (sFmN B f s i))), (4, .ref (q.2.2 11)), (5, .int (nI 12))]) rfl ?_
          refine g_goto hC (gDec_at DX0_takeForm_0 36 rfl) 16 (by decide) ?_
          refine g_sub [2, 3, 4, 5, 6, 7, 0] (L' := [(0, .ref (q.2.2 9)), (1, .int (nI f)), (2, .int (nI s)), (3, .int (nI (sFmN B f s i))), (4, .ref (q.2.2 11)), (5, .int (nI 12)), (6, .int (nI (i + 1)))]) rfl ?_
          have h9 := ih (i + 1) M1 (by omega) (by omega) (by rw [fmB_k _ _ _ _ h36]; exact hI1) (hs1)
          rw [show sFmN B f s (i + 1) = sFmN B f s i from gsm_s0 (if_neg (fun z => h36 z.1))] at h9
          exact h9
        · skip
          have h36 : i % 6 < B 9 0 := h36
          have hfi := sForm_in B i f s
          have hs1i := bv_f1 hI.2.2 (by omega : i < 12) h36
          have e3 := fmB_i B f s i
          refine g_aload_n hC (gDec_at DX0_takeForm_0 21 rfl) rfl ?_
          refine g_aload hC (gDec_at DX0_takeForm_0 22 rfl) rfl ?_
          refine g_iload_n hC (gDec_at DX0_takeForm_0 23 rfl) rfl ?_
          refine g_iload_n hC (gDec_at DX0_takeForm_0 24 rfl) rfl ?_
          refine g_callVd (w := wC q) hC 9 (c_X0_formDepth q hI1 (by omega) (by omega) (f := f) (s := s) (by omega) (by omega)) vf_X0_formDepth ml_X0_167 (by decide) (show 9 < 63 from by decide) rfl rfl rfl rfl rfl (Nat.le_of_ble_eq_true rfl) (gDec_at DX0_takeForm_0 25 rfl) ?_
          refine g_st (st' := [.int (nI (sForm B i f s))]) (congrArg (fun z => [Value.int z]) (fk_p (hh i (by omega) (by omega)))) ?_
          refine g_istore hC (gDec_at DX0_takeForm_0 26 rfl) (by decide) (L' := [(8, .int (nI (sForm B i f s))), (7, .ref (q.2.2 (15 + i))), (0, .ref (q.2.2 9)), (1, .int (nI f)), (2, .int (nI s)), (3, .int (nI (sFmN B f s i))), (4, .ref (q.2.2 11)), (5, .int (nI 12)), (6, .int (nI i))]) rfl ?_
          refine g_iload hC (gDec_at DX0_takeForm_0 27 rfl) rfl ?_
          refine g_aload hC (gDec_at DX0_takeForm_0 28 rfl) rfl ?_
          refine g_get (w := wC q) hC (15 + i) (v := .int (nI (B 1 i))) fl_X0_89 (show 15 + i < 63 from by omega) (cC_p0 q _ _ (by omega)) (g_sv ((ci_f1 hI1 (by omega) (by omega)).trans (congrArg nI e3))) (gDec_at DX0_takeForm_0 29 rfl) ?_
          refine g_icmp_eqN hC (by omega) (by omega) (gDec_at DX0_takeForm_0 30 rfl) 62 (by decide) (fun h56 => ?_) (fun h56 => ?_)
          · skip
            refine g_aload hC (gDec_at DX0_takeForm_0 32 rfl) rfl ?_
            refine g_iload hC (gDec_at DX0_takeForm_0 33 rfl) rfl ?_
            refine g_putI (w := wC q) hC (15 + i) fl_X0_89 fp_1_4 (show 15 + i < 63 from by have := (by omega); omega) (cC_p0 q _ _ (by omega)) (Nat.le_of_ble_eq_true rfl) (cC_p0 q _ _ (by omega)) rfl (gDec_at DX0_takeForm_0 34 rfl) ?_
            refine g_iincN hC (gDec_at DX0_takeForm_0 35 rfl) rfl (by decide) (L' := [(6, .int (nI (i + 1))), (8, .int (nI (sForm B i f s))), (7, .ref (q.2.2 (15 + i))), (0, .ref (q.2.2 9)), (1, .int (nI f)), (2, .int (nI s)), (3, .int (nI (sFmN B f s i))), (4, .ref (q.2.2 11)), (5, .int (nI 12))]) rfl ?_
            refine g_goto hC (gDec_at DX0_takeForm_0 36 rfl) 16 (by decide) ?_
            refine g_sub [3, 4, 5, 6, 7, 8, 0] (L' := [(0, .ref (q.2.2 9)), (1, .int (nI f)), (2, .int (nI s)), (3, .int (nI (sFmN B f s i))), (4, .ref (q.2.2 11)), (5, .int (nI 12)), (6, .int (nI (i + 1)))]) rfl ?_
            have e1 := fmB_s B f s i h36
            have hI2 : cI (gupd M1 (15 + i) 4 (nI (sForm B i f s))) (fmB B f s (i + 1)) := by rw [← e1]; exact cI_set hI1 (by unfold fldOf; omega) (by rw [e1]; exact fmB_V hI.2.2 hh _)
            have h9 := ih (i + 1) _ (by omega) (by omega) (hI2) (sameO_up hs1 (by omega))
            rw [show sFmN B f s (i + 1) = sFmN B f s i from gsm_s0 (if_neg (by omega))] at h9
            exact h9
          · skip
            refine g_iincN hC (gDec_at DX0_takeForm_0 31 rfl) rfl (by decide) (L' := [(3, .int (nI (sFmN B f s i + 1))), (8, .int (nI (sForm B i f s))), (7, .ref (q.2.2 (15 + i))), (0, .ref (q.2.2 9)), (1, .int (nI f)), (2, .int (nI s)), (4, .ref (q.2.2 11)), (5, .int (nI 12)), (6, .int (nI i))]) rfl ?_
            refine g_aload hC (gDec_at DX0_takeForm_0 32 rfl) rfl ?_
            refine g_iload hC (gDec_at DX0_takeForm_0 33 rfl) rfl ?_
            refine g_putI (w := wC q) hC (15 + i) fl_X0_89 fp_1_4 (show 15 + i < 63 from by have := (by omega); omega) (cC_p0 q _ _ (by omega)) (Nat.le_of_ble_eq_true rfl) (cC_p0 q _ _ (by omega)) rfl (gDec_at DX0_takeForm_0 34 rfl) ?_
            refine g_iincN hC (gDec_at DX0_takeForm_0 35 rfl) rfl (by decide) (L' := [(6, .int (nI (i + 1))), (3, .int (nI (sFmN B f s i + 1))), (8, .int (nI (sForm B i f s))), (7, .ref (q.2.2 (15 + i))), (0, .ref (q.2.2 9)), (1, .int (nI f)), (2, .int (nI s)), (4, .ref (q.2.2 11)), (5, .int (nI 12))]) rfl ?_
            refine g_goto hC (gDec_at DX0_takeForm_0 36 rfl) 16 (by decide) ?_
            refine g_sub [4, 5, 6, 1, 7, 8, 0] (L' := [(0, .ref (q.2.2 9)), (1, .int (nI f)), (2, .int (nI s)), (3, .int (nI (sFmN B f s i + 1))), (4, .ref (q.2.2 11)), (5, .int (nI 12)), (6, .int (nI (i + 1)))]) rfl ?_
            have e1 := fmB_s B f s i h36
            have hI2 : cI (gupd M1 (15 + i) 4 (nI (sForm B i f s))) (fmB B f s (i + 1)) := by rw [← e1]; exact cI_set hI1 (by unfold fldOf; omega) (by rw [e1]; exact fmB_V hI.2.2 hh _)
            have h9 := ih (i + 1) _ (by omega) (by omega) (hI2) (sameO_up hs1 (by omega))
            rw [show sFmN B f s (i + 1) = sFmN B f s i + 1 from gsm_s (if_pos ⟨h36, by omega⟩)] at h9
            exact h9
  exact g_sub [4, 5, 6, 3, 2, 1, 0] rfl (loop16 (12 + 1 - 0) 0 M (by omega) (by omega) (by rw [fmB_0]; exact hI) sameO_rf)

def oI (n : Nat) : Int32 := nI n - nI 1000
theorem off_eq {a b : Nat} (hb : b ≤ 1000) : (lN a - lN b).toInt32 = oI (a + 1000 - b) := by
  rw [lg_l2i_sub, lN_i, lN_i]
  unfold oI
  have h1 : nI (a + 1000 - b) + nI b = nI a + nI 1000 := by rw [nI_add, nI_add, Nat.sub_add_cancel (by omega)]
  have h2 : nI (a + 1000 - b) = nI a + nI 1000 - nI b := by rw [← h1, Int32.add_sub_cancel]
  rw [h2, Int32.sub_eq_add_neg, Int32.sub_eq_add_neg, Int32.sub_eq_add_neg]
  rw [Int32.add_assoc, Int32.add_assoc]
  have h3 : ∀ x y : Int32, x + (y + -x) = y := fun x y => by rw [Int32.add_comm y (-x), ← Int32.add_assoc, Int32.add_right_neg, Int32.zero_add]
  rw [h3]
theorem oI_lt {a b : Nat} (ha : a < 1073741824) (hb : b < 1073741824) : oI a < oI b ↔ a < b := by
  have h1 := pk_sub_toInt ha (show 1000 < 2 ^ 30 by decide)
  have h2 := pk_sub_toInt hb (show 1000 < 2 ^ 30 by decide)
  unfold oI
  rw [lt_I, h1, h2]
  omega
def sOf (B : gB) (j : Nat) : Nat := 1000 * B 5 j / sSeen B + 1000 - 1000 * sGive B j (B 1 j) / sAll B
theorem sSeen_le {B : gB} (h : bV B) : sSeen B ≤ 1188 := gsm_le (n := 12) (c := 99) (fun k hk => by
  split
  · rename_i ht; exact bv_f5 h hk ht
  · omega)
theorem sSeen_at {B : gB} {j : Nat} (hj : j < 12) (ht : j % 6 < B 9 0) : B 5 j ≤ sSeen B := by
  have h := gsm_part (f := fun j => if j % 6 < B 9 0 then B 5 j else 0) (n := 12) hj
  rw [if_pos ht] at h
  exact h
theorem sAll_at {B : gB} {j : Nat} (hj : j < 12) (ht : j % 6 < B 9 0) : sGive B j (B 1 j) ≤ sAll B := by
  have e : 6 * (j / 6) + j % 6 = j := by omega
  have h := gsm_part (f := fun k => if k < B 9 0 then sGive B (6 * (j / 6) + k) (B 1 (6 * (j / 6) + k)) else 0) (n := 6) (i := j % 6) (by omega)
  rw [if_pos ht, e] at h
  have h2 : sGive B j (B 1 j) ≤ sLimb B (j / 6) := h
  unfold sAll
  rcases (show j / 6 = 0 ∨ j / 6 = 1 by omega) with q | q <;> rw [q] at h2 <;> omega
theorem div_1000 {a b : Nat} (h : a ≤ b) : 1000 * a / b ≤ 1000 := by
  refine Nat.div_le_of_le_mul ?_
  rw [Nat.mul_comm]
  exact Nat.mul_le_mul h (Nat.le_refl _)
theorem sOf_le {B : gB} {j : Nat} (hj : j < 12) (ht : j % 6 < B 9 0) : sOf B j ≤ 2000 := by
  have h1 := div_1000 (sSeen_at hj ht)
  unfold sOf
  exact Nat.le_trans (Nat.sub_le _ _) (Nat.add_le_add h1 (Nat.le_refl 1000))
set_option maxRecDepth 100000 in
set_option maxHeartbeats 4000000 in
theorem c_X0_offBy (q : gQ3) {M : gM} {B : gB} (hI : cI M B) {j : Nat} (hj : j < 12) (ht : j % 6 < B 9 0) : gCt (wC q) yX0_offBy cX0_offBy 5 (some .int) 3 [.ref (q.2.2 9), .ref (q.2.2 (15 + j)), .int (nI (sSeen B)), .long (lN (sAll B))] M (gR (some (.int (oI (sOf B j)))) M) := by
  refine gMet RX0 (by decide +kernel) rfl (Nat.le_of_ble_eq_true rfl) (fun X hC => ?_)
  have hC : gC X (wC q) cX0_offBy 5 RX0 (some .int) 3 := hC
  show gG X (wC q) _ 5 M 0 [(0, .ref (q.2.2 9)), (1, .ref (q.2.2 (15 + j))), (2, .int (nI (sSeen B))), (3, .long (lN (sAll B)))] []
  have hse := sSeen_le hI.2.2
  have h5 := bv_f5 hI.2.2 hj ht
  have hal := sAll_le B
  have hg := sAll_at hj ht
  have hd := div_1000 hg
  refine g_ldc2 hC cl_X0_136 (v' := lN 1000) (by decide) (gDec_at DX0_offBy_0 0 rfl) ?_
  refine g_aload_n hC (gDec_at DX0_offBy_0 1 rfl) rfl ?_
  refine g_get (w := wC q) hC (15 + j) (v := .int (nI (B 5 j))) fl_X0_173 (show 15 + j < 63 from by have := hj; omega) (cC_p0 q _ _ hj) (g_sv (ci_f5 hI hj ht)) (gDec_at DX0_offBy_0 2 rfl) ?_
  refine g_i2lN hC (by omega) (gDec_at DX0_offBy_0 3 rfl) ?_
  refine g_lmulN hC (gDec_at DX0_offBy_0 4 rfl) ?_
  refine g_iload_n hC (gDec_at DX0_offBy_0 5 rfl) rfl ?_
  refine g_i2lN hC (by omega) (gDec_at DX0_offBy_0 6 rfl) ?_
  refine g_callSNd (w := wC q) hC (c_X6_quotient q (by omega) (by omega)) sf_X6_quotient ml_X0_105 (by decide) rfl rfl (Nat.le_of_ble_eq_true rfl) (gDec_at DX0_offBy_0 7 rfl) ?_
  refine g_ldc2 hC cl_X0_136 (v' := lN 1000) (by decide) (gDec_at DX0_offBy_0 8 rfl) ?_
  refine g_aload_n hC (gDec_at DX0_offBy_0 9 rfl) rfl ?_
  refine g_aload_n hC (gDec_at DX0_offBy_0 10 rfl) rfl ?_
  refine g_callVd (w := wC q) hC 9 (c_X0_giveOf q hI hj ht) vf_X0_giveOf ml_X0_109 (by decide) (show 9 < 63 from by decide) rfl rfl rfl rfl rfl (Nat.le_of_ble_eq_true rfl) (gDec_at DX0_offBy_0 11 rfl) ?_
  refine g_lmulN hC (gDec_at DX0_offBy_0 12 rfl) ?_
  refine g_lload_n hC (gDec_at DX0_offBy_0 13 rfl) rfl ?_
  refine g_callSNd (w := wC q) hC (c_X6_quotient q (by omega) (by omega)) sf_X6_quotient ml_X0_105 (by decide) rfl rfl (Nat.le_of_ble_eq_true rfl) (gDec_at DX0_offBy_0 14 rfl) ?_
  refine g_lsub hC (gDec_at DX0_offBy_0 15 rfl) (v := (lN (1000 * B 5 j / sSeen B) - lN (1000 * sGive B j (B 1 j) / sAll B))) rfl ?_
  refine g_l2i hC (gDec_at DX0_offBy_0 16 rfl) (v := (oI (sOf B j))) (off_eq hd) ?_
  refine g_iret hC (gDec_at DX0_offBy_0 17 rfl) ?_
  exact ⟨rfl, rfl⟩

set_option maxRecDepth 100000 in
set_option maxHeartbeats 4000000 in
theorem c_X0_leastOffPlace_no (q : gQ3) {M : gM} {B : gB} (hI : cI M B) (hz : sSeen B = 0) : gCt (wC q) yX0_leastOffPlace cX0_leastOffPlace 11 (some .int) 5 [.ref (q.2.2 9)] M (gR (some (.int (-9))) M) := by
  refine gMet RX0 (by decide +kernel) rfl (Nat.le_of_ble_eq_true rfl) (fun X hC => ?_)
  have hC : gC X (wC q) cX0_leastOffPlace 11 RX0 (some .int) 5 := hC
  show gG X (wC q) _ 11 M 0 [(0, .ref (q.2.2 9))] []
  have hm := bv_many hI.2.2
  have hse := sSeen_le hI.2.2
  refine g_aload_n hC (gDec_at DX0_leastOffPlace_0 0 rfl) rfl ?_
  refine g_callVd (w := wC q) hC 9 (c_X0_allSeen q hI) vf_X0_allSeen ml_X0_176 (by decide) (show 9 < 63 from by decide) rfl rfl rfl rfl rfl (Nat.le_of_ble_eq_true rfl) (gDec_at DX0_leastOffPlace_0 1 rfl) ?_
  refine g_istore_n hC (gDec_at DX0_leastOffPlace_0 2 rfl) (by decide) (L' := [(1, .int (nI (sSeen B))), (0, .ref (q.2.2 9))]) rfl ?_
  refine g_aload_n hC (gDec_at DX0_leastOffPlace_0 3 rfl) rfl ?_
  refine g_callVd (w := wC q) hC 9 (c_X0_allGives q hI) vf_X0_allGives ml_X0_157 (by decide) (show 9 < 63 from by decide) rfl rfl rfl rfl rfl (Nat.le_of_ble_eq_true rfl) (gDec_at DX0_leastOffPlace_0 4 rfl) ?_
  refine g_lstore_n hC (gDec_at DX0_leastOffPlace_0 5 rfl) (by decide) (L' := [(2, .long (lN (sAll B))), (1, .int (nI (sSeen B))), (0, .ref (q.2.2 9))]) rfl ?_
  refine g_bipush hC (gDec_at DX0_leastOffPlace_0 6 rfl) (v := -9) (by decide) ?_
  refine g_istore hC (gDec_at DX0_leastOffPlace_0 7 rfl) (by decide) (L' := [(4, .int (-9)), (2, .long (lN (sAll B))), (1, .int (nI (sSeen B))), (0, .ref (q.2.2 9))]) rfl ?_
  refine g_iconst hC (gDec_at DX0_leastOffPlace_0 8 rfl) (v := nI 0) (by decide) ?_
  refine g_istore hC (gDec_at DX0_leastOffPlace_0 9 rfl) (by decide) (L' := [(5, .int (nI 0)), (4, .int (-9)), (2, .long (lN (sAll B))), (1, .int (nI (sSeen B))), (0, .ref (q.2.2 9))]) rfl ?_
  refine g_aload_n hC (gDec_at DX0_leastOffPlace_0 10 rfl) rfl ?_
  refine g_get (w := wC q) hC 9 (v := .ref (q.2.2 11)) fl_X0_22 (show 9 < 63 from by decide) rfl rfl (gDec_at DX0_leastOffPlace_0 11 rfl) ?_
  refine g_astore hC (gDec_at DX0_leastOffPlace_0 12 rfl) (by decide) (L' := [(6, .ref (q.2.2 11)), (5, .int (nI 0)), (4, .int (-9)), (2, .long (lN (sAll B))), (1, .int (nI (sSeen B))), (0, .ref (q.2.2 9))]) rfl ?_
  refine g_aload hC (gDec_at DX0_leastOffPlace_0 13 rfl) rfl ?_
  refine g_alen (w := wC q) hC 11 3 (show 11 < 63 from by decide) rfl rfl (gDec_at DX0_leastOffPlace_0 14 rfl) ?_
  refine g_istore hC (gDec_at DX0_leastOffPlace_0 15 rfl) (by decide) (L' := [(7, .int (nI 12)), (6, .ref (q.2.2 11)), (5, .int (nI 0)), (4, .int (-9)), (2, .long (lN (sAll B))), (1, .int (nI (sSeen B))), (0, .ref (q.2.2 9))]) rfl ?_
  refine g_iconst hC (gDec_at DX0_leastOffPlace_0 16 rfl) (v := nI 0) (by decide) ?_
  refine g_istore hC (gDec_at DX0_leastOffPlace_0 17 rfl) (by decide) (L' := [(8, .int (nI 0)), (7, .int (nI 12)), (6, .ref (q.2.2 11)), (5, .int (nI 0)), (4, .int (-9)), (2, .long (lN (sAll B))), (1, .int (nI (sSeen B))), (0, .ref (q.2.2 9))]) rfl ?_
  have loop31 : ∀ (fu i : Nat), i ≤ 12 → 12 - i < fu → gG X (wC q) (gR (some (.int (-9))) M) 11 M 31 [(0, .ref (q.2.2 9)), (1, .int (nI (sSeen B))), (2, .long (lN (sAll B))), (4, .int (-9)), (6, .ref (q.2.2 11)), (7, .int (nI 12)), (8, .int (nI i))] [] := by
    intro fu; induction fu with
    | zero => intro i h1 h2; omega
    | succ fu ih =>
      intro i hi hfu 
      refine g_iload hC (gDec_at DX0_leastOffPlace_0 18 rfl) rfl ?_
      refine g_iload hC (gDec_at DX0_leastOffPlace_0 19 rfl) rfl ?_
      refine g_icmp_geN hC (by omega) (by omega) (gDec_at DX0_leastOffPlace_0 20 rfl) 99 (by decide) (fun h35 => ?_) (fun h35 => ?_)
      · skip
        refine g_iload hC (gDec_at DX0_leastOffPlace_0 50 rfl) rfl ?_
        refine g_iret hC (gDec_at DX0_leastOffPlace_0 51 rfl) ?_
        exact ⟨rfl, rfl⟩
      · skip
        refine g_aload hC (gDec_at DX0_leastOffPlace_0 21 rfl) rfl ?_
        refine g_iload hC (gDec_at DX0_leastOffPlace_0 22 rfl) rfl ?_
        refine g_aald (w := wC q) hC 11 3 i (a := q.2.2 (15 + i)) (show 11 < 63 from by decide) rfl rfl (by omega) (by decide) rfl (gDec_at DX0_leastOffPlace_0 23 rfl) ?_
        refine g_astore hC (gDec_at DX0_leastOffPlace_0 24 rfl) (by decide) (L' := [(9, .ref (q.2.2 (15 + i))), (0, .ref (q.2.2 9)), (1, .int (nI (sSeen B))), (2, .long (lN (sAll B))), (4, .int (-9)), (6, .ref (q.2.2 11)), (7, .int (nI 12)), (8, .int (nI i))]) rfl ?_
        refine g_aload_n hC (gDec_at DX0_leastOffPlace_0 25 rfl) rfl ?_
        refine g_aload hC (gDec_at DX0_leastOffPlace_0 26 rfl) rfl ?_
        refine g_callVd (w := wC q) hC 9 (c_X0_has q hI (by omega)) vf_X0_has ml_X0_42 (by decide) (show 9 < 63 from by decide) rfl rfl rfl rfl rfl (Nat.le_of_ble_eq_true rfl) (gDec_at DX0_leastOffPlace_0 27 rfl) ?_
        refine g_if_eqB hC (gDec_at DX0_leastOffPlace_0 28 rfl) 93 (by decide) (fun h51 => ?_) (fun h51 => ?_)
        · skip
          refine g_iincN hC (gDec_at DX0_leastOffPlace_0 48 rfl) rfl (by decide) (L' := [(8, .int (nI (i + 1))), (9, .ref (q.2.2 (15 + i))), (0, .ref (q.2.2 9)), (1, .int (nI (sSeen B))), (2, .long (lN (sAll B))), (4, .int (-9)), (6, .ref (q.2.2 11)), (7, .int (nI 12))]) rfl ?_
          refine g_goto hC (gDec_at DX0_leastOffPlace_0 49 rfl) 31 (by decide) ?_
          refine g_sub [2, 3, 4, 5, 6, 7, 0] (L' := [(0, .ref (q.2.2 9)), (1, .int (nI (sSeen B))), (2, .long (lN (sAll B))), (4, .int (-9)), (6, .ref (q.2.2 11)), (7, .int (nI 12)), (8, .int (nI (i + 1)))]) rfl ?_
          have h9 := ih (i + 1) (by omega) (by omega)
          exact h9
        · skip
          refine g_iload_n hC (gDec_at DX0_leastOffPlace_0 29 rfl) rfl ?_
          refine g_if_leN hC (by omega) (gDec_at DX0_leastOffPlace_0 30 rfl) 93 (by decide) (fun h55 => ?_) (fun h55 => ?_)
          · skip
            refine g_iincN hC (gDec_at DX0_leastOffPlace_0 48 rfl) rfl (by decide) (L' := [(8, .int (nI (i + 1))), (9, .ref (q.2.2 (15 + i))), (0, .ref (q.2.2 9)), (1, .int (nI (sSeen B))), (2, .long (lN (sAll B))), (4, .int (-9)), (6, .ref (q.2.2 11)), (7, .int (nI 12))]) rfl ?_
            refine g_goto hC (gDec_at DX0_leastOffPlace_0 49 rfl) 31 (by decide) ?_
            refine g_sub [2, 3, 4, 5, 6, 7, 0] (L' := [(0, .ref (q.2.2 9)), (1, .int (nI (sSeen B))), (2, .long (lN (sAll B))), (4, .int (-9)), (6, .ref (q.2.2 11)), (7, .int (nI 12)), (8, .int (nI (i + 1)))]) rfl ?_
            have h9 := ih (i + 1) (by omega) (by omega)
            exact h9
          · skip
            exact absurd hz (by omega)
  exact g_sub [7, 6, 5, 4, 2, 1, 0] rfl (loop31 (12 + 1 - 0) 0 (by omega) (by omega))

set_option maxRecDepth 100000 in
set_option maxHeartbeats 4000000 in
theorem c_X0_leastOffPlace (q : gQ3) {M : gM} {B : gB} (hI : cI M B) (hz : 0 < sSeen B) : gCt (wC q) yX0_leastOffPlace cX0_leastOffPlace 11 (some .int) 5 [.ref (q.2.2 9)] M (gR (some (.int (nI (sTold (sExt B (sOf B) 0 12))))) M) := by
  refine gMet RX0 (by decide +kernel) rfl (Nat.le_of_ble_eq_true rfl) (fun X hC => ?_)
  have hC : gC X (wC q) cX0_leastOffPlace 11 RX0 (some .int) 5 := hC
  show gG X (wC q) _ 11 M 0 [(0, .ref (q.2.2 9))] []
  have hm := bv_many hI.2.2
  have hse := sSeen_le hI.2.2
  refine g_aload_n hC (gDec_at DX0_leastOffPlace_0 0 rfl) rfl ?_
  refine g_callVd (w := wC q) hC 9 (c_X0_allSeen q hI) vf_X0_allSeen ml_X0_176 (by decide) (show 9 < 63 from by decide) rfl rfl rfl rfl rfl (Nat.le_of_ble_eq_true rfl) (gDec_at DX0_leastOffPlace_0 1 rfl) ?_
  refine g_istore_n hC (gDec_at DX0_leastOffPlace_0 2 rfl) (by decide) (L' := [(1, .int (nI (sSeen B))), (0, .ref (q.2.2 9))]) rfl ?_
  refine g_aload_n hC (gDec_at DX0_leastOffPlace_0 3 rfl) rfl ?_
  refine g_callVd (w := wC q) hC 9 (c_X0_allGives q hI) vf_X0_allGives ml_X0_157 (by decide) (show 9 < 63 from by decide) rfl rfl rfl rfl rfl (Nat.le_of_ble_eq_true rfl) (gDec_at DX0_leastOffPlace_0 4 rfl) ?_
  refine g_lstore_n hC (gDec_at DX0_leastOffPlace_0 5 rfl) (by decide) (L' := [(2, .long (lN (sAll B))), (1, .int (nI (sSeen B))), (0, .ref (q.2.2 9))]) rfl ?_
  refine g_bipush hC (gDec_at DX0_leastOffPlace_0 6 rfl) (v := -9) (by decide) ?_
  refine g_istore hC (gDec_at DX0_leastOffPlace_0 7 rfl) (by decide) (L' := [(4, .int (-9)), (2, .long (lN (sAll B))), (1, .int (nI (sSeen B))), (0, .ref (q.2.2 9))]) rfl ?_
  refine g_iconst hC (gDec_at DX0_leastOffPlace_0 8 rfl) (v := nI 0) (by decide) ?_
  refine g_istore hC (gDec_at DX0_leastOffPlace_0 9 rfl) (by decide) (L' := [(5, .int (nI 0)), (4, .int (-9)), (2, .long (lN (sAll B))), (1, .int (nI (sSeen B))), (0, .ref (q.2.2 9))]) rfl ?_
  refine g_aload_n hC (gDec_at DX0_leastOffPlace_0 10 rfl) rfl ?_
  refine g_get (w := wC q) hC 9 (v := .ref (q.2.2 11)) fl_X0_22 (show 9 < 63 from by decide) rfl rfl (gDec_at DX0_leastOffPlace_0 11 rfl) ?_
  refine g_astore hC (gDec_at DX0_leastOffPlace_0 12 rfl) (by decide) (L' := [(6, .ref (q.2.2 11)), (5, .int (nI 0)), (4, .int (-9)), (2, .long (lN (sAll B))), (1, .int (nI (sSeen B))), (0, .ref (q.2.2 9))]) rfl ?_
  refine g_aload hC (gDec_at DX0_leastOffPlace_0 13 rfl) rfl ?_
  refine g_alen (w := wC q) hC 11 3 (show 11 < 63 from by decide) rfl rfl (gDec_at DX0_leastOffPlace_0 14 rfl) ?_
  refine g_istore hC (gDec_at DX0_leastOffPlace_0 15 rfl) (by decide) (L' := [(7, .int (nI 12)), (6, .ref (q.2.2 11)), (5, .int (nI 0)), (4, .int (-9)), (2, .long (lN (sAll B))), (1, .int (nI (sSeen B))), (0, .ref (q.2.2 9))]) rfl ?_
  refine g_iconst hC (gDec_at DX0_leastOffPlace_0 16 rfl) (v := nI 0) (by decide) ?_
  refine g_istore hC (gDec_at DX0_leastOffPlace_0 17 rfl) (by decide) (L' := [(8, .int (nI 0)), (7, .int (nI 12)), (6, .ref (q.2.2 11)), (5, .int (nI 0)), (4, .int (-9)), (2, .long (lN (sAll B))), (1, .int (nI (sSeen B))), (0, .ref (q.2.2 9))]) rfl ?_
  have loop31 : ∀ (fu i : Nat) (fnd fo : Int32), i ≤ 12 → 12 - i < fu → (i = 0 ∧ fnd = -9 ∧ fo = nI 0 ∨ 0 < i ∧ fnd = nI (sTold (sExt B (sOf B) 0 i)) ∧ fo = oI (sOf B (sExt B (sOf B) 0 i))) → gG X (wC q) (gR (some (.int (nI (sTold (sExt B (sOf B) 0 12))))) M) 11 M 31 [(0, .ref (q.2.2 9)), (1, .int (nI (sSeen B))), (2, .long (lN (sAll B))), (4, .int fnd), (5, .int fo), (6, .ref (q.2.2 11)), (7, .int (nI 12)), (8, .int (nI i))] [] := by
    intro fu; induction fu with
    | zero => intro i fnd fo h1 h2; omega
    | succ fu ih =>
      intro i fnd fo hi hfu hf
      rcases hf with ⟨h0, rfl, rfl⟩ | ⟨h0, rfl, rfl⟩
      · skip
        refine g_iload hC (gDec_at DX0_leastOffPlace_0 18 rfl) rfl ?_
        refine g_iload hC (gDec_at DX0_leastOffPlace_0 19 rfl) rfl ?_
        refine g_icmp_geN hC (by omega) (by omega) (gDec_at DX0_leastOffPlace_0 20 rfl) 99 (by decide) (fun h35 => ?_) (fun h35 => ?_)
        · skip
          omega
        · skip
          refine g_aload hC (gDec_at DX0_leastOffPlace_0 21 rfl) rfl ?_
          refine g_iload hC (gDec_at DX0_leastOffPlace_0 22 rfl) rfl ?_
          refine g_aald (w := wC q) hC 11 3 i (a := q.2.2 (15 + i)) (show 11 < 63 from by decide) rfl rfl (by omega) (by decide) rfl (gDec_at DX0_leastOffPlace_0 23 rfl) ?_
          refine g_astore hC (gDec_at DX0_leastOffPlace_0 24 rfl) (by decide) (L' := [(9, .ref (q.2.2 (15 + i))), (0, .ref (q.2.2 9)), (1, .int (nI (sSeen B))), (2, .long (lN (sAll B))), (4, .int (-9)), (5, .int (nI 0)), (6, .ref (q.2.2 11)), (7, .int (nI 12)), (8, .int (nI i))]) rfl ?_
          refine g_aload_n hC (gDec_at DX0_leastOffPlace_0 25 rfl) rfl ?_
          refine g_aload hC (gDec_at DX0_leastOffPlace_0 26 rfl) rfl ?_
          refine g_callVd (w := wC q) hC 9 (c_X0_has q hI (by omega)) vf_X0_has ml_X0_42 (by decide) (show 9 < 63 from by decide) rfl rfl rfl rfl rfl (Nat.le_of_ble_eq_true rfl) (gDec_at DX0_leastOffPlace_0 27 rfl) ?_
          refine g_if_eqB hC (gDec_at DX0_leastOffPlace_0 28 rfl) 93 (by decide) (fun h51 => ?_) (fun h51 => ?_)
          · skip
            exact absurd h51 (by subst h0; omega)
          · skip
            have hoi := sOf_le (by omega : i < 12) h51
            refine g_iload_n hC (gDec_at DX0_leastOffPlace_0 29 rfl) rfl ?_
            refine g_if_leN hC (by omega) (gDec_at DX0_leastOffPlace_0 30 rfl) 93 (by decide) (fun h55 => ?_) (fun h55 => ?_)
            · skip
              exact absurd hz (by omega)
            · skip
              refine g_aload_n hC (gDec_at DX0_leastOffPlace_0 31 rfl) rfl ?_
              refine g_aload hC (gDec_at DX0_leastOffPlace_0 32 rfl) rfl ?_
              refine g_iload_n hC (gDec_at DX0_leastOffPlace_0 33 rfl) rfl ?_
              refine g_lload_n hC (gDec_at DX0_leastOffPlace_0 34 rfl) rfl ?_
              refine g_callVd (w := wC q) hC 9 (c_X0_offBy q hI (by omega) (by omega)) vf_X0_offBy ml_X0_179 (by decide) (show 9 < 63 from by decide) rfl rfl rfl rfl rfl (Nat.le_of_ble_eq_true rfl) (gDec_at DX0_leastOffPlace_0 35 rfl) ?_
              refine g_istore hC (gDec_at DX0_leastOffPlace_0 36 rfl) (by decide) (L' := [(10, .int (oI (sOf B i))), (9, .ref (q.2.2 (15 + i))), (0, .ref (q.2.2 9)), (1, .int (nI (sSeen B))), (2, .long (lN (sAll B))), (4, .int (-9)), (5, .int (nI 0)), (6, .ref (q.2.2 11)), (7, .int (nI 12)), (8, .int (nI i))]) rfl ?_
              refine g_iload hC (gDec_at DX0_leastOffPlace_0 37 rfl) rfl ?_
              refine g_bipush hC (gDec_at DX0_leastOffPlace_0 38 rfl) (v := -9) (by decide) ?_
              refine g_icmp_eq hC (gDec_at DX0_leastOffPlace_0 39 rfl) 82 (by decide) (fun h => ?_) (fun h => absurd rfl h)
              refine g_aload hC (gDec_at DX0_leastOffPlace_0 43 rfl) rfl ?_
              refine g_get (w := wC q) hC (15 + i) (v := .int (nI (10 * (i / 6) + i % 6))) fl_X0_75 (show 15 + i < 63 from by have := (by omega); omega) (cC_p0 q _ _ (by omega)) (g_sv (ci_told hI (by omega))) (gDec_at DX0_leastOffPlace_0 44 rfl) ?_
              refine g_istore hC (gDec_at DX0_leastOffPlace_0 45 rfl) (by decide) (L' := [(4, .int (nI (10 * (i / 6) + i % 6))), (10, .int (oI (sOf B i))), (9, .ref (q.2.2 (15 + i))), (0, .ref (q.2.2 9)), (1, .int (nI (sSeen B))), (2, .long (lN (sAll B))), (5, .int (nI 0)), (6, .ref (q.2.2 11)), (7, .int (nI 12)), (8, .int (nI i))]) rfl ?_
              refine g_iload hC (gDec_at DX0_leastOffPlace_0 46 rfl) rfl ?_
              refine g_istore hC (gDec_at DX0_leastOffPlace_0 47 rfl) (by decide) (L' := [(5, .int (oI (sOf B i))), (4, .int (nI (10 * (i / 6) + i % 6))), (10, .int (oI (sOf B i))), (9, .ref (q.2.2 (15 + i))), (0, .ref (q.2.2 9)), (1, .int (nI (sSeen B))), (2, .long (lN (sAll B))), (6, .ref (q.2.2 11)), (7, .int (nI 12)), (8, .int (nI i))]) rfl ?_
              refine g_iincN hC (gDec_at DX0_leastOffPlace_0 48 rfl) rfl (by decide) (L' := [(8, .int (nI (i + 1))), (5, .int (oI (sOf B i))), (4, .int (nI (10 * (i / 6) + i % 6))), (10, .int (oI (sOf B i))), (9, .ref (q.2.2 (15 + i))), (0, .ref (q.2.2 9)), (1, .int (nI (sSeen B))), (2, .long (lN (sAll B))), (6, .ref (q.2.2 11)), (7, .int (nI 12))]) rfl ?_
              refine g_goto hC (gDec_at DX0_leastOffPlace_0 49 rfl) 31 (by decide) ?_
              refine g_sub [5, 6, 7, 2, 1, 8, 9, 0] (L' := [(0, .ref (q.2.2 9)), (1, .int (nI (sSeen B))), (2, .long (lN (sAll B))), (4, .int (nI (10 * (i / 6) + i % 6))), (5, .int (oI (sOf B i))), (6, .ref (q.2.2 11)), (7, .int (nI 12)), (8, .int (nI (i + 1)))]) rfl ?_
              have h9 := ih (i + 1) (nI (10 * (i / 6) + i % 6)) (oI (sOf B i)) (by omega) (by omega) (Or.inr ⟨by omega, by subst h0; rw [sExt_1]; rfl, by subst h0; rw [sExt_1]⟩)
              exact h9
      · skip
        refine g_iload hC (gDec_at DX0_leastOffPlace_0 18 rfl) rfl ?_
        refine g_iload hC (gDec_at DX0_leastOffPlace_0 19 rfl) rfl ?_
        refine g_icmp_geN hC (by omega) (by omega) (gDec_at DX0_leastOffPlace_0 20 rfl) 99 (by decide) (fun h35_1 => ?_) (fun h35_1 => ?_)
        · skip
          obtain rfl : i = 12 := by omega
          refine g_iload hC (gDec_at DX0_leastOffPlace_0 50 rfl) rfl ?_
          refine g_iret hC (gDec_at DX0_leastOffPlace_0 51 rfl) ?_
          exact ⟨rfl, rfl⟩
        · skip
          refine g_aload hC (gDec_at DX0_leastOffPlace_0 21 rfl) rfl ?_
          refine g_iload hC (gDec_at DX0_leastOffPlace_0 22 rfl) rfl ?_
          refine g_aald (w := wC q) hC 11 3 i (a := q.2.2 (15 + i)) (show 11 < 63 from by decide) rfl rfl (by omega) (by decide) rfl (gDec_at DX0_leastOffPlace_0 23 rfl) ?_
          refine g_astore hC (gDec_at DX0_leastOffPlace_0 24 rfl) (by decide) (L' := [(9, .ref (q.2.2 (15 + i))), (0, .ref (q.2.2 9)), (1, .int (nI (sSeen B))), (2, .long (lN (sAll B))), (4, .int (nI (sTold (sExt B (sOf B) 0 i)))), (5, .int (oI (sOf B (sExt B (sOf B) 0 i)))), (6, .ref (q.2.2 11)), (7, .int (nI 12)), (8, .int (nI i))]) rfl ?_
          refine g_aload_n hC (gDec_at DX0_leastOffPlace_0 25 rfl) rfl ?_
          refine g_aload hC (gDec_at DX0_leastOffPlace_0 26 rfl) rfl ?_
          refine g_callVd (w := wC q) hC 9 (c_X0_has q hI (by omega)) vf_X0_has ml_X0_42 (by decide) (show 9 < 63 from by decide) rfl rfl rfl rfl rfl (Nat.le_of_ble_eq_true rfl) (gDec_at DX0_leastOffPlace_0 27 rfl) ?_
          refine g_if_eqB hC (gDec_at DX0_leastOffPlace_0 28 rfl) 93 (by decide) (fun h51_1 => ?_) (fun h51_1 => ?_)
          · skip
            refine g_iincN hC (gDec_at DX0_leastOffPlace_0 48 rfl) rfl (by decide) (L' := [(8, .int (nI (i + 1))), (9, .ref (q.2.2 (15 + i))), (0, .ref (q.2.2 9)), (1, .int (nI (sSeen B))), (2, .long (lN (sAll B))), (4, .int (nI (sTold (sExt B (sOf B) 0 i)))), (5, .int (oI (sOf B (sExt B (sOf B) 0 i)))), (6, .ref (q.2.2 11)), (7, .int (nI 12))]) rfl ?_
            refine g_goto hC (gDec_at DX0_leastOffPlace_0 49 rfl) 31 (by decide) ?_
            refine g_sub [2, 3, 4, 5, 6, 7, 8, 0] (L' := [(0, .ref (q.2.2 9)), (1, .int (nI (sSeen B))), (2, .long (lN (sAll B))), (4, .int (nI (sTold (sExt B (sOf B) 0 i)))), (5, .int (oI (sOf B (sExt B (sOf B) 0 i)))), (6, .ref (q.2.2 11)), (7, .int (nI 12)), (8, .int (nI (i + 1)))]) rfl ?_
            have h9 := ih (i + 1) (nI (sTold (sExt B (sOf B) 0 i))) (oI (sOf B (sExt B (sOf B) 0 i))) (by omega) (by omega) (Or.inr ⟨by omega, by rw [show (sExt B (sOf B) 0 (i + 1)) = (sExt B (sOf B) 0 i) from if_neg (fun z => h51_1 z.1)], by rw [show (sExt B (sOf B) 0 (i + 1)) = (sExt B (sOf B) 0 i) from if_neg (fun z => h51_1 z.1)]⟩)
            exact h9
          · skip
            have hoi := sOf_le (by omega : i < 12) h51_1
            have hex := sExt_lt (B := B) (f := sOf B) (g := 0) hm.1 i h0
            have hoe := sOf_le (B := B) (j := (sExt B (sOf B) 0 i)) (by omega) hex.2
            refine g_iload_n hC (gDec_at DX0_leastOffPlace_0 29 rfl) rfl ?_
            refine g_if_leN hC (by omega) (gDec_at DX0_leastOffPlace_0 30 rfl) 93 (by decide) (fun h55_1 => ?_) (fun h55_1 => ?_)
            · skip
              exact absurd hz (by omega)
            · skip
              refine g_aload_n hC (gDec_at DX0_leastOffPlace_0 31 rfl) rfl ?_
              refine g_aload hC (gDec_at DX0_leastOffPlace_0 32 rfl) rfl ?_
              refine g_iload_n hC (gDec_at DX0_leastOffPlace_0 33 rfl) rfl ?_
              refine g_lload_n hC (gDec_at DX0_leastOffPlace_0 34 rfl) rfl ?_
              refine g_callVd (w := wC q) hC 9 (c_X0_offBy q hI (by omega) (by omega)) vf_X0_offBy ml_X0_179 (by decide) (show 9 < 63 from by decide) rfl rfl rfl rfl rfl (Nat.le_of_ble_eq_true rfl) (gDec_at DX0_leastOffPlace_0 35 rfl) ?_
              refine g_istore hC (gDec_at DX0_leastOffPlace_0 36 rfl) (by decide) (L' := [(10, .int (oI (sOf B i))), (9, .ref (q.2.2 (15 + i))), (0, .ref (q.2.2 9)), (1, .int (nI (sSeen B))), (2, .long (lN (sAll B))), (4, .int (nI (sTold (sExt B (sOf B) 0 i)))), (5, .int (oI (sOf B (sExt B (sOf B) 0 i)))), (6, .ref (q.2.2 11)), (7, .int (nI 12)), (8, .int (nI i))]) rfl ?_
              refine g_iload hC (gDec_at DX0_leastOffPlace_0 37 rfl) rfl ?_
              refine g_bipush hC (gDec_at DX0_leastOffPlace_0 38 rfl) (v := -9) (by decide) ?_
              refine g_icmp_eq hC (gDec_at DX0_leastOffPlace_0 39 rfl) 82 (by decide) (fun h => absurd h (nI_n9 (by have := (sExt_lt (B := B) (f := sOf B) (g := 0) hm.1 i h0).1; unfold sTold; omega))) (fun h => ?_)
              refine g_iload hC (gDec_at DX0_leastOffPlace_0 40 rfl) rfl ?_
              refine g_iload hC (gDec_at DX0_leastOffPlace_0 41 rfl) rfl ?_
              refine g_icmp_ge hC (gDec_at DX0_leastOffPlace_0 42 rfl) 93 (by decide) (fun h79 => ?_) (fun h79 => ?_)
              · skip
                have h79 : sOf B (sExt B (sOf B) 0 i) ≤ sOf B i := Nat.le_of_not_lt (fun z => absurd ((oI_lt (by omega) (by omega)).mpr z) (Int32.not_lt.mpr h79))
                refine g_iincN hC (gDec_at DX0_leastOffPlace_0 48 rfl) rfl (by decide) (L' := [(8, .int (nI (i + 1))), (10, .int (oI (sOf B i))), (9, .ref (q.2.2 (15 + i))), (0, .ref (q.2.2 9)), (1, .int (nI (sSeen B))), (2, .long (lN (sAll B))), (4, .int (nI (sTold (sExt B (sOf B) 0 i)))), (5, .int (oI (sOf B (sExt B (sOf B) 0 i)))), (6, .ref (q.2.2 11)), (7, .int (nI 12))]) rfl ?_
                refine g_goto hC (gDec_at DX0_leastOffPlace_0 49 rfl) 31 (by decide) ?_
                refine g_sub [3, 4, 5, 6, 7, 8, 9, 0] (L' := [(0, .ref (q.2.2 9)), (1, .int (nI (sSeen B))), (2, .long (lN (sAll B))), (4, .int (nI (sTold (sExt B (sOf B) 0 i)))), (5, .int (oI (sOf B (sExt B (sOf B) 0 i)))), (6, .ref (q.2.2 11)), (7, .int (nI 12)), (8, .int (nI (i + 1)))]) rfl ?_
                have h9 := ih (i + 1) (nI (sTold (sExt B (sOf B) 0 i))) (oI (sOf B (sExt B (sOf B) 0 i))) (by omega) (by omega) (Or.inr ⟨by omega, by rw [show (sExt B (sOf B) 0 (i + 1)) = (sExt B (sOf B) 0 i) from if_neg (fun z => by have := z.2; omega)], by rw [show (sExt B (sOf B) 0 (i + 1)) = (sExt B (sOf B) 0 i) from if_neg (fun z => by have := z.2; omega)]⟩)
                exact h9
              · skip
                have h79 : sOf B i < sOf B (sExt B (sOf B) 0 i) :=  (oI_lt (by omega) (by omega)).mp (Int32.not_le.mp h79)
                refine g_aload hC (gDec_at DX0_leastOffPlace_0 43 rfl) rfl ?_
                refine g_get (w := wC q) hC (15 + i) (v := .int (nI (10 * (i / 6) + i % 6))) fl_X0_75 (show 15 + i < 63 from by have := (by omega); omega) (cC_p0 q _ _ (by omega)) (g_sv (ci_told hI (by omega))) (gDec_at DX0_leastOffPlace_0 44 rfl) ?_
                refine g_istore hC (gDec_at DX0_leastOffPlace_0 45 rfl) (by decide) (L' := [(4, .int (nI (10 * (i / 6) + i % 6))), (10, .int (oI (sOf B i))), (9, .ref (q.2.2 (15 + i))), (0, .ref (q.2.2 9)), (1, .int (nI (sSeen B))), (2, .long (lN (sAll B))), (5, .int (oI (sOf B (sExt B (sOf B) 0 i)))), (6, .ref (q.2.2 11)), (7, .int (nI 12)), (8, .int (nI i))]) rfl ?_
                refine g_iload hC (gDec_at DX0_leastOffPlace_0 46 rfl) rfl ?_
                refine g_istore hC (gDec_at DX0_leastOffPlace_0 47 rfl) (by decide) (L' := [(5, .int (oI (sOf B i))), (4, .int (nI (10 * (i / 6) + i % 6))), (10, .int (oI (sOf B i))), (9, .ref (q.2.2 (15 + i))), (0, .ref (q.2.2 9)), (1, .int (nI (sSeen B))), (2, .long (lN (sAll B))), (6, .ref (q.2.2 11)), (7, .int (nI 12)), (8, .int (nI i))]) rfl ?_
                refine g_iincN hC (gDec_at DX0_leastOffPlace_0 48 rfl) rfl (by decide) (L' := [(8, .int (nI (i + 1))), (5, .int (oI (sOf B i))), (4, .int (nI (10 * (i / 6) + i % 6))), (10, .int (oI (sOf B i))), (9, .ref (q.2.2 (15 + i))), (0, .ref (q.2.2 9)), (1, .int (nI (sSeen B))), (2, .long (lN (sAll B))), (6, .ref (q.2.2 11)), (7, .int (nI 12))]) rfl ?_
                refine g_goto hC (gDec_at DX0_leastOffPlace_0 49 rfl) 31 (by decide) ?_
                refine g_sub [5, 6, 7, 2, 1, 8, 9, 0] (L' := [(0, .ref (q.2.2 9)), (1, .int (nI (sSeen B))), (2, .long (lN (sAll B))), (4, .int (nI (10 * (i / 6) + i % 6))), (5, .int (oI (sOf B i))), (6, .ref (q.2.2 11)), (7, .int (nI 12)), (8, .int (nI (i + 1)))]) rfl ?_
                have h9 := ih (i + 1) (nI (10 * (i / 6) + i % 6)) (oI (sOf B i)) (by omega) (by omega) (Or.inr ⟨by omega, by rw [show (sExt B (sOf B) 0 (i + 1)) = i from if_pos ⟨h51_1, by omega⟩]; rfl, by rw [show (sExt B (sOf B) 0 (i + 1)) = i from if_pos ⟨h51_1, by omega⟩]⟩)
                exact h9
  exact g_sub [7, 6, 5, 4, 3, 2, 1, 0] rfl (loop31 (12 + 1 - 0) 0 (-9) (nI 0) (by omega) (by omega) (Or.inl ⟨rfl, rfl, rfl⟩))
end
section
/-! Place, Wood, the text; a bow made anew, copied -/
section SW
variable {X : gX} {w : gW} {post : Option Value → gM → Prop} {nL : Nat} {M : gM} {pc : Nat} {L : List (Nat × Value)} {st : List Value} {cc : ByteArray} {own : String} {ret : Option FieldType} {d : Nat}
theorem g_tableIn (hC : gC X w cc nL own ret d) {dflt lo hi off : Int} {offs : Array Int} {len : Nat} {x : Int32} (hd : decode cc pc = .ok (.tableswitch dflt lo hi offs, len)) (tgt : Nat) (h1 : ¬ x.toInt < lo) (h2 : ¬ hi < x.toInt) (ho : offs[(x.toInt - lo).toNat]? = some off) (ht : (pc : Int) + off = (tgt : Int)) (k : gG X w post nL M tgt L st) : gG X w post nL M pc L (.int x :: st) := fun H locs ls hP hS hL => lv_tableIn hC.1 hC.2.1 hd h1 h2 ho ht (k H locs ls hP hS hL)
theorem g_tableOut (hC : gC X w cc nL own ret d) {dflt lo hi : Int} {offs : Array Int} {len : Nat} {x : Int32} (hd : decode cc pc = .ok (.tableswitch dflt lo hi offs, len)) (tgt : Nat) (h : x.toInt < lo ∨ hi < x.toInt) (ht : (pc : Int) + dflt = (tgt : Int)) (k : gG X w post nL M tgt L st) : gG X w post nL M pc L (.int x :: st) := fun H locs ls hP hS hL => lv_tableOut hC.1 hC.2.1 hd h ht (k H locs ls hP hS hL)
end SW
set_option maxRecDepth 100000 in
set_option maxHeartbeats 4000000 in
theorem c_X1_makeAnew (q : gQ3) {M : gM} {j : Nat} (hj : j < 12) (w d z : Int32) : gCt (wC q) yX1_makeAnew cX1_makeAnew 4 none 0 [.ref (q.2.2 (15 + j)), .int w, .int d, .int z] M (gR none (gupd (gupd (gupd (gupd (gupd (gupd M (15 + j) 3 w) (15 + j) 4 d) (15 + j) 5 z) (15 + j) 6 (nI 0)) (15 + j) 7 (nI 0)) (15 + j) 8 (nI 0))) := by
  refine gMet RX1 (by decide +kernel) rfl (Nat.le_of_ble_eq_true rfl) (fun X hC => ?_)
  have hC : gC X (wC q) cX1_makeAnew 4 RX1 none 0 := hC
  show gG X (wC q) _ 4 M 0 [(0, .ref (q.2.2 (15 + j))), (1, .int w), (2, .int d), (3, .int z)] []
  refine g_aload_n hC (gDec_at DX1_makeAnew_0 0 rfl) rfl ?_
  refine g_iload_n hC (gDec_at DX1_makeAnew_0 1 rfl) rfl ?_
  refine g_putI (w := wC q) hC (15 + j) fl_X1_21 fp_1_3 (show 15 + j < 63 from by have := hj; omega) (cC_p0 q _ _ hj) (Nat.le_of_ble_eq_true rfl) (cC_p0 q _ _ hj) rfl (gDec_at DX1_makeAnew_0 2 rfl) ?_
  refine g_aload_n hC (gDec_at DX1_makeAnew_0 3 rfl) rfl ?_
  refine g_iload_n hC (gDec_at DX1_makeAnew_0 4 rfl) rfl ?_
  refine g_putI (w := wC q) hC (15 + j) fl_X1_24 fp_1_4 (show 15 + j < 63 from by have := hj; omega) (cC_p0 q _ _ hj) (Nat.le_of_ble_eq_true rfl) (cC_p0 q _ _ hj) rfl (gDec_at DX1_makeAnew_0 5 rfl) ?_
  refine g_aload_n hC (gDec_at DX1_makeAnew_0 6 rfl) rfl ?_
  refine g_iload_n hC (gDec_at DX1_makeAnew_0 7 rfl) rfl ?_
  refine g_putI (w := wC q) hC (15 + j) fl_X1_27 fp_1_5 (show 15 + j < 63 from by have := hj; omega) (cC_p0 q _ _ hj) (Nat.le_of_ble_eq_true rfl) (cC_p0 q _ _ hj) rfl (gDec_at DX1_makeAnew_0 8 rfl) ?_
  refine g_aload_n hC (gDec_at DX1_makeAnew_0 9 rfl) rfl ?_
  refine g_iconst hC (gDec_at DX1_makeAnew_0 10 rfl) (v := nI 0) (by decide) ?_
  refine g_putI (w := wC q) hC (15 + j) fl_X1_30 fp_1_6 (show 15 + j < 63 from by have := hj; omega) (cC_p0 q _ _ hj) (Nat.le_of_ble_eq_true rfl) (cC_p0 q _ _ hj) rfl (gDec_at DX1_makeAnew_0 11 rfl) ?_
  refine g_aload_n hC (gDec_at DX1_makeAnew_0 12 rfl) rfl ?_
  refine g_iconst hC (gDec_at DX1_makeAnew_0 13 rfl) (v := nI 0) (by decide) ?_
  refine g_putI (w := wC q) hC (15 + j) fl_X1_33 fp_1_7 (show 15 + j < 63 from by have := hj; omega) (cC_p0 q _ _ hj) (Nat.le_of_ble_eq_true rfl) (cC_p0 q _ _ hj) rfl (gDec_at DX1_makeAnew_0 14 rfl) ?_
  refine g_aload_n hC (gDec_at DX1_makeAnew_0 15 rfl) rfl ?_
  refine g_iconst hC (gDec_at DX1_makeAnew_0 16 rfl) (v := nI 0) (by decide) ?_
  refine g_putZ (w := wC q) hC (15 + j) (Or.inl rfl) fl_X1_36 fp_1_8 (show 15 + j < 63 from by have := hj; omega) (cC_p0 q _ _ hj) (Nat.le_of_ble_eq_true rfl) (cC_p0 q _ _ hj) rfl (gDec_at DX1_makeAnew_0 17 rfl) ?_
  refine g_vret hC (gDec_at DX1_makeAnew_0 18 rfl) ?_
  exact ⟨rfl, rfl⟩

set_option maxRecDepth 100000 in
set_option maxHeartbeats 4000000 in
theorem c_X5_become (q : gQ3) {M : gM} {b k : Nat} (hb : b < 3) (hk : k < 3) (x y z : Int32) : gCt (wC q) yX5_become cX5_become 4 none 0 [.ref (q.2.2 (12 + 18 * b + k)), .int x, .int y, .int z] M (gR none (gupd (gupd (gupd M (12 + 18 * b + k) 0 x) (12 + 18 * b + k) 1 y) (12 + 18 * b + k) 2 z)) := by
  refine gMet RX5 (by decide +kernel) rfl (Nat.le_of_ble_eq_true rfl) (fun X hC => ?_)
  have hC : gC X (wC q) cX5_become 4 RX5 none 0 := hC
  show gG X (wC q) _ 4 M 0 [(0, .ref (q.2.2 (12 + 18 * b + k))), (1, .int x), (2, .int y), (3, .int z)] []
  refine g_aload_n hC (gDec_at DX5_become_0 0 rfl) rfl ?_
  refine g_iload_n hC (gDec_at DX5_become_0 1 rfl) rfl ?_
  refine g_putI (w := wC q) hC (12 + 18 * b + k) fl_X5_7 fp_5_0 (show 12 + 18 * b + k < 63 from by omega) (cC_wd q _ _ hk) (Nat.le_of_ble_eq_true rfl) (cC_wd q _ _ hk) rfl (gDec_at DX5_become_0 2 rfl) ?_
  refine g_aload_n hC (gDec_at DX5_become_0 3 rfl) rfl ?_
  refine g_iload_n hC (gDec_at DX5_become_0 4 rfl) rfl ?_
  refine g_putI (w := wC q) hC (12 + 18 * b + k) fl_X5_13 fp_5_1 (show 12 + 18 * b + k < 63 from by omega) (cC_wd q _ _ hk) (Nat.le_of_ble_eq_true rfl) (cC_wd q _ _ hk) rfl (gDec_at DX5_become_0 5 rfl) ?_
  refine g_aload_n hC (gDec_at DX5_become_0 6 rfl) rfl ?_
  refine g_iload_n hC (gDec_at DX5_become_0 7 rfl) rfl ?_
  refine g_putI (w := wC q) hC (12 + 18 * b + k) fl_X5_16 fp_5_2 (show 12 + 18 * b + k < 63 from by omega) (cC_wd q _ _ hk) (Nat.le_of_ble_eq_true rfl) (cC_wd q _ _ hk) rfl (gDec_at DX5_become_0 8 rfl) ?_
  refine g_vret hC (gDec_at DX5_become_0 9 rfl) ?_
  exact ⟨rfl, rfl⟩

set_option maxRecDepth 100000 in
set_option maxHeartbeats 4000000 in
theorem c_X1_copyFrom (q : gQ3) {M : gM} {b b2 j : Nat} (hb : b < 3) (hb2 : b2 < 3) (hne : b ≠ b2) (hj : j < 12) (h8 : M.1 (15 + 18 * b2 + j) 8 = 0 ∨ M.1 (15 + 18 * b2 + j) 8 = 1) : gCt (wC q) yX1_copyFrom cX1_copyFrom 2 none 0 [.ref (q.2.2 (15 + 18 * b + j)), .ref (q.2.2 (15 + 18 * b2 + j))] M (gR none (gupd (gupd (gupd (gupd (gupd (gupd M (15 + 18 * b + j) 3 (M.1 (15 + 18 * b2 + j) 3)) (15 + 18 * b + j) 4 (M.1 (15 + 18 * b2 + j) 4)) (15 + 18 * b + j) 5 (M.1 (15 + 18 * b2 + j) 5)) (15 + 18 * b + j) 6 (M.1 (15 + 18 * b2 + j) 6)) (15 + 18 * b + j) 7 (M.1 (15 + 18 * b2 + j) 7)) (15 + 18 * b + j) 8 (M.1 (15 + 18 * b2 + j) 8))) := by
  refine gMet RX1 (by decide +kernel) rfl (Nat.le_of_ble_eq_true rfl) (fun X hC => ?_)
  have hC : gC X (wC q) cX1_copyFrom 2 RX1 none 0 := hC
  show gG X (wC q) _ 2 M 0 [(0, .ref (q.2.2 (15 + 18 * b + j))), (1, .ref (q.2.2 (15 + 18 * b2 + j)))] []
  refine g_aload_n hC (gDec_at DX1_copyFrom_0 0 rfl) rfl ?_
  refine g_aload_n hC (gDec_at DX1_copyFrom_0 1 rfl) rfl ?_
  refine g_get (w := wC q) hC (15 + 18 * b2 + j) (v := .int (M.1 (15 + 18 * b2 + j) 3)) fl_X1_21 (show 15 + 18 * b2 + j < 63 from by omega) (cC_pl q _ _ hj) rfl (gDec_at DX1_copyFrom_0 2 rfl) ?_
  refine g_putI (w := wC q) hC (15 + 18 * b + j) fl_X1_21 fp_1_3 (show 15 + 18 * b + j < 63 from by omega) (cC_pl q _ _ hj) (Nat.le_of_ble_eq_true rfl) (cC_pl q _ _ hj) rfl (gDec_at DX1_copyFrom_0 3 rfl) ?_
  refine g_aload_n hC (gDec_at DX1_copyFrom_0 4 rfl) rfl ?_
  refine g_aload_n hC (gDec_at DX1_copyFrom_0 5 rfl) rfl ?_
  refine g_get (w := wC q) hC (15 + 18 * b2 + j) (v := .int (M.1 (15 + 18 * b2 + j) 4)) fl_X1_24 (show 15 + 18 * b2 + j < 63 from by omega) (cC_pl q _ _ hj) (g_sv (by rw [gupd_get, if_neg (by omega)])) (gDec_at DX1_copyFrom_0 6 rfl) ?_
  refine g_putI (w := wC q) hC (15 + 18 * b + j) fl_X1_24 fp_1_4 (show 15 + 18 * b + j < 63 from by omega) (cC_pl q _ _ hj) (Nat.le_of_ble_eq_true rfl) (cC_pl q _ _ hj) rfl (gDec_at DX1_copyFrom_0 7 rfl) ?_
  refine g_aload_n hC (gDec_at DX1_copyFrom_0 8 rfl) rfl ?_
  refine g_aload_n hC (gDec_at DX1_copyFrom_0 9 rfl) rfl ?_
  refine g_get (w := wC q) hC (15 + 18 * b2 + j) (v := .int (M.1 (15 + 18 * b2 + j) 5)) fl_X1_27 (show 15 + 18 * b2 + j < 63 from by omega) (cC_pl q _ _ hj) (g_sv (by rw [gupd_get, if_neg (by omega), gupd_get, if_neg (by omega)])) (gDec_at DX1_copyFrom_0 10 rfl) ?_
  refine g_putI (w := wC q) hC (15 + 18 * b + j) fl_X1_27 fp_1_5 (show 15 + 18 * b + j < 63 from by omega) (cC_pl q _ _ hj) (Nat.le_of_ble_eq_true rfl) (cC_pl q _ _ hj) rfl (gDec_at DX1_copyFrom_0 11 rfl) ?_
  refine g_aload_n hC (gDec_at DX1_copyFrom_0 12 rfl) rfl ?_
  refine g_aload_n hC (gDec_at DX1_copyFrom_0 13 rfl) rfl ?_
  refine g_get (w := wC q) hC (15 + 18 * b2 + j) (v := .int (M.1 (15 + 18 * b2 + j) 6)) fl_X1_30 (show 15 + 18 * b2 + j < 63 from by omega) (cC_pl q _ _ hj) (g_sv (by rw [gupd_get, if_neg (by omega), gupd_get, if_neg (by omega), gupd_get, if_neg (by omega)])) (gDec_at DX1_copyFrom_0 14 rfl) ?_
  refine g_putI (w := wC q) hC (15 + 18 * b + j) fl_X1_30 fp_1_6 (show 15 + 18 * b + j < 63 from by omega) (cC_pl q _ _ hj) (Nat.le_of_ble_eq_true rfl) (cC_pl q _ _ hj) rfl (gDec_at DX1_copyFrom_0 15 rfl) ?_
  refine g_aload_n hC (gDec_at DX1_copyFrom_0 16 rfl) rfl ?_
  refine g_aload_n hC (gDec_at DX1_copyFrom_0 17 rfl) rfl ?_
  refine g_get (w := wC q) hC (15 + 18 * b2 + j) (v := .int (M.1 (15 + 18 * b2 + j) 7)) fl_X1_33 (show 15 + 18 * b2 + j < 63 from by omega) (cC_pl q _ _ hj) (g_sv (by rw [gupd_get, if_neg (by omega), gupd_get, if_neg (by omega), gupd_get, if_neg (by omega), gupd_get, if_neg (by omega)])) (gDec_at DX1_copyFrom_0 18 rfl) ?_
  refine g_putI (w := wC q) hC (15 + 18 * b + j) fl_X1_33 fp_1_7 (show 15 + 18 * b + j < 63 from by omega) (cC_pl q _ _ hj) (Nat.le_of_ble_eq_true rfl) (cC_pl q _ _ hj) rfl (gDec_at DX1_copyFrom_0 19 rfl) ?_
  refine g_aload_n hC (gDec_at DX1_copyFrom_0 20 rfl) rfl ?_
  refine g_aload_n hC (gDec_at DX1_copyFrom_0 21 rfl) rfl ?_
  refine g_get (w := wC q) hC (15 + 18 * b2 + j) (v := .int (M.1 (15 + 18 * b2 + j) 8)) fl_X1_36 (show 15 + 18 * b2 + j < 63 from by omega) (cC_pl q _ _ hj) (g_sv (by rw [gupd_get, if_neg (by omega), gupd_get, if_neg (by omega), gupd_get, if_neg (by omega), gupd_get, if_neg (by omega), gupd_get, if_neg (by omega)])) (gDec_at DX1_copyFrom_0 22 rfl) ?_
  refine g_putZ (w := wC q) hC (15 + 18 * b + j) h8 fl_X1_36 fp_1_8 (show 15 + 18 * b + j < 63 from by omega) (cC_pl q _ _ hj) (Nat.le_of_ble_eq_true rfl) (cC_pl q _ _ hj) rfl (gDec_at DX1_copyFrom_0 23 rfl) ?_
  refine g_vret hC (gDec_at DX1_copyFrom_0 24 rfl) ?_
  exact ⟨rfl, rfl⟩

/-- the text: tl bytes tb -/
def cT (M : gM) (tl : Nat) (tb : Nat → Nat) : Prop := M.1 1 1 = nI tl ∧ tl ≤ 60 ∧ ∀ i, i < tl → M.1 2 i = nI (tb i) ∧ tb i < 256
def sgn (tl : Nat) (tb : Nat → Nat) (i : Nat) : Int32 := if i < tl then nI (tb i) else -9
def fg (b : Nat) : Int32 := nI b - nI 48
theorem fg_int {b : Nat} (hb : b < 256) : (fg b).toInt = (b : Int) - 48 := pk_sub_toInt (by omega) (by omega)
theorem fg_lt {b k : Nat} (hb : b < 256) (hk : k < 256) : fg b < nI k ↔ b < 48 + k := by
  rw [lt_I, fg_int hb, nI_toInt (by omega)]; omega
theorem fg_gt {b k : Nat} (hb : b < 256) (hk : k < 256) : nI k < fg b ↔ 48 + k < b := by
  rw [lt_I, fg_int hb, nI_toInt (by omega)]; omega
theorem fg_neg {b : Nat} (hb : b < 256) : fg b < 0 ↔ b < 48 := by
  rw [lt_I, fg_int hb, zI]; omega
theorem fg_dep {a b : Nat} (ha : a < 256) (hb : b < 256) : (nI 10 * fg a + fg b).toInt = 10 * (a : Int) + b - 528 := by
  have h1 := fg_int ha
  have h2 := fg_int hb
  have h3 : (nI 10).toInt = 10 := rfl
  rw [Int32.toInt_add, Int32.toInt_mul, h1, h2, h3]
  have e1 : ((10 : Int) * ((a : Int) - 48)).bmod (2 ^ 32) = 10 * ((a : Int) - 48) := by rw [Int.bmod_eq_of_le] <;> omega
  rw [e1, Int.bmod_eq_of_le] <;> omega
/-- a byte fits at its place w of a Place (width, depth, depth, wood), a before it -/
def ffit (w a b : Nat) : Prop := (w = 0 ∧ 49 ≤ b ∧ b ≤ 57) ∨ (w = 1 ∧ 48 ≤ b ∧ b ≤ 52) ∨ (w = 2 ∧ 48 ≤ b ∧ b ≤ 57 ∧ 532 ≤ 10 * a + b ∧ 10 * a + b ≤ 568) ∨ (w = 3 ∧ 48 ≤ b ∧ b ≤ 50)
set_option maxRecDepth 100000 in
set_option maxHeartbeats 4000000 in
theorem c_X4_signAt (q : gQ3) {M : gM} {tl : Nat} {tb : Nat → Nat} (hT : cT M tl tb) {i : Nat} (hi : i < 1000) : gCt (wC q) yX4_signAt cX4_signAt 2 (some .int) 0 [.ref (q.2.2 1), .int (nI i)] M (gR (some (.int (sgn tl tb i))) M) := by
  refine gMet RX4 (by decide +kernel) rfl (Nat.le_of_ble_eq_true rfl) (fun X hC => ?_)
  have hC : gC X (wC q) cX4_signAt 2 RX4 (some .int) 0 := hC
  show gG X (wC q) _ 2 M 0 [(0, .ref (q.2.2 1)), (1, .int (nI i))] []
  have ht := hT.2.1
  refine g_iload_n hC (gDec_at DX4_signAt_0 0 rfl) rfl ?_
  refine g_if_ltN hC (by omega) (gDec_at DX4_signAt_0 1 rfl) ?_ 30 (by decide)
  refine g_iload_n hC (gDec_at DX4_signAt_0 2 rfl) rfl ?_
  refine g_aload_n hC (gDec_at DX4_signAt_0 3 rfl) rfl ?_
  refine g_get (w := wC q) hC 1 (v := .int (nI tl)) fl_X4_15 (show 1 < 63 from by decide) rfl (g_sv hT.1) (gDec_at DX4_signAt_0 4 rfl) ?_
  refine g_icmp_geN hC (by omega) (by omega) (gDec_at DX4_signAt_0 5 rfl) 30 (by decide) (fun h9 => ?_) (fun h9 => ?_)
  · skip
    refine g_bipush hC (gDec_at DX4_signAt_0 16 rfl) (v := -9) (by decide) ?_
    refine g_iret hC (gDec_at DX4_signAt_0 17 rfl) ?_
    exact ⟨by unfold sgn; rw [if_neg (by omega)], rfl⟩
  · skip
    refine g_iload_n hC (gDec_at DX4_signAt_0 6 rfl) rfl ?_
    refine g_aload_n hC (gDec_at DX4_signAt_0 7 rfl) rfl ?_
    refine g_get (w := wC q) hC 1 (v := .ref (q.2.2 2)) fl_X4_9 (show 1 < 63 from by decide) rfl rfl (gDec_at DX4_signAt_0 8 rfl) ?_
    refine g_alen (w := wC q) hC 2 0 (show 2 < 63 from by decide) rfl rfl (gDec_at DX4_signAt_0 9 rfl) ?_
    refine g_icmp_geN hC (by omega) (by omega) (gDec_at DX4_signAt_0 10 rfl) 30 (by decide) (fun h18 => ?_) (fun h18 => ?_)
    · skip
      exact absurd h18 (by omega)
    · skip
      refine g_aload_n hC (gDec_at DX4_signAt_0 11 rfl) rfl ?_
      refine g_get (w := wC q) hC 1 (v := .ref (q.2.2 2)) fl_X4_9 (show 1 < 63 from by decide) rfl rfl (gDec_at DX4_signAt_0 12 rfl) ?_
      refine g_iload_n hC (gDec_at DX4_signAt_0 13 rfl) rfl ?_
      refine g_iald (w := wC q) hC 2 0 i (x := (nI (tb i))) (show 2 < 63 from by decide) rfl rfl (by omega) (by decide) (hT.2.2 _ (by omega)).1 (gDec_at DX4_signAt_0 14 rfl) ?_
      refine g_goto hC (gDec_at DX4_signAt_0 15 rfl) 32 (by decide) ?_
      refine g_iret hC (gDec_at DX4_signAt_0 17 rfl) ?_
      exact ⟨by unfold sgn; rw [if_pos (by omega)], rfl⟩

set_option maxRecDepth 100000 in
set_option maxHeartbeats 4000000 in
theorem c_X4_figureAt (q : gQ3) {M : gM} {tl : Nat} {tb : Nat → Nat} (hT : cT M tl tb) {i : Nat} (hi : i < tl) : gCt (wC q) yX4_figureAt cX4_figureAt 2 (some .int) 1 [.ref (q.2.2 1), .int (nI i)] M (gR (some (.int (fg (tb i)))) M) := by
  refine gMet RX4 (by decide +kernel) rfl (Nat.le_of_ble_eq_true rfl) (fun X hC => ?_)
  have hC : gC X (wC q) cX4_figureAt 2 RX4 (some .int) 1 := hC
  show gG X (wC q) _ 2 M 0 [(0, .ref (q.2.2 1)), (1, .int (nI i))] []
  have ht := hT.2.1
  refine g_aload_n hC (gDec_at DX4_figureAt_0 0 rfl) rfl ?_
  refine g_iload_n hC (gDec_at DX4_figureAt_0 1 rfl) rfl ?_
  refine g_callVd (w := wC q) hC 1 (c_X4_signAt q hT (i := i) (by omega)) vf_X4_signAt ml_X4_19 (by decide) (show 1 < 63 from by decide) rfl rfl rfl rfl rfl (Nat.le_of_ble_eq_true rfl) (gDec_at DX4_figureAt_0 2 rfl) ?_
  refine g_st (st' := [.int (nI (tb i))]) (congrArg (fun z => [Value.int z]) (if_pos hi)) ?_
  refine g_bipush hC (gDec_at DX4_figureAt_0 3 rfl) (v := nI 48) (by decide) ?_
  refine g_isub hC (gDec_at DX4_figureAt_0 4 rfl) (v := (fg (tb i))) rfl ?_
  refine g_iret hC (gDec_at DX4_figureAt_0 5 rfl) ?_
  exact ⟨rfl, rfl⟩

set_option maxRecDepth 100000 in
set_option maxHeartbeats 4000000 in
theorem c_X4_depthFits (q : gQ3) {M : gM} {x : Int32} : gCt (wC q) yX4_depthFits cX4_depthFits 2 (some .boolean) 0 [.ref (q.2.2 1), .int x] M (fun v M' => M' = M ∧ ((v = some (.int 1) ∧ gin x 4 40) ∨ (v = some (.int 0) ∧ ¬ gin x 4 40))) := by
  refine gMet RX4 (by decide +kernel) rfl (Nat.le_of_ble_eq_true rfl) (fun X hC => ?_)
  have hC : gC X (wC q) cX4_depthFits 2 RX4 (some .boolean) 0 := hC
  show gG X (wC q) _ 2 M 0 [(0, .ref (q.2.2 1)), (1, .int x)] []
  refine g_iload_n hC (gDec_at DX4_depthFits_0 0 rfl) rfl ?_
  refine g_iconst hC (gDec_at DX4_depthFits_0 1 rfl) (v := nI 4) (by decide) ?_
  refine g_icmp_lt hC (gDec_at DX4_depthFits_0 2 rfl) 15 (by decide) (fun h2 => ?_) (fun h2 => ?_)
  · skip
    refine g_iconst hC (gDec_at DX4_depthFits_0 8 rfl) (v := nI 0) (by decide) ?_
    refine g_zret hC (Or.inl rfl) (gDec_at DX4_depthFits_0 9 rfl) ?_
    exact ⟨rfl, Or.inr ⟨rfl, by rw [lt_I, nI_toInt (by omega)] at h2; unfold gin; omega⟩⟩
  · skip
    refine g_iload_n hC (gDec_at DX4_depthFits_0 3 rfl) rfl ?_
    refine g_bipush hC (gDec_at DX4_depthFits_0 4 rfl) (v := nI 40) (by decide) ?_
    refine g_icmp_gt hC (gDec_at DX4_depthFits_0 5 rfl) 15 (by decide) (fun h8 => ?_) (fun h8 => ?_)
    · skip
      refine g_iconst hC (gDec_at DX4_depthFits_0 8 rfl) (v := nI 0) (by decide) ?_
      refine g_zret hC (Or.inl rfl) (gDec_at DX4_depthFits_0 9 rfl) ?_
      exact ⟨rfl, Or.inr ⟨rfl, by rw [lt_I, nI_toInt (by omega)] at h2 h8; unfold gin; omega⟩⟩
    · skip
      refine g_iconst hC (gDec_at DX4_depthFits_0 6 rfl) (v := nI 1) (by decide) ?_
      refine g_goto hC (gDec_at DX4_depthFits_0 7 rfl) 16 (by decide) ?_
      refine g_zret hC (Or.inr rfl) (gDec_at DX4_depthFits_0 9 rfl) ?_
      exact ⟨rfl, Or.inl ⟨rfl, by rw [lt_I, nI_toInt (by omega)] at h2 h8; unfold gin; omega⟩⟩

set_option maxRecDepth 100000 in
set_option maxHeartbeats 4000000 in
theorem c_X4_figureFits_0 (q : gQ3) {M : gM} {tl : Nat} {tb : Nat → Nat} (hT : cT M tl tb) {i : Nat} (hi : i < tl) : gCt (wC q) yX4_figureFits cX4_figureFits 4 (some .boolean) 2 [.ref (q.2.2 1), .int (nI i), .int (nI 0)] M (fun v M' => M' = M ∧ ((v = some (.int 1) ∧ ffit 0 (tb (i - 1)) (tb i)) ∨ (v = some (.int 0) ∧ ¬ ffit 0 (tb (i - 1)) (tb i)))) := by
  refine gMet RX4 (by decide +kernel) rfl (Nat.le_of_ble_eq_true rfl) (fun X hC => ?_)
  have hC : gC X (wC q) cX4_figureFits 4 RX4 (some .boolean) 2 := hC
  show gG X (wC q) _ 4 M 0 [(0, .ref (q.2.2 1)), (1, .int (nI i)), (2, .int (nI 0))] []
  have ht := hT.2.1
  have hb := (hT.2.2 i hi).2
  refine g_aload_n hC (gDec_at DX4_figureFits_0 0 rfl) rfl ?_
  refine g_iload_n hC (gDec_at DX4_figureFits_0 1 rfl) rfl ?_
  refine g_callVd (w := wC q) hC 1 (c_X4_figureAt q hT (i := i) (by omega)) vf_X4_figureAt ml_X4_34 (by decide) (show 1 < 63 from by decide) rfl rfl rfl rfl rfl (Nat.le_of_ble_eq_true rfl) (gDec_at DX4_figureFits_0 2 rfl) ?_
  refine g_istore_n hC (gDec_at DX4_figureFits_0 3 rfl) (by decide) (L' := [(3, .int (fg (tb i))), (0, .ref (q.2.2 1)), (1, .int (nI i)), (2, .int (nI 0))]) rfl ?_
  refine g_iload_n hC (gDec_at DX4_figureFits_0 4 rfl) rfl ?_
  refine g_tableIn hC (gDec_at DX4_figureFits_0 5 rfl) 32 (by decide) (by decide) rfl (by decide) ?_
  refine g_iload_n hC (gDec_at DX4_figureFits_0 6 rfl) rfl ?_
  refine g_iconst hC (gDec_at DX4_figureFits_0 7 rfl) (v := nI 1) (by decide) ?_
  refine g_icmp_lt hC (gDec_at DX4_figureFits_0 8 rfl) 47 (by decide) (fun h34 => ?_) (fun h34 => ?_)
  · skip
    rw [fg_lt hb (by omega)] at h34
    refine g_iconst hC (gDec_at DX4_figureFits_0 14 rfl) (v := nI 0) (by decide) ?_
    refine g_zret hC (Or.inl rfl) (gDec_at DX4_figureFits_0 15 rfl) ?_
    exact ⟨rfl, Or.inr ⟨rfl, by unfold ffit; omega⟩⟩
  · skip
    rw [fg_lt hb (by omega)] at h34
    refine g_iload_n hC (gDec_at DX4_figureFits_0 9 rfl) rfl ?_
    refine g_bipush hC (gDec_at DX4_figureFits_0 10 rfl) (v := nI 9) (by decide) ?_
    refine g_icmp_gt hC (gDec_at DX4_figureFits_0 11 rfl) 47 (by decide) (fun h40 => ?_) (fun h40 => ?_)
    · skip
      rw [fg_gt hb (by omega)] at h40
      refine g_iconst hC (gDec_at DX4_figureFits_0 14 rfl) (v := nI 0) (by decide) ?_
      refine g_zret hC (Or.inl rfl) (gDec_at DX4_figureFits_0 15 rfl) ?_
      exact ⟨rfl, Or.inr ⟨rfl, by unfold ffit; omega⟩⟩
    · skip
      rw [fg_gt hb (by omega)] at h40
      refine g_iconst hC (gDec_at DX4_figureFits_0 12 rfl) (v := nI 1) (by decide) ?_
      refine g_goto hC (gDec_at DX4_figureFits_0 13 rfl) 48 (by decide) ?_
      refine g_zret hC (Or.inr rfl) (gDec_at DX4_figureFits_0 15 rfl) ?_
      exact ⟨rfl, Or.inl ⟨rfl, by unfold ffit; omega⟩⟩

set_option maxRecDepth 100000 in
set_option maxHeartbeats 4000000 in
theorem c_X4_figureFits_1 (q : gQ3) {M : gM} {tl : Nat} {tb : Nat → Nat} (hT : cT M tl tb) {i : Nat} (hi : i < tl) : gCt (wC q) yX4_figureFits cX4_figureFits 4 (some .boolean) 2 [.ref (q.2.2 1), .int (nI i), .int (nI 1)] M (fun v M' => M' = M ∧ ((v = some (.int 1) ∧ ffit 1 (tb (i - 1)) (tb i)) ∨ (v = some (.int 0) ∧ ¬ ffit 1 (tb (i - 1)) (tb i)))) := by
  refine gMet RX4 (by decide +kernel) rfl (Nat.le_of_ble_eq_true rfl) (fun X hC => ?_)
  have hC : gC X (wC q) cX4_figureFits 4 RX4 (some .boolean) 2 := hC
  show gG X (wC q) _ 4 M 0 [(0, .ref (q.2.2 1)), (1, .int (nI i)), (2, .int (nI 1))] []
  have ht := hT.2.1
  have hb := (hT.2.2 i hi).2
  refine g_aload_n hC (gDec_at DX4_figureFits_0 0 rfl) rfl ?_
  refine g_iload_n hC (gDec_at DX4_figureFits_0 1 rfl) rfl ?_
  refine g_callVd (w := wC q) hC 1 (c_X4_figureAt q hT (i := i) (by omega)) vf_X4_figureAt ml_X4_34 (by decide) (show 1 < 63 from by decide) rfl rfl rfl rfl rfl (Nat.le_of_ble_eq_true rfl) (gDec_at DX4_figureFits_0 2 rfl) ?_
  refine g_istore_n hC (gDec_at DX4_figureFits_0 3 rfl) (by decide) (L' := [(3, .int (fg (tb i))), (0, .ref (q.2.2 1)), (1, .int (nI i)), (2, .int (nI 1))]) rfl ?_
  refine g_iload_n hC (gDec_at DX4_figureFits_0 4 rfl) rfl ?_
  refine g_tableIn hC (gDec_at DX4_figureFits_0 5 rfl) 49 (by decide) (by decide) rfl (by decide) ?_
  refine g_iload_n hC (gDec_at DX4_figureFits_0 16 rfl) rfl ?_
  refine g_if_lt hC (gDec_at DX4_figureFits_0 17 rfl) 62 (by decide) (fun h50 => ?_) (fun h50 => ?_)
  · skip
    rw [fg_neg hb] at h50
    refine g_iconst hC (gDec_at DX4_figureFits_0 23 rfl) (v := nI 0) (by decide) ?_
    refine g_zret hC (Or.inl rfl) (gDec_at DX4_figureFits_0 24 rfl) ?_
    exact ⟨rfl, Or.inr ⟨rfl, by unfold ffit; omega⟩⟩
  · skip
    rw [fg_neg hb] at h50
    refine g_iload_n hC (gDec_at DX4_figureFits_0 18 rfl) rfl ?_
    refine g_iconst hC (gDec_at DX4_figureFits_0 19 rfl) (v := nI 4) (by decide) ?_
    refine g_icmp_gt hC (gDec_at DX4_figureFits_0 20 rfl) 62 (by decide) (fun h55 => ?_) (fun h55 => ?_)
    · skip
      rw [fg_gt hb (by omega)] at h55
      refine g_iconst hC (gDec_at DX4_figureFits_0 23 rfl) (v := nI 0) (by decide) ?_
      refine g_zret hC (Or.inl rfl) (gDec_at DX4_figureFits_0 24 rfl) ?_
      exact ⟨rfl, Or.inr ⟨rfl, by unfold ffit; omega⟩⟩
    · skip
      rw [fg_gt hb (by omega)] at h55
      refine g_iconst hC (gDec_at DX4_figureFits_0 21 rfl) (v := nI 1) (by decide) ?_
      refine g_goto hC (gDec_at DX4_figureFits_0 22 rfl) 63 (by decide) ?_
      refine g_zret hC (Or.inr rfl) (gDec_at DX4_figureFits_0 24 rfl) ?_
      exact ⟨rfl, Or.inl ⟨rfl, by unfold ffit; omega⟩⟩

set_option maxRecDepth 100000 in
set_option maxHeartbeats 4000000 in
theorem c_X4_figureFits_2 (q : gQ3) {M : gM} {tl : Nat} {tb : Nat → Nat} (hT : cT M tl tb) {i : Nat} (hi : i < tl) (h1 : 1 ≤ i) : gCt (wC q) yX4_figureFits cX4_figureFits 4 (some .boolean) 2 [.ref (q.2.2 1), .int (nI i), .int (nI 2)] M (fun v M' => M' = M ∧ ((v = some (.int 1) ∧ ffit 2 (tb (i - 1)) (tb i)) ∨ (v = some (.int 0) ∧ ¬ ffit 2 (tb (i - 1)) (tb i)))) := by
  refine gMet RX4 (by decide +kernel) rfl (Nat.le_of_ble_eq_true rfl) (fun X hC => ?_)
  have hC : gC X (wC q) cX4_figureFits 4 RX4 (some .boolean) 2 := hC
  show gG X (wC q) _ 4 M 0 [(0, .ref (q.2.2 1)), (1, .int (nI i)), (2, .int (nI 2))] []
  have ht := hT.2.1
  have hb := (hT.2.2 i hi).2
  refine g_aload_n hC (gDec_at DX4_figureFits_0 0 rfl) rfl ?_
  refine g_iload_n hC (gDec_at DX4_figureFits_0 1 rfl) rfl ?_
  refine g_callVd (w := wC q) hC 1 (c_X4_figureAt q hT (i := i) (by omega)) vf_X4_figureAt ml_X4_34 (by decide) (show 1 < 63 from by decide) rfl rfl rfl rfl rfl (Nat.le_of_ble_eq_true rfl) (gDec_at DX4_figureFits_0 2 rfl) ?_
  refine g_istore_n hC (gDec_at DX4_figureFits_0 3 rfl) (by decide) (L' := [(3, .int (fg (tb i))), (0, .ref (q.2.2 1)), (1, .int (nI i)), (2, .int (nI 2))]) rfl ?_
  refine g_iload_n hC (gDec_at DX4_figureFits_0 4 rfl) rfl ?_
  refine g_tableIn hC (gDec_at DX4_figureFits_0 5 rfl) 64 (by decide) (by decide) rfl (by decide) ?_
  refine g_iload_n hC (gDec_at DX4_figureFits_0 25 rfl) rfl ?_
  refine g_if_lt hC (gDec_at DX4_figureFits_0 26 rfl) 97 (by decide) (fun h65 => ?_) (fun h65 => ?_)
  · skip
    rw [fg_neg hb] at h65
    refine g_iconst hC (gDec_at DX4_figureFits_0 44 rfl) (v := nI 0) (by decide) ?_
    refine g_zret hC (Or.inl rfl) (gDec_at DX4_figureFits_0 45 rfl) ?_
    exact ⟨rfl, Or.inr ⟨rfl, by unfold ffit; omega⟩⟩
  · skip
    rw [fg_neg hb] at h65
    refine g_iload_n hC (gDec_at DX4_figureFits_0 27 rfl) rfl ?_
    refine g_bipush hC (gDec_at DX4_figureFits_0 28 rfl) (v := nI 9) (by decide) ?_
    refine g_icmp_gt hC (gDec_at DX4_figureFits_0 29 rfl) 97 (by decide) (fun h71 => ?_) (fun h71 => ?_)
    · skip
      rw [fg_gt hb (by omega)] at h71
      refine g_iconst hC (gDec_at DX4_figureFits_0 44 rfl) (v := nI 0) (by decide) ?_
      refine g_zret hC (Or.inl rfl) (gDec_at DX4_figureFits_0 45 rfl) ?_
      exact ⟨rfl, Or.inr ⟨rfl, by unfold ffit; omega⟩⟩
    · skip
      rw [fg_gt hb (by omega)] at h71
      refine g_aload_n hC (gDec_at DX4_figureFits_0 30 rfl) rfl ?_
      refine g_bipush hC (gDec_at DX4_figureFits_0 31 rfl) (v := nI 10) (by decide) ?_
      refine g_aload_n hC (gDec_at DX4_figureFits_0 32 rfl) rfl ?_
      refine g_iload_n hC (gDec_at DX4_figureFits_0 33 rfl) rfl ?_
      refine g_iconst hC (gDec_at DX4_figureFits_0 34 rfl) (v := nI 1) (by decide) ?_
      refine g_isubN hC (by omega) (gDec_at DX4_figureFits_0 35 rfl) ?_
      refine g_callVd (w := wC q) hC 1 (c_X4_figureAt q hT (i := (i - 1)) (by omega)) vf_X4_figureAt ml_X4_34 (by decide) (show 1 < 63 from by decide) rfl rfl rfl rfl rfl (Nat.le_of_ble_eq_true rfl) (gDec_at DX4_figureFits_0 36 rfl) ?_
      refine g_imul hC (gDec_at DX4_figureFits_0 37 rfl) rfl ?_
      refine g_iload_n hC (gDec_at DX4_figureFits_0 38 rfl) rfl ?_
      refine g_iadd hC (gDec_at DX4_figureFits_0 39 rfl) rfl ?_
      refine g_callV (w := wC q) hC (i := 1) (c_X4_depthFits q) vf_X4_depthFits ml_X4_37 (by decide) (show 1 < 63 from by decide) rfl rfl rfl rfl rfl (Nat.le_of_ble_eq_true rfl) (gDec_at DX4_figureFits_0 40 rfl) (fun v_87 M_87 hq_87 => ?_)
      obtain ⟨rfl, hq⟩ := hq_87
      rcases hq with ⟨rfl, hg⟩ | ⟨rfl, hg⟩
      · skip
        have hg2 := fg_dep (hT.2.2 (i - 1) (by omega)).2 hb
        unfold gin at hg
        refine g_if_eqN hC (by decide) (gDec_at DX4_figureFits_0 41 rfl) 97 (by decide) (fun h => absurd h (by decide)) (fun h => ?_)
        refine g_iconst hC (gDec_at DX4_figureFits_0 42 rfl) (v := nI 1) (by decide) ?_
        refine g_goto hC (gDec_at DX4_figureFits_0 43 rfl) 98 (by decide) ?_
        refine g_zret hC (Or.inr rfl) (gDec_at DX4_figureFits_0 45 rfl) ?_
        exact ⟨rfl, Or.inl ⟨rfl, by unfold ffit; omega⟩⟩
      · skip
        have hg2 := fg_dep (hT.2.2 (i - 1) (by omega)).2 hb
        unfold gin at hg
        refine g_if_eqN hC (by decide) (gDec_at DX4_figureFits_0 41 rfl) 97 (by decide) (fun h => ?_) (fun h => absurd h (by decide))
        refine g_iconst hC (gDec_at DX4_figureFits_0 44 rfl) (v := nI 0) (by decide) ?_
        refine g_zret hC (Or.inl rfl) (gDec_at DX4_figureFits_0 45 rfl) ?_
        exact ⟨rfl, Or.inr ⟨rfl, by unfold ffit; omega⟩⟩

set_option maxRecDepth 100000 in
set_option maxHeartbeats 4000000 in
theorem c_X4_figureFits_3 (q : gQ3) {M : gM} {tl : Nat} {tb : Nat → Nat} (hT : cT M tl tb) {i : Nat} (hi : i < tl) : gCt (wC q) yX4_figureFits cX4_figureFits 4 (some .boolean) 2 [.ref (q.2.2 1), .int (nI i), .int (nI 3)] M (fun v M' => M' = M ∧ ((v = some (.int 1) ∧ ffit 3 (tb (i - 1)) (tb i)) ∨ (v = some (.int 0) ∧ ¬ ffit 3 (tb (i - 1)) (tb i)))) := by
  refine gMet RX4 (by decide +kernel) rfl (Nat.le_of_ble_eq_true rfl) (fun X hC => ?_)
  have hC : gC X (wC q) cX4_figureFits 4 RX4 (some .boolean) 2 := hC
  show gG X (wC q) _ 4 M 0 [(0, .ref (q.2.2 1)), (1, .int (nI i)), (2, .int (nI 3))] []
  have ht := hT.2.1
  have hb := (hT.2.2 i hi).2
  refine g_aload_n hC (gDec_at DX4_figureFits_0 0 rfl) rfl ?_
  refine g_iload_n hC (gDec_at DX4_figureFits_0 1 rfl) rfl ?_
  refine g_callVd (w := wC q) hC 1 (c_X4_figureAt q hT (i := i) (by omega)) vf_X4_figureAt ml_X4_34 (by decide) (show 1 < 63 from by decide) rfl rfl rfl rfl rfl (Nat.le_of_ble_eq_true rfl) (gDec_at DX4_figureFits_0 2 rfl) ?_
  refine g_istore_n hC (gDec_at DX4_figureFits_0 3 rfl) (by decide) (L' := [(3, .int (fg (tb i))), (0, .ref (q.2.2 1)), (1, .int (nI i)), (2, .int (nI 3))]) rfl ?_
  refine g_iload_n hC (gDec_at DX4_figureFits_0 4 rfl) rfl ?_
  refine g_tableOut hC (gDec_at DX4_figureFits_0 5 rfl) 99 (by decide) (by decide) ?_
  refine g_iload_n hC (gDec_at DX4_figureFits_0 46 rfl) rfl ?_
  refine g_if_lt hC (gDec_at DX4_figureFits_0 47 rfl) 112 (by decide) (fun h100 => ?_) (fun h100 => ?_)
  · skip
    rw [fg_neg hb] at h100
    refine g_iconst hC (gDec_at DX4_figureFits_0 53 rfl) (v := nI 0) (by decide) ?_
    refine g_zret hC (Or.inl rfl) (gDec_at DX4_figureFits_0 54 rfl) ?_
    exact ⟨rfl, Or.inr ⟨rfl, by unfold ffit; omega⟩⟩
  · skip
    rw [fg_neg hb] at h100
    refine g_iload_n hC (gDec_at DX4_figureFits_0 48 rfl) rfl ?_
    refine g_iconst hC (gDec_at DX4_figureFits_0 49 rfl) (v := nI 2) (by decide) ?_
    refine g_icmp_gt hC (gDec_at DX4_figureFits_0 50 rfl) 112 (by decide) (fun h105 => ?_) (fun h105 => ?_)
    · skip
      rw [fg_gt hb (by omega)] at h105
      refine g_iconst hC (gDec_at DX4_figureFits_0 53 rfl) (v := nI 0) (by decide) ?_
      refine g_zret hC (Or.inl rfl) (gDec_at DX4_figureFits_0 54 rfl) ?_
      exact ⟨rfl, Or.inr ⟨rfl, by unfold ffit; omega⟩⟩
    · skip
      rw [fg_gt hb (by omega)] at h105
      refine g_iconst hC (gDec_at DX4_figureFits_0 51 rfl) (v := nI 1) (by decide) ?_
      refine g_goto hC (gDec_at DX4_figureFits_0 52 rfl) 113 (by decide) ?_
      refine g_zret hC (Or.inr rfl) (gDec_at DX4_figureFits_0 54 rfl) ?_
      exact ⟨rfl, Or.inl ⟨rfl, by unfold ffit; omega⟩⟩
end
section
/-! The text: where it is at fault; a bow made anew, copied -/
theorem sgn_47 {tl : Nat} {tb : Nat → Nat} (hb : ∀ i, i < tl → tb i < 256) (i : Nat) : sgn tl tb i = nI 47 ↔ i < tl ∧ tb i = 47 := by
  unfold sgn
  by_cases h : i < tl
  · rw [if_pos h, nI_eq (by have := hb i h; omega) (by omega)]; simp [h]
  · rw [if_neg h]
    constructor
    · intro q; exact absurd q.symm (nI_n9 (by omega))
    · intro q; exact absurd q.1 h
/-- where the first limb ends: 4 sl; 0: nowhere -/
def sSl (tl : Nat) (tb : Nat → Nat) (sl : Nat) : Prop := (sl = 0 ∧ ∀ n, 1 ≤ n → n ≤ 6 → ¬ (4 * n < tl ∧ tb (4 * n) = 47)) ∨ (1 ≤ sl ∧ sl ≤ 6 ∧ (4 * sl < tl ∧ tb (4 * sl) = 47) ∧ ∀ n, 1 ≤ n → n < sl → ¬ (4 * n < tl ∧ tb (4 * n) = 47))
def sfit (tb : Nat → Nat) (sl i : Nat) : Prop := ((sl = 0 ∨ i < 4 * sl) ∧ i < 24 ∧ ffit (i % 4) (tb (i - 1)) (tb i)) ∨ (0 < sl ∧ 4 * sl ≤ i ∧ (i = 4 * sl ∨ (i ≤ 8 * sl ∧ ffit ((i - 4 * sl - 1) % 4) (tb (i - 1)) (tb i))))
def skv (sl : Nat) : Int32 := if sl = 0 then -9 else nI (4 * sl)
set_option maxRecDepth 100000 in
set_option maxHeartbeats 4000000 in
theorem c_X4_slashAt_no (q : gQ3) {M : gM} {tl : Nat} {tb : Nat → Nat} (hT : cT M tl tb) (hs : ∀ n, 1 ≤ n → n ≤ 6 → ¬ (4 * n < tl ∧ tb (4 * n) = 47)) : gCt (wC q) yX4_slashAt cX4_slashAt 2 (some .int) 1 [.ref (q.2.2 1)] M (gR (some (.int (-9))) M) := by
  refine gMet RX4 (by decide +kernel) rfl (Nat.le_of_ble_eq_true rfl) (fun X hC => ?_)
  have hC : gC X (wC q) cX4_slashAt 2 RX4 (some .int) 1 := hC
  show gG X (wC q) _ 2 M 0 [(0, .ref (q.2.2 1))] []
  have ht := hT.2.1
  have hby := fun i h => (hT.2.2 i h).2
  refine g_iconst hC (gDec_at DX4_slashAt_0 0 rfl) (v := nI 1) (by decide) ?_
  refine g_istore_n hC (gDec_at DX4_slashAt_0 1 rfl) (by decide) (L' := [(1, .int (nI 1)), (0, .ref (q.2.2 1))]) rfl ?_
  have loop2 : ∀ (fu i : Nat), i ≤ 7 → 7 - i < fu → 1 ≤ i → gG X (wC q) (gR (some (.int (-9))) M) 2 M 2 [(0, .ref (q.2.2 1)), (1, .int (nI i))] [] := by
    intro fu; induction fu with
    | zero => intro i h1 h2; omega
    | succ fu ih =>
      intro i hi hfu h1i
      refine g_iload_n hC (gDec_at DX4_slashAt_0 2 rfl) rfl ?_
      refine g_bipush hC (gDec_at DX4_slashAt_0 3 rfl) (v := nI 6) (by decide) ?_
      refine g_icmp_gtN hC (by omega) (by omega) (gDec_at DX4_slashAt_0 4 rfl) 30 (by decide) (fun h5 => ?_) (fun h5 => ?_)
      · skip
        skip
        refine g_bipush hC (gDec_at DX4_slashAt_0 18 rfl) (v := -9) (by decide) ?_
        refine g_iret hC (gDec_at DX4_slashAt_0 19 rfl) ?_
        exact ⟨rfl, rfl⟩
      · skip
        refine g_aload_n hC (gDec_at DX4_slashAt_0 5 rfl) rfl ?_
        refine g_iconst hC (gDec_at DX4_slashAt_0 6 rfl) (v := nI 4) (by decide) ?_
        refine g_iload_n hC (gDec_at DX4_slashAt_0 7 rfl) rfl ?_
        refine g_imulN hC (gDec_at DX4_slashAt_0 8 rfl) ?_
        refine g_callVd (w := wC q) hC 1 (c_X4_signAt q hT (i := (4 * i)) (by omega)) vf_X4_signAt ml_X4_19 (by decide) (show 1 < 63 from by decide) rfl rfl rfl rfl rfl (Nat.le_of_ble_eq_true rfl) (gDec_at DX4_slashAt_0 9 rfl) ?_
        refine g_bipush hC (gDec_at DX4_slashAt_0 10 rfl) (v := nI 47) (by decide) ?_
        refine g_icmp_ne hC (gDec_at DX4_slashAt_0 11 rfl) 24 (by decide) (fun h17 => ?_) (fun h17 => ?_)
        · skip
          refine g_iincN hC (gDec_at DX4_slashAt_0 16 rfl) rfl (by decide) (L' := [(1, .int (nI (i + 1))), (0, .ref (q.2.2 1))]) rfl ?_
          refine g_goto hC (gDec_at DX4_slashAt_0 17 rfl) 2 (by decide) ?_
          refine g_sub [1, 0] (L' := [(0, .ref (q.2.2 1)), (1, .int (nI (i + 1)))]) rfl ?_
          have h9 := ih (i + 1) (by omega) (by omega) (by omega)
          exact h9
        · skip
          exact absurd ((sgn_47 hby _).mp h17) (hs i (by omega) (by omega))
  exact g_sub [1, 0] rfl (loop2 (7 + 1 - 1) 1 (by omega) (by omega) (by omega))

set_option maxRecDepth 100000 in
set_option maxHeartbeats 4000000 in
theorem c_X4_slashAt (q : gQ3) {M : gM} {tl : Nat} {tb : Nat → Nat} (hT : cT M tl tb) {sl : Nat} (h1 : 1 ≤ sl) (h6 : sl ≤ 6) (hs : 4 * sl < tl ∧ tb (4 * sl) = 47) (hmin : ∀ n, 1 ≤ n → n < sl → ¬ (4 * n < tl ∧ tb (4 * n) = 47)) : gCt (wC q) yX4_slashAt cX4_slashAt 2 (some .int) 1 [.ref (q.2.2 1)] M (gR (some (.int (nI (4 * sl)))) M) := by
  refine gMet RX4 (by decide +kernel) rfl (Nat.le_of_ble_eq_true rfl) (fun X hC => ?_)
  have hC : gC X (wC q) cX4_slashAt 2 RX4 (some .int) 1 := hC
  show gG X (wC q) _ 2 M 0 [(0, .ref (q.2.2 1))] []
  have ht := hT.2.1
  have hby := fun i h => (hT.2.2 i h).2
  refine g_iconst hC (gDec_at DX4_slashAt_0 0 rfl) (v := nI 1) (by decide) ?_
  refine g_istore_n hC (gDec_at DX4_slashAt_0 1 rfl) (by decide) (L' := [(1, .int (nI 1)), (0, .ref (q.2.2 1))]) rfl ?_
  have loop2 : ∀ (fu i : Nat), i ≤ sl → sl - i < fu → 1 ≤ i → gG X (wC q) (gR (some (.int (nI (4 * sl)))) M) 2 M 2 [(0, .ref (q.2.2 1)), (1, .int (nI i))] [] := by
    intro fu; induction fu with
    | zero => intro i h1 h2; omega
    | succ fu ih =>
      intro i hi hfu h1i
      refine g_iload_n hC (gDec_at DX4_slashAt_0 2 rfl) rfl ?_
      refine g_bipush hC (gDec_at DX4_slashAt_0 3 rfl) (v := nI 6) (by decide) ?_
      refine g_icmp_gtN hC (by omega) (by omega) (gDec_at DX4_slashAt_0 4 rfl) 30 (by decide) (fun h5 => ?_) (fun h5 => ?_)
      · skip
        exact absurd h5 (by omega)
      · skip
        refine g_aload_n hC (gDec_at DX4_slashAt_0 5 rfl) rfl ?_
        refine g_iconst hC (gDec_at DX4_slashAt_0 6 rfl) (v := nI 4) (by decide) ?_
        refine g_iload_n hC (gDec_at DX4_slashAt_0 7 rfl) rfl ?_
        refine g_imulN hC (gDec_at DX4_slashAt_0 8 rfl) ?_
        refine g_callVd (w := wC q) hC 1 (c_X4_signAt q hT (i := (4 * i)) (by omega)) vf_X4_signAt ml_X4_19 (by decide) (show 1 < 63 from by decide) rfl rfl rfl rfl rfl (Nat.le_of_ble_eq_true rfl) (gDec_at DX4_slashAt_0 9 rfl) ?_
        refine g_bipush hC (gDec_at DX4_slashAt_0 10 rfl) (v := nI 47) (by decide) ?_
        refine g_icmp_ne hC (gDec_at DX4_slashAt_0 11 rfl) 24 (by decide) (fun h17 => ?_) (fun h17 => ?_)
        · skip
          have hlt : i < sl := by rcases Nat.lt_or_ge i sl with z | z; exact z; exact absurd ((sgn_47 hby _).mpr (by rw [show i = sl by omega]; exact hs)) h17
          refine g_iincN hC (gDec_at DX4_slashAt_0 16 rfl) rfl (by decide) (L' := [(1, .int (nI (i + 1))), (0, .ref (q.2.2 1))]) rfl ?_
          refine g_goto hC (gDec_at DX4_slashAt_0 17 rfl) 2 (by decide) ?_
          refine g_sub [1, 0] (L' := [(0, .ref (q.2.2 1)), (1, .int (nI (i + 1)))]) rfl ?_
          have h9 := ih (i + 1) (by omega) (by omega) (by omega)
          exact h9
        · skip
          have h17a := (sgn_47 hby _).mp h17
          obtain rfl : i = sl := by rcases Nat.lt_or_ge i sl with z | z; exact absurd h17a (hmin i (by omega) z); omega
          refine g_iconst hC (gDec_at DX4_slashAt_0 12 rfl) (v := nI 4) (by decide) ?_
          refine g_iload_n hC (gDec_at DX4_slashAt_0 13 rfl) rfl ?_
          refine g_imulN hC (gDec_at DX4_slashAt_0 14 rfl) ?_
          refine g_iret hC (gDec_at DX4_slashAt_0 15 rfl) ?_
          exact ⟨rfl, rfl⟩
  exact g_sub [1, 0] rfl (loop2 (sl + 1 - 1) 1 (by omega) (by omega) (by omega))

theorem fit_a {tb : Nat → Nat} {sl i w : Nat} (h : sl = 0 ∨ i < 4 * sl) (h24 : i < 24) (e : i % 4 = w) (hg : ffit w (tb (i - 1)) (tb i)) : sfit tb sl i := Or.inl ⟨h, h24, by rw [e]; exact hg⟩
theorem fit_an {tb : Nat → Nat} {sl i w : Nat} (h : sl = 0 ∨ i < 4 * sl) (e : i % 4 = w) (hg : ¬ ffit w (tb (i - 1)) (tb i)) : ¬ sfit tb sl i := by
  rintro (⟨-, -, q⟩ | ⟨q1, q2, -⟩)
  · rw [e] at q; exact hg q
  · omega
theorem fit_a24 {tb : Nat → Nat} {sl i : Nat} (h : sl = 0 ∨ i < 4 * sl) (h24 : 24 ≤ i) : ¬ sfit tb sl i := by
  rintro (⟨-, q, -⟩ | ⟨q1, q2, -⟩) <;> omega
theorem fit_b {tb : Nat → Nat} {sl i w : Nat} (h0 : 0 < sl) (h : 4 * sl ≤ i) (h8 : i ≤ 8 * sl) (e : (i - 4 * sl - 1) % 4 = w) (hg : ffit w (tb (i - 1)) (tb i)) : sfit tb sl i := Or.inr ⟨h0, h, Or.inr ⟨h8, by rw [e]; exact hg⟩⟩
theorem fit_bn {tb : Nat → Nat} {sl i w : Nat} (h0 : 0 < sl) (h : 4 * sl ≤ i) (hne : ¬ i = 4 * sl) (e : (i - 4 * sl - 1) % 4 = w) (hg : ¬ ffit w (tb (i - 1)) (tb i)) : ¬ sfit tb sl i := by
  rintro (⟨q1, -, -⟩ | ⟨-, -, q | ⟨-, q⟩⟩)
  · omega
  · exact hne q
  · rw [e] at q; exact hg q
theorem fit_b8 {tb : Nat → Nat} {sl i : Nat} (h0 : 0 < sl) (h : 4 * sl ≤ i) (h8 : 8 * sl < i) : ¬ sfit tb sl i := by
  rintro (⟨q1, -, -⟩ | ⟨-, -, q | ⟨q, -⟩⟩) <;> omega
theorem fit_s {tb : Nat → Nat} {sl : Nat} (h0 : 0 < sl) : sfit tb sl (4 * sl) := Or.inr ⟨h0, Nat.le_refl _, Or.inl rfl⟩
set_option maxRecDepth 100000 in
set_option maxHeartbeats 4000000 in
theorem c_X4_fits_no (q : gQ3) {M : gM} {tl : Nat} {tb : Nat → Nat} (hT : cT M tl tb) {i sl : Nat} (hi : i < tl) (h0 : sl = 0) : gCt (wC q) yX4_fits cX4_fits 3 (some .boolean) 3 [.ref (q.2.2 1), .int (nI i), .int (-9)] M (fun v M' => M' = M ∧ ((v = some (.int 1) ∧ sfit tb sl i) ∨ (v = some (.int 0) ∧ ¬ sfit tb sl i))) := by
  refine gMet RX4 (by decide +kernel) rfl (Nat.le_of_ble_eq_true rfl) (fun X hC => ?_)
  have hC : gC X (wC q) cX4_fits 3 RX4 (some .boolean) 3 := hC
  show gG X (wC q) _ 3 M 0 [(0, .ref (q.2.2 1)), (1, .int (nI i)), (2, .int (-9))] []
  have ht := hT.2.1
  refine g_iload_n hC (gDec_at DX4_fits_0 0 rfl) rfl ?_
  refine g_bipush hC (gDec_at DX4_fits_0 1 rfl) (v := -9) (by decide) ?_
  refine g_icmp_eq hC (gDec_at DX4_fits_0 2 rfl) 11 (by decide) (fun h => ?_) (fun h => absurd rfl h)
  refine g_iload_n hC (gDec_at DX4_fits_0 6 rfl) rfl ?_
  refine g_bipush hC (gDec_at DX4_fits_0 7 rfl) (v := nI 24) (by decide) ?_
  refine g_icmp_geN hC (by omega) (by omega) (gDec_at DX4_fits_0 8 rfl) 32 (by decide) (fun h14 => ?_) (fun h14 => ?_)
  · skip
    refine g_iconst hC (gDec_at DX4_fits_0 18 rfl) (v := nI 0) (by decide) ?_
    refine g_zret hC (Or.inl rfl) (gDec_at DX4_fits_0 19 rfl) ?_
    exact ⟨rfl, Or.inr ⟨rfl, fit_a24 (by omega) (by omega)⟩⟩
  · skip
    refine g_aload_n hC (gDec_at DX4_fits_0 9 rfl) rfl ?_
    refine g_iload_n hC (gDec_at DX4_fits_0 10 rfl) rfl ?_
    refine g_iload_n hC (gDec_at DX4_fits_0 11 rfl) rfl ?_
    refine g_iconst hC (gDec_at DX4_fits_0 12 rfl) (v := nI 4) (by decide) ?_
    refine g_iremN hC (by omega) (by omega) (by omega) (gDec_at DX4_fits_0 13 rfl) ?_
    rcases (show i % 4 = 0 ∨ i % 4 = 1 ∨ i % 4 = 2 ∨ i % 4 = 3 by omega) with e | e | e | e
    · skip
      refine g_st (st' := [.int (nI 0), .int (nI i), .ref (q.2.2 1)]) (by rw [e]) ?_
      refine g_callV (w := wC q) hC (i := 1) (c_X4_figureFits_0 q hT (i := i) hi) vf_X4_figureFits ml_X4_31 (by decide) (show 1 < 63 from by decide) rfl rfl rfl rfl rfl (Nat.le_of_ble_eq_true rfl) (gDec_at DX4_fits_0 14 rfl) (fun v_22 M_22 hq_22 => ?_)
      obtain ⟨rfl, hq⟩ := hq_22
      rcases hq with ⟨rfl, hg⟩ | ⟨rfl, hg⟩
      · skip
        refine g_if_eqN hC (by decide) (gDec_at DX4_fits_0 15 rfl) 32 (by decide) (fun h => absurd h (by decide)) (fun h => ?_)
        refine g_iconst hC (gDec_at DX4_fits_0 16 rfl) (v := nI 1) (by decide) ?_
        refine g_goto hC (gDec_at DX4_fits_0 17 rfl) 33 (by decide) ?_
        refine g_zret hC (Or.inr rfl) (gDec_at DX4_fits_0 19 rfl) ?_
        exact ⟨rfl, Or.inl ⟨rfl, fit_a (by omega) (by omega) e hg⟩⟩
      · skip
        refine g_if_eqN hC (by decide) (gDec_at DX4_fits_0 15 rfl) 32 (by decide) (fun h => ?_) (fun h => absurd h (by decide))
        refine g_iconst hC (gDec_at DX4_fits_0 18 rfl) (v := nI 0) (by decide) ?_
        refine g_zret hC (Or.inl rfl) (gDec_at DX4_fits_0 19 rfl) ?_
        exact ⟨rfl, Or.inr ⟨rfl, fit_an (by omega) e hg⟩⟩
    · skip
      refine g_st (st' := [.int (nI 1), .int (nI i), .ref (q.2.2 1)]) (by rw [e]) ?_
      refine g_callV (w := wC q) hC (i := 1) (c_X4_figureFits_1 q hT (i := i) hi) vf_X4_figureFits ml_X4_31 (by decide) (show 1 < 63 from by decide) rfl rfl rfl rfl rfl (Nat.le_of_ble_eq_true rfl) (gDec_at DX4_fits_0 14 rfl) (fun v_22 M_22 hq_22 => ?_)
      obtain ⟨rfl, hq⟩ := hq_22
      rcases hq with ⟨rfl, hg⟩ | ⟨rfl, hg⟩
      · skip
        refine g_if_eqN hC (by decide) (gDec_at DX4_fits_0 15 rfl) 32 (by decide) (fun h => absurd h (by decide)) (fun h => ?_)
        refine g_iconst hC (gDec_at DX4_fits_0 16 rfl) (v := nI 1) (by decide) ?_
        refine g_goto hC (gDec_at DX4_fits_0 17 rfl) 33 (by decide) ?_
        refine g_zret hC (Or.inr rfl) (gDec_at DX4_fits_0 19 rfl) ?_
        exact ⟨rfl, Or.inl ⟨rfl, fit_a (by omega) (by omega) e hg⟩⟩
      · skip
        refine g_if_eqN hC (by decide) (gDec_at DX4_fits_0 15 rfl) 32 (by decide) (fun h => ?_) (fun h => absurd h (by decide))
        refine g_iconst hC (gDec_at DX4_fits_0 18 rfl) (v := nI 0) (by decide) ?_
        refine g_zret hC (Or.inl rfl) (gDec_at DX4_fits_0 19 rfl) ?_
        exact ⟨rfl, Or.inr ⟨rfl, fit_an (by omega) e hg⟩⟩
    · skip
      refine g_st (st' := [.int (nI 2), .int (nI i), .ref (q.2.2 1)]) (by rw [e]) ?_
      refine g_callV (w := wC q) hC (i := 1) (c_X4_figureFits_2 q hT (i := i) hi (by omega)) vf_X4_figureFits ml_X4_31 (by decide) (show 1 < 63 from by decide) rfl rfl rfl rfl rfl (Nat.le_of_ble_eq_true rfl) (gDec_at DX4_fits_0 14 rfl) (fun v_22 M_22 hq_22 => ?_)
      obtain ⟨rfl, hq⟩ := hq_22
      rcases hq with ⟨rfl, hg⟩ | ⟨rfl, hg⟩
      · skip
        refine g_if_eqN hC (by decide) (gDec_at DX4_fits_0 15 rfl) 32 (by decide) (fun h => absurd h (by decide)) (fun h => ?_)
        refine g_iconst hC (gDec_at DX4_fits_0 16 rfl) (v := nI 1) (by decide) ?_
        refine g_goto hC (gDec_at DX4_fits_0 17 rfl) 33 (by decide) ?_
        refine g_zret hC (Or.inr rfl) (gDec_at DX4_fits_0 19 rfl) ?_
        exact ⟨rfl, Or.inl ⟨rfl, fit_a (by omega) (by omega) e hg⟩⟩
      · skip
        refine g_if_eqN hC (by decide) (gDec_at DX4_fits_0 15 rfl) 32 (by decide) (fun h => ?_) (fun h => absurd h (by decide))
        refine g_iconst hC (gDec_at DX4_fits_0 18 rfl) (v := nI 0) (by decide) ?_
        refine g_zret hC (Or.inl rfl) (gDec_at DX4_fits_0 19 rfl) ?_
        exact ⟨rfl, Or.inr ⟨rfl, fit_an (by omega) e hg⟩⟩
    · skip
      refine g_st (st' := [.int (nI 3), .int (nI i), .ref (q.2.2 1)]) (by rw [e]) ?_
      refine g_callV (w := wC q) hC (i := 1) (c_X4_figureFits_3 q hT (i := i) hi) vf_X4_figureFits ml_X4_31 (by decide) (show 1 < 63 from by decide) rfl rfl rfl rfl rfl (Nat.le_of_ble_eq_true rfl) (gDec_at DX4_fits_0 14 rfl) (fun v_22 M_22 hq_22 => ?_)
      obtain ⟨rfl, hq⟩ := hq_22
      rcases hq with ⟨rfl, hg⟩ | ⟨rfl, hg⟩
      · skip
        refine g_if_eqN hC (by decide) (gDec_at DX4_fits_0 15 rfl) 32 (by decide) (fun h => absurd h (by decide)) (fun h => ?_)
        refine g_iconst hC (gDec_at DX4_fits_0 16 rfl) (v := nI 1) (by decide) ?_
        refine g_goto hC (gDec_at DX4_fits_0 17 rfl) 33 (by decide) ?_
        refine g_zret hC (Or.inr rfl) (gDec_at DX4_fits_0 19 rfl) ?_
        exact ⟨rfl, Or.inl ⟨rfl, fit_a (by omega) (by omega) e hg⟩⟩
      · skip
        refine g_if_eqN hC (by decide) (gDec_at DX4_fits_0 15 rfl) 32 (by decide) (fun h => ?_) (fun h => absurd h (by decide))
        refine g_iconst hC (gDec_at DX4_fits_0 18 rfl) (v := nI 0) (by decide) ?_
        refine g_zret hC (Or.inl rfl) (gDec_at DX4_fits_0 19 rfl) ?_
        exact ⟨rfl, Or.inr ⟨rfl, fit_an (by omega) e hg⟩⟩

set_option maxRecDepth 100000 in
set_option maxHeartbeats 4000000 in
theorem c_X4_fits (q : gQ3) {M : gM} {tl : Nat} {tb : Nat → Nat} (hT : cT M tl tb) {i sl : Nat} (hi : i < tl) (h0 : 1 ≤ sl) (h6 : sl ≤ 6) : gCt (wC q) yX4_fits cX4_fits 3 (some .boolean) 3 [.ref (q.2.2 1), .int (nI i), .int (nI (4 * sl))] M (fun v M' => M' = M ∧ ((v = some (.int 1) ∧ sfit tb sl i) ∨ (v = some (.int 0) ∧ ¬ sfit tb sl i))) := by
  refine gMet RX4 (by decide +kernel) rfl (Nat.le_of_ble_eq_true rfl) (fun X hC => ?_)
  have hC : gC X (wC q) cX4_fits 3 RX4 (some .boolean) 3 := hC
  show gG X (wC q) _ 3 M 0 [(0, .ref (q.2.2 1)), (1, .int (nI i)), (2, .int (nI (4 * sl)))] []
  have ht := hT.2.1
  refine g_iload_n hC (gDec_at DX4_fits_0 0 rfl) rfl ?_
  refine g_bipush hC (gDec_at DX4_fits_0 1 rfl) (v := -9) (by decide) ?_
  refine g_icmp_eq hC (gDec_at DX4_fits_0 2 rfl) 11 (by decide) (fun h => absurd h (nI_n9 (by omega))) (fun h => ?_)
  refine g_iload_n hC (gDec_at DX4_fits_0 3 rfl) rfl ?_
  refine g_iload_n hC (gDec_at DX4_fits_0 4 rfl) rfl ?_
  refine g_icmp_geN hC (by omega) (by omega) (gDec_at DX4_fits_0 5 rfl) 34 (by decide) (fun h8 => ?_) (fun h8 => ?_)
  · skip
    refine g_iload_n hC (gDec_at DX4_fits_0 20 rfl) rfl ?_
    refine g_iload_n hC (gDec_at DX4_fits_0 21 rfl) rfl ?_
    refine g_icmp_eqN hC (by omega) (by omega) (gDec_at DX4_fits_0 22 rfl) 61 (by decide) (fun h36 => ?_) (fun h36 => ?_)
    · skip
      refine g_iconst hC (gDec_at DX4_fits_0 39 rfl) (v := nI 1) (by decide) ?_
      refine g_goto hC (gDec_at DX4_fits_0 40 rfl) 66 (by decide) ?_
      refine g_zret hC (Or.inr rfl) (gDec_at DX4_fits_0 42 rfl) ?_
      exact ⟨rfl, Or.inl ⟨rfl, by rw [h36]; exact fit_s (by omega)⟩⟩
    · skip
      have h36g : 4 * sl < i := by omega
      refine g_iload_n hC (gDec_at DX4_fits_0 23 rfl) rfl ?_
      refine g_iconst hC (gDec_at DX4_fits_0 24 rfl) (v := nI 2) (by decide) ?_
      refine g_iload_n hC (gDec_at DX4_fits_0 25 rfl) rfl ?_
      refine g_imulN hC (gDec_at DX4_fits_0 26 rfl) ?_
      refine g_icmp_gtN hC (by omega) (by omega) (gDec_at DX4_fits_0 27 rfl) 65 (by decide) (fun h43 => ?_) (fun h43 => ?_)
      · skip
        have h43g : 8 * sl < i := by omega
        refine g_iconst hC (gDec_at DX4_fits_0 41 rfl) (v := nI 0) (by decide) ?_
        refine g_zret hC (Or.inl rfl) (gDec_at DX4_fits_0 42 rfl) ?_
        exact ⟨rfl, Or.inr ⟨rfl, fit_b8 (by omega) (by omega) (by omega)⟩⟩
      · skip
        refine g_aload_n hC (gDec_at DX4_fits_0 28 rfl) rfl ?_
        refine g_iload_n hC (gDec_at DX4_fits_0 29 rfl) rfl ?_
        refine g_iload_n hC (gDec_at DX4_fits_0 30 rfl) rfl ?_
        refine g_iload_n hC (gDec_at DX4_fits_0 31 rfl) rfl ?_
        refine g_isubN hC (by omega) (gDec_at DX4_fits_0 32 rfl) ?_
        refine g_iconst hC (gDec_at DX4_fits_0 33 rfl) (v := nI 1) (by decide) ?_
        refine g_isubN hC (by omega) (gDec_at DX4_fits_0 34 rfl) ?_
        refine g_iconst hC (gDec_at DX4_fits_0 35 rfl) (v := nI 4) (by decide) ?_
        refine g_iremN hC (by omega) (by omega) (by omega) (gDec_at DX4_fits_0 36 rfl) ?_
        rcases (show (i - 4 * sl - 1) % 4 = 0 ∨ (i - 4 * sl - 1) % 4 = 1 ∨ (i - 4 * sl - 1) % 4 = 2 ∨ (i - 4 * sl - 1) % 4 = 3 by omega) with e | e | e | e
        · skip
          refine g_st (st' := [.int (nI 0), .int (nI i), .ref (q.2.2 1)]) (by rw [e]) ?_
          refine g_callV (w := wC q) hC (i := 1) (c_X4_figureFits_0 q hT (i := i) hi) vf_X4_figureFits ml_X4_31 (by decide) (show 1 < 63 from by decide) rfl rfl rfl rfl rfl (Nat.le_of_ble_eq_true rfl) (gDec_at DX4_fits_0 37 rfl) (fun v_55 M_55 hq_55 => ?_)
          obtain ⟨rfl, hq⟩ := hq_55
          rcases hq with ⟨rfl, hg⟩ | ⟨rfl, hg⟩
          · skip
            refine g_if_eqN hC (by decide) (gDec_at DX4_fits_0 38 rfl) 65 (by decide) (fun h => absurd h (by decide)) (fun h => ?_)
            refine g_iconst hC (gDec_at DX4_fits_0 39 rfl) (v := nI 1) (by decide) ?_
            refine g_goto hC (gDec_at DX4_fits_0 40 rfl) 66 (by decide) ?_
            refine g_zret hC (Or.inr rfl) (gDec_at DX4_fits_0 42 rfl) ?_
            exact ⟨rfl, Or.inl ⟨rfl, fit_b (by omega) (by omega) (by omega) e hg⟩⟩
          · skip
            refine g_if_eqN hC (by decide) (gDec_at DX4_fits_0 38 rfl) 65 (by decide) (fun h => ?_) (fun h => absurd h (by decide))
            refine g_iconst hC (gDec_at DX4_fits_0 41 rfl) (v := nI 0) (by decide) ?_
            refine g_zret hC (Or.inl rfl) (gDec_at DX4_fits_0 42 rfl) ?_
            exact ⟨rfl, Or.inr ⟨rfl, fit_bn (by omega) (by omega) (by omega) e hg⟩⟩
        · skip
          refine g_st (st' := [.int (nI 1), .int (nI i), .ref (q.2.2 1)]) (by rw [e]) ?_
          refine g_callV (w := wC q) hC (i := 1) (c_X4_figureFits_1 q hT (i := i) hi) vf_X4_figureFits ml_X4_31 (by decide) (show 1 < 63 from by decide) rfl rfl rfl rfl rfl (Nat.le_of_ble_eq_true rfl) (gDec_at DX4_fits_0 37 rfl) (fun v_55 M_55 hq_55 => ?_)
          obtain ⟨rfl, hq⟩ := hq_55
          rcases hq with ⟨rfl, hg⟩ | ⟨rfl, hg⟩
          · skip
            refine g_if_eqN hC (by decide) (gDec_at DX4_fits_0 38 rfl) 65 (by decide) (fun h => absurd h (by decide)) (fun h => ?_)
            refine g_iconst hC (gDec_at DX4_fits_0 39 rfl) (v := nI 1) (by decide) ?_
            refine g_goto hC (gDec_at DX4_fits_0 40 rfl) 66 (by decide) ?_
            refine g_zret hC (Or.inr rfl) (gDec_at DX4_fits_0 42 rfl) ?_
            exact ⟨rfl, Or.inl ⟨rfl, fit_b (by omega) (by omega) (by omega) e hg⟩⟩
          · skip
            refine g_if_eqN hC (by decide) (gDec_at DX4_fits_0 38 rfl) 65 (by decide) (fun h => ?_) (fun h => absurd h (by decide))
            refine g_iconst hC (gDec_at DX4_fits_0 41 rfl) (v := nI 0) (by decide) ?_
            refine g_zret hC (Or.inl rfl) (gDec_at DX4_fits_0 42 rfl) ?_
            exact ⟨rfl, Or.inr ⟨rfl, fit_bn (by omega) (by omega) (by omega) e hg⟩⟩
        · skip
          refine g_st (st' := [.int (nI 2), .int (nI i), .ref (q.2.2 1)]) (by rw [e]) ?_
          refine g_callV (w := wC q) hC (i := 1) (c_X4_figureFits_2 q hT (i := i) hi (by omega)) vf_X4_figureFits ml_X4_31 (by decide) (show 1 < 63 from by decide) rfl rfl rfl rfl rfl (Nat.le_of_ble_eq_true rfl) (gDec_at DX4_fits_0 37 rfl) (fun v_55 M_55 hq_55 => ?_)
          obtain ⟨rfl, hq⟩ := hq_55
          rcases hq with ⟨rfl, hg⟩ | ⟨rfl, hg⟩
          · skip
            refine g_if_eqN hC (by decide) (gDec_at DX4_fits_0 38 rfl) 65 (by decide) (fun h => absurd h (by decide)) (fun h => ?_)
            refine g_iconst hC (gDec_at DX4_fits_0 39 rfl) (v := nI 1) (by decide) ?_
            refine g_goto hC (gDec_at DX4_fits_0 40 rfl) 66 (by decide) ?_
            refine g_zret hC (Or.inr rfl) (gDec_at DX4_fits_0 42 rfl) ?_
            exact ⟨rfl, Or.inl ⟨rfl, fit_b (by omega) (by omega) (by omega) e hg⟩⟩
          · skip
            refine g_if_eqN hC (by decide) (gDec_at DX4_fits_0 38 rfl) 65 (by decide) (fun h => ?_) (fun h => absurd h (by decide))
            refine g_iconst hC (gDec_at DX4_fits_0 41 rfl) (v := nI 0) (by decide) ?_
            refine g_zret hC (Or.inl rfl) (gDec_at DX4_fits_0 42 rfl) ?_
            exact ⟨rfl, Or.inr ⟨rfl, fit_bn (by omega) (by omega) (by omega) e hg⟩⟩
        · skip
          refine g_st (st' := [.int (nI 3), .int (nI i), .ref (q.2.2 1)]) (by rw [e]) ?_
          refine g_callV (w := wC q) hC (i := 1) (c_X4_figureFits_3 q hT (i := i) hi) vf_X4_figureFits ml_X4_31 (by decide) (show 1 < 63 from by decide) rfl rfl rfl rfl rfl (Nat.le_of_ble_eq_true rfl) (gDec_at DX4_fits_0 37 rfl) (fun v_55 M_55 hq_55 => ?_)
          obtain ⟨rfl, hq⟩ := hq_55
          rcases hq with ⟨rfl, hg⟩ | ⟨rfl, hg⟩
          · skip
            refine g_if_eqN hC (by decide) (gDec_at DX4_fits_0 38 rfl) 65 (by decide) (fun h => absurd h (by decide)) (fun h => ?_)
            refine g_iconst hC (gDec_at DX4_fits_0 39 rfl) (v := nI 1) (by decide) ?_
            refine g_goto hC (gDec_at DX4_fits_0 40 rfl) 66 (by decide) ?_
            refine g_zret hC (Or.inr rfl) (gDec_at DX4_fits_0 42 rfl) ?_
            exact ⟨rfl, Or.inl ⟨rfl, fit_b (by omega) (by omega) (by omega) e hg⟩⟩
          · skip
            refine g_if_eqN hC (by decide) (gDec_at DX4_fits_0 38 rfl) 65 (by decide) (fun h => ?_) (fun h => absurd h (by decide))
            refine g_iconst hC (gDec_at DX4_fits_0 41 rfl) (v := nI 0) (by decide) ?_
            refine g_zret hC (Or.inl rfl) (gDec_at DX4_fits_0 42 rfl) ?_
            exact ⟨rfl, Or.inr ⟨rfl, fit_bn (by omega) (by omega) (by omega) e hg⟩⟩
  · skip
    refine g_iload_n hC (gDec_at DX4_fits_0 6 rfl) rfl ?_
    refine g_bipush hC (gDec_at DX4_fits_0 7 rfl) (v := nI 24) (by decide) ?_
    refine g_icmp_geN hC (by omega) (by omega) (gDec_at DX4_fits_0 8 rfl) 32 (by decide) (fun h14 => ?_) (fun h14 => ?_)
    · skip
      refine g_iconst hC (gDec_at DX4_fits_0 18 rfl) (v := nI 0) (by decide) ?_
      refine g_zret hC (Or.inl rfl) (gDec_at DX4_fits_0 19 rfl) ?_
      exact ⟨rfl, Or.inr ⟨rfl, fit_a24 (by omega) (by omega)⟩⟩
    · skip
      refine g_aload_n hC (gDec_at DX4_fits_0 9 rfl) rfl ?_
      refine g_iload_n hC (gDec_at DX4_fits_0 10 rfl) rfl ?_
      refine g_iload_n hC (gDec_at DX4_fits_0 11 rfl) rfl ?_
      refine g_iconst hC (gDec_at DX4_fits_0 12 rfl) (v := nI 4) (by decide) ?_
      refine g_iremN hC (by omega) (by omega) (by omega) (gDec_at DX4_fits_0 13 rfl) ?_
      rcases (show i % 4 = 0 ∨ i % 4 = 1 ∨ i % 4 = 2 ∨ i % 4 = 3 by omega) with e | e | e | e
      · skip
        refine g_st (st' := [.int (nI 0), .int (nI i), .ref (q.2.2 1)]) (by rw [e]) ?_
        refine g_callV (w := wC q) hC (i := 1) (c_X4_figureFits_0 q hT (i := i) hi) vf_X4_figureFits ml_X4_31 (by decide) (show 1 < 63 from by decide) rfl rfl rfl rfl rfl (Nat.le_of_ble_eq_true rfl) (gDec_at DX4_fits_0 14 rfl) (fun v_22 M_22 hq_22 => ?_)
        obtain ⟨rfl, hq⟩ := hq_22
        rcases hq with ⟨rfl, hg⟩ | ⟨rfl, hg⟩
        · skip
          refine g_if_eqN hC (by decide) (gDec_at DX4_fits_0 15 rfl) 32 (by decide) (fun h => absurd h (by decide)) (fun h => ?_)
          refine g_iconst hC (gDec_at DX4_fits_0 16 rfl) (v := nI 1) (by decide) ?_
          refine g_goto hC (gDec_at DX4_fits_0 17 rfl) 33 (by decide) ?_
          refine g_zret hC (Or.inr rfl) (gDec_at DX4_fits_0 19 rfl) ?_
          exact ⟨rfl, Or.inl ⟨rfl, fit_a (by omega) (by omega) e hg⟩⟩
        · skip
          refine g_if_eqN hC (by decide) (gDec_at DX4_fits_0 15 rfl) 32 (by decide) (fun h => ?_) (fun h => absurd h (by decide))
          refine g_iconst hC (gDec_at DX4_fits_0 18 rfl) (v := nI 0) (by decide) ?_
          refine g_zret hC (Or.inl rfl) (gDec_at DX4_fits_0 19 rfl) ?_
          exact ⟨rfl, Or.inr ⟨rfl, fit_an (by omega) e hg⟩⟩
      · skip
        refine g_st (st' := [.int (nI 1), .int (nI i), .ref (q.2.2 1)]) (by rw [e]) ?_
        refine g_callV (w := wC q) hC (i := 1) (c_X4_figureFits_1 q hT (i := i) hi) vf_X4_figureFits ml_X4_31 (by decide) (show 1 < 63 from by decide) rfl rfl rfl rfl rfl (Nat.le_of_ble_eq_true rfl) (gDec_at DX4_fits_0 14 rfl) (fun v_22 M_22 hq_22 => ?_)
        obtain ⟨rfl, hq⟩ := hq_22
        rcases hq with ⟨rfl, hg⟩ | ⟨rfl, hg⟩
        · skip
          refine g_if_eqN hC (by decide) (gDec_at DX4_fits_0 15 rfl) 32 (by decide) (fun h => absurd h (by decide)) (fun h => ?_)
          refine g_iconst hC (gDec_at DX4_fits_0 16 rfl) (v := nI 1) (by decide) ?_
          refine g_goto hC (gDec_at DX4_fits_0 17 rfl) 33 (by decide) ?_
          refine g_zret hC (Or.inr rfl) (gDec_at DX4_fits_0 19 rfl) ?_
          exact ⟨rfl, Or.inl ⟨rfl, fit_a (by omega) (by omega) e hg⟩⟩
        · skip
          refine g_if_eqN hC (by decide) (gDec_at DX4_fits_0 15 rfl) 32 (by decide) (fun h => ?_) (fun h => absurd h (by decide))
          refine g_iconst hC (gDec_at DX4_fits_0 18 rfl) (v := nI 0) (by decide) ?_
          refine g_zret hC (Or.inl rfl) (gDec_at DX4_fits_0 19 rfl) ?_
          exact ⟨rfl, Or.inr ⟨rfl, fit_an (by omega) e hg⟩⟩
      · skip
        refine g_st (st' := [.int (nI 2), .int (nI i), .ref (q.2.2 1)]) (by rw [e]) ?_
        refine g_callV (w := wC q) hC (i := 1) (c_X4_figureFits_2 q hT (i := i) hi (by omega)) vf_X4_figureFits ml_X4_31 (by decide) (show 1 < 63 from by decide) rfl rfl rfl rfl rfl (Nat.le_of_ble_eq_true rfl) (gDec_at DX4_fits_0 14 rfl) (fun v_22 M_22 hq_22 => ?_)
        obtain ⟨rfl, hq⟩ := hq_22
        rcases hq with ⟨rfl, hg⟩ | ⟨rfl, hg⟩
        · skip
          refine g_if_eqN hC (by decide) (gDec_at DX4_fits_0 15 rfl) 32 (by decide) (fun h => absurd h (by decide)) (fun h => ?_)
          refine g_iconst hC (gDec_at DX4_fits_0 16 rfl) (v := nI 1) (by decide) ?_
          refine g_goto hC (gDec_at DX4_fits_0 17 rfl) 33 (by decide) ?_
          refine g_zret hC (Or.inr rfl) (gDec_at DX4_fits_0 19 rfl) ?_
          exact ⟨rfl, Or.inl ⟨rfl, fit_a (by omega) (by omega) e hg⟩⟩
        · skip
          refine g_if_eqN hC (by decide) (gDec_at DX4_fits_0 15 rfl) 32 (by decide) (fun h => ?_) (fun h => absurd h (by decide))
          refine g_iconst hC (gDec_at DX4_fits_0 18 rfl) (v := nI 0) (by decide) ?_
          refine g_zret hC (Or.inl rfl) (gDec_at DX4_fits_0 19 rfl) ?_
          exact ⟨rfl, Or.inr ⟨rfl, fit_an (by omega) e hg⟩⟩
      · skip
        refine g_st (st' := [.int (nI 3), .int (nI i), .ref (q.2.2 1)]) (by rw [e]) ?_
        refine g_callV (w := wC q) hC (i := 1) (c_X4_figureFits_3 q hT (i := i) hi) vf_X4_figureFits ml_X4_31 (by decide) (show 1 < 63 from by decide) rfl rfl rfl rfl rfl (Nat.le_of_ble_eq_true rfl) (gDec_at DX4_fits_0 14 rfl) (fun v_22 M_22 hq_22 => ?_)
        obtain ⟨rfl, hq⟩ := hq_22
        rcases hq with ⟨rfl, hg⟩ | ⟨rfl, hg⟩
        · skip
          refine g_if_eqN hC (by decide) (gDec_at DX4_fits_0 15 rfl) 32 (by decide) (fun h => absurd h (by decide)) (fun h => ?_)
          refine g_iconst hC (gDec_at DX4_fits_0 16 rfl) (v := nI 1) (by decide) ?_
          refine g_goto hC (gDec_at DX4_fits_0 17 rfl) 33 (by decide) ?_
          refine g_zret hC (Or.inr rfl) (gDec_at DX4_fits_0 19 rfl) ?_
          exact ⟨rfl, Or.inl ⟨rfl, fit_a (by omega) (by omega) e hg⟩⟩
        · skip
          refine g_if_eqN hC (by decide) (gDec_at DX4_fits_0 15 rfl) 32 (by decide) (fun h => ?_) (fun h => absurd h (by decide))
          refine g_iconst hC (gDec_at DX4_fits_0 18 rfl) (v := nI 0) (by decide) ?_
          refine g_zret hC (Or.inl rfl) (gDec_at DX4_fits_0 19 rfl) ?_
          exact ⟨rfl, Or.inr ⟨rfl, fit_an (by omega) e hg⟩⟩

set_option maxRecDepth 100000 in
set_option maxHeartbeats 4000000 in
theorem c_X4_firstFault_no_at (q : gQ3) {M : gM} {tl : Nat} {tb : Nat → Nat} (hT : cT M tl tb) {sl : Nat} (h0 : sl = 0) (hs : ∀ n, 1 ≤ n → n ≤ 6 → ¬ (4 * n < tl ∧ tb (4 * n) = 47)) {k : Nat} (hkt : k < tl) (hk : ¬ sfit tb sl k) (hall : ∀ i, i < k → sfit tb sl i) : gCt (wC q) yX4_firstFault cX4_firstFault 3 (some .int) 4 [.ref (q.2.2 1)] M (gR (some (.int (nI k))) M) := by
  refine gMet RX4 (by decide +kernel) rfl (Nat.le_of_ble_eq_true rfl) (fun X hC => ?_)
  have hC : gC X (wC q) cX4_firstFault 3 RX4 (some .int) 4 := hC
  show gG X (wC q) _ 3 M 0 [(0, .ref (q.2.2 1))] []
  have ht := hT.2.1
  refine g_aload_n hC (gDec_at DX4_firstFault_0 0 rfl) rfl ?_
  refine g_callVd (w := wC q) hC 1 (c_X4_slashAt_no q hT hs) vf_X4_slashAt ml_X4_23 (by decide) (show 1 < 63 from by decide) rfl rfl rfl rfl rfl (Nat.le_of_ble_eq_true rfl) (gDec_at DX4_firstFault_0 1 rfl) ?_
  refine g_istore_n hC (gDec_at DX4_firstFault_0 2 rfl) (by decide) (L' := [(1, .int (-9)), (0, .ref (q.2.2 1))]) rfl ?_
  refine g_iconst hC (gDec_at DX4_firstFault_0 3 rfl) (v := nI 0) (by decide) ?_
  refine g_istore_n hC (gDec_at DX4_firstFault_0 4 rfl) (by decide) (L' := [(2, .int (nI 0)), (1, .int (-9)), (0, .ref (q.2.2 1))]) rfl ?_
  have loop7 : ∀ (fu i : Nat), i ≤ k → k - i < fu → gG X (wC q) (gR (some (.int (nI k))) M) 3 M 7 [(0, .ref (q.2.2 1)), (1, .int (-9)), (2, .int (nI i))] [] := by
    intro fu; induction fu with
    | zero => intro i h1 h2; omega
    | succ fu ih =>
      intro i hi hfu 
      refine g_iload_n hC (gDec_at DX4_firstFault_0 5 rfl) rfl ?_
      refine g_aload_n hC (gDec_at DX4_firstFault_0 6 rfl) rfl ?_
      refine g_get (w := wC q) hC 1 (v := .int (nI tl)) fl_X4_15 (show 1 < 63 from by decide) rfl (g_sv hT.1) (gDec_at DX4_firstFault_0 7 rfl) ?_
      refine g_icmp_geN hC (by omega) (by omega) (gDec_at DX4_firstFault_0 8 rfl) 32 (by decide) (fun h12 => ?_) (fun h12 => ?_)
      · skip
        exact absurd h12 (by omega)
      · skip
        refine g_aload_n hC (gDec_at DX4_firstFault_0 9 rfl) rfl ?_
        refine g_iload_n hC (gDec_at DX4_firstFault_0 10 rfl) rfl ?_
        refine g_iload_n hC (gDec_at DX4_firstFault_0 11 rfl) rfl ?_
        refine g_callV (w := wC q) hC (i := 1) (c_X4_fits_no q hT (i := i) (sl := sl) (by omega) h0) vf_X4_fits ml_X4_27 (by decide) (show 1 < 63 from by decide) rfl rfl rfl rfl rfl (Nat.le_of_ble_eq_true rfl) (gDec_at DX4_firstFault_0 12 rfl) (fun v_18 M_18 hq_18 => ?_)
        obtain ⟨rfl, hq⟩ := hq_18
        rcases hq with ⟨rfl, hg⟩ | ⟨rfl, hg⟩
        · skip
          have hlt : i < k := by rcases Nat.lt_or_ge i k with z | z; exact z; exact absurd (by rw [show k = i by omega]; exact hg) hk
          refine g_if_neN hC (by decide) (gDec_at DX4_firstFault_0 13 rfl) 26 (by decide) (fun h => ?_) (fun h => absurd h (by decide))
          refine g_iincN hC (gDec_at DX4_firstFault_0 16 rfl) rfl (by decide) (L' := [(2, .int (nI (i + 1))), (0, .ref (q.2.2 1)), (1, .int (-9))]) rfl ?_
          refine g_goto hC (gDec_at DX4_firstFault_0 17 rfl) 7 (by decide) ?_
          refine g_sub [1, 2, 0] (L' := [(0, .ref (q.2.2 1)), (1, .int (-9)), (2, .int (nI (i + 1)))]) rfl ?_
          have h9 := ih (i + 1) (by omega) (by omega)
          exact h9
        · skip
          obtain rfl : i = k := by rcases Nat.lt_or_ge i k with z | z; exact absurd (hall i z) hg; omega
          refine g_if_neN hC (by decide) (gDec_at DX4_firstFault_0 13 rfl) 26 (by decide) (fun h => absurd h (by decide)) (fun h => ?_)
          refine g_iload_n hC (gDec_at DX4_firstFault_0 14 rfl) rfl ?_
          refine g_iret hC (gDec_at DX4_firstFault_0 15 rfl) ?_
          exact ⟨rfl, rfl⟩
  exact g_sub [2, 1, 0] rfl (loop7 (k + 1 - 0) 0 (by omega) (by omega))

set_option maxRecDepth 100000 in
set_option maxHeartbeats 4000000 in
theorem c_X4_firstFault_no (q : gQ3) {M : gM} {tl : Nat} {tb : Nat → Nat} (hT : cT M tl tb) {sl : Nat} (h0 : sl = 0) (hs : ∀ n, 1 ≤ n → n ≤ 6 → ¬ (4 * n < tl ∧ tb (4 * n) = 47)) (hall : ∀ i, i < tl → sfit tb sl i) : gCt (wC q) yX4_firstFault cX4_firstFault 3 (some .int) 4 [.ref (q.2.2 1)] M (gR (some (.int (nI tl))) M) := by
  refine gMet RX4 (by decide +kernel) rfl (Nat.le_of_ble_eq_true rfl) (fun X hC => ?_)
  have hC : gC X (wC q) cX4_firstFault 3 RX4 (some .int) 4 := hC
  show gG X (wC q) _ 3 M 0 [(0, .ref (q.2.2 1))] []
  have ht := hT.2.1
  refine g_aload_n hC (gDec_at DX4_firstFault_0 0 rfl) rfl ?_
  refine g_callVd (w := wC q) hC 1 (c_X4_slashAt_no q hT hs) vf_X4_slashAt ml_X4_23 (by decide) (show 1 < 63 from by decide) rfl rfl rfl rfl rfl (Nat.le_of_ble_eq_true rfl) (gDec_at DX4_firstFault_0 1 rfl) ?_
  refine g_istore_n hC (gDec_at DX4_firstFault_0 2 rfl) (by decide) (L' := [(1, .int (-9)), (0, .ref (q.2.2 1))]) rfl ?_
  refine g_iconst hC (gDec_at DX4_firstFault_0 3 rfl) (v := nI 0) (by decide) ?_
  refine g_istore_n hC (gDec_at DX4_firstFault_0 4 rfl) (by decide) (L' := [(2, .int (nI 0)), (1, .int (-9)), (0, .ref (q.2.2 1))]) rfl ?_
  have loop7 : ∀ (fu i : Nat), i ≤ tl → tl - i < fu → gG X (wC q) (gR (some (.int (nI tl))) M) 3 M 7 [(0, .ref (q.2.2 1)), (1, .int (-9)), (2, .int (nI i))] [] := by
    intro fu; induction fu with
    | zero => intro i h1 h2; omega
    | succ fu ih =>
      intro i hi hfu 
      refine g_iload_n hC (gDec_at DX4_firstFault_0 5 rfl) rfl ?_
      refine g_aload_n hC (gDec_at DX4_firstFault_0 6 rfl) rfl ?_
      refine g_get (w := wC q) hC 1 (v := .int (nI tl)) fl_X4_15 (show 1 < 63 from by decide) rfl (g_sv hT.1) (gDec_at DX4_firstFault_0 7 rfl) ?_
      refine g_icmp_geN hC (by omega) (by omega) (gDec_at DX4_firstFault_0 8 rfl) 32 (by decide) (fun h12 => ?_) (fun h12 => ?_)
      · skip
        skip
        refine g_iload_n hC (gDec_at DX4_firstFault_0 18 rfl) rfl ?_
        refine g_bipush hC (gDec_at DX4_firstFault_0 19 rfl) (v := -9) (by decide) ?_
        refine g_icmp_eq hC (gDec_at DX4_firstFault_0 20 rfl) 55 (by decide) (fun h => ?_) (fun h => absurd rfl h)
        refine g_aload_n hC (gDec_at DX4_firstFault_0 31 rfl) rfl ?_
        refine g_get (w := wC q) hC 1 (v := .int (nI tl)) fl_X4_15 (show 1 < 63 from by decide) rfl (g_sv hT.1) (gDec_at DX4_firstFault_0 32 rfl) ?_
        refine g_iret hC (gDec_at DX4_firstFault_0 33 rfl) ?_
        exact ⟨rfl, rfl⟩
      · skip
        refine g_aload_n hC (gDec_at DX4_firstFault_0 9 rfl) rfl ?_
        refine g_iload_n hC (gDec_at DX4_firstFault_0 10 rfl) rfl ?_
        refine g_iload_n hC (gDec_at DX4_firstFault_0 11 rfl) rfl ?_
        refine g_callV (w := wC q) hC (i := 1) (c_X4_fits_no q hT (i := i) (sl := sl) (by omega) h0) vf_X4_fits ml_X4_27 (by decide) (show 1 < 63 from by decide) rfl rfl rfl rfl rfl (Nat.le_of_ble_eq_true rfl) (gDec_at DX4_firstFault_0 12 rfl) (fun v_18 M_18 hq_18 => ?_)
        obtain ⟨rfl, hq⟩ := hq_18
        rcases hq with ⟨rfl, hg⟩ | ⟨rfl, hg⟩
        · skip
          refine g_if_neN hC (by decide) (gDec_at DX4_firstFault_0 13 rfl) 26 (by decide) (fun h => ?_) (fun h => absurd h (by decide))
          refine g_iincN hC (gDec_at DX4_firstFault_0 16 rfl) rfl (by decide) (L' := [(2, .int (nI (i + 1))), (0, .ref (q.2.2 1)), (1, .int (-9))]) rfl ?_
          refine g_goto hC (gDec_at DX4_firstFault_0 17 rfl) 7 (by decide) ?_
          refine g_sub [1, 2, 0] (L' := [(0, .ref (q.2.2 1)), (1, .int (-9)), (2, .int (nI (i + 1)))]) rfl ?_
          have h9 := ih (i + 1) (by omega) (by omega)
          exact h9
        · skip
          exact absurd (hall i (by omega)) hg
  exact g_sub [2, 1, 0] rfl (loop7 (tl + 1 - 0) 0 (by omega) (by omega))

set_option maxRecDepth 100000 in
set_option maxHeartbeats 4000000 in
theorem c_X4_firstFault_at (q : gQ3) {M : gM} {tl : Nat} {tb : Nat → Nat} (hT : cT M tl tb) {sl : Nat} (h0 : 1 ≤ sl) (h6 : sl ≤ 6) (hs : 4 * sl < tl ∧ tb (4 * sl) = 47) (hmin : ∀ n, 1 ≤ n → n < sl → ¬ (4 * n < tl ∧ tb (4 * n) = 47)) {k : Nat} (hkt : k < tl) (hk : ¬ sfit tb sl k) (hall : ∀ i, i < k → sfit tb sl i) : gCt (wC q) yX4_firstFault cX4_firstFault 3 (some .int) 4 [.ref (q.2.2 1)] M (gR (some (.int (nI k))) M) := by
  refine gMet RX4 (by decide +kernel) rfl (Nat.le_of_ble_eq_true rfl) (fun X hC => ?_)
  have hC : gC X (wC q) cX4_firstFault 3 RX4 (some .int) 4 := hC
  show gG X (wC q) _ 3 M 0 [(0, .ref (q.2.2 1))] []
  have ht := hT.2.1
  refine g_aload_n hC (gDec_at DX4_firstFault_0 0 rfl) rfl ?_
  refine g_callVd (w := wC q) hC 1 (c_X4_slashAt q hT h0 h6 hs hmin) vf_X4_slashAt ml_X4_23 (by decide) (show 1 < 63 from by decide) rfl rfl rfl rfl rfl (Nat.le_of_ble_eq_true rfl) (gDec_at DX4_firstFault_0 1 rfl) ?_
  refine g_istore_n hC (gDec_at DX4_firstFault_0 2 rfl) (by decide) (L' := [(1, .int (nI (4 * sl))), (0, .ref (q.2.2 1))]) rfl ?_
  refine g_iconst hC (gDec_at DX4_firstFault_0 3 rfl) (v := nI 0) (by decide) ?_
  refine g_istore_n hC (gDec_at DX4_firstFault_0 4 rfl) (by decide) (L' := [(2, .int (nI 0)), (1, .int (nI (4 * sl))), (0, .ref (q.2.2 1))]) rfl ?_
  have loop7 : ∀ (fu i : Nat), i ≤ k → k - i < fu → gG X (wC q) (gR (some (.int (nI k))) M) 3 M 7 [(0, .ref (q.2.2 1)), (1, .int (nI (4 * sl))), (2, .int (nI i))] [] := by
    intro fu; induction fu with
    | zero => intro i h1 h2; omega
    | succ fu ih =>
      intro i hi hfu 
      refine g_iload_n hC (gDec_at DX4_firstFault_0 5 rfl) rfl ?_
      refine g_aload_n hC (gDec_at DX4_firstFault_0 6 rfl) rfl ?_
      refine g_get (w := wC q) hC 1 (v := .int (nI tl)) fl_X4_15 (show 1 < 63 from by decide) rfl (g_sv hT.1) (gDec_at DX4_firstFault_0 7 rfl) ?_
      refine g_icmp_geN hC (by omega) (by omega) (gDec_at DX4_firstFault_0 8 rfl) 32 (by decide) (fun h12 => ?_) (fun h12 => ?_)
      · skip
        exact absurd h12 (by omega)
      · skip
        refine g_aload_n hC (gDec_at DX4_firstFault_0 9 rfl) rfl ?_
        refine g_iload_n hC (gDec_at DX4_firstFault_0 10 rfl) rfl ?_
        refine g_iload_n hC (gDec_at DX4_firstFault_0 11 rfl) rfl ?_
        refine g_callV (w := wC q) hC (i := 1) (c_X4_fits q hT (i := i) (sl := sl) (by omega) h0 h6) vf_X4_fits ml_X4_27 (by decide) (show 1 < 63 from by decide) rfl rfl rfl rfl rfl (Nat.le_of_ble_eq_true rfl) (gDec_at DX4_firstFault_0 12 rfl) (fun v_18 M_18 hq_18 => ?_)
        obtain ⟨rfl, hq⟩ := hq_18
        rcases hq with ⟨rfl, hg⟩ | ⟨rfl, hg⟩
        · skip
          have hlt : i < k := by rcases Nat.lt_or_ge i k with z | z; exact z; exact absurd (by rw [show k = i by omega]; exact hg) hk
          refine g_if_neN hC (by decide) (gDec_at DX4_firstFault_0 13 rfl) 26 (by decide) (fun h => ?_) (fun h => absurd h (by decide))
          refine g_iincN hC (gDec_at DX4_firstFault_0 16 rfl) rfl (by decide) (L' := [(2, .int (nI (i + 1))), (0, .ref (q.2.2 1)), (1, .int (nI (4 * sl)))]) rfl ?_
          refine g_goto hC (gDec_at DX4_firstFault_0 17 rfl) 7 (by decide) ?_
          refine g_sub [1, 2, 0] (L' := [(0, .ref (q.2.2 1)), (1, .int (nI (4 * sl))), (2, .int (nI (i + 1)))]) rfl ?_
          have h9 := ih (i + 1) (by omega) (by omega)
          exact h9
        · skip
          obtain rfl : i = k := by rcases Nat.lt_or_ge i k with z | z; exact absurd (hall i z) hg; omega
          refine g_if_neN hC (by decide) (gDec_at DX4_firstFault_0 13 rfl) 26 (by decide) (fun h => absurd h (by decide)) (fun h => ?_)
          refine g_iload_n hC (gDec_at DX4_firstFault_0 14 rfl) rfl ?_
          refine g_iret hC (gDec_at DX4_firstFault_0 15 rfl) ?_
          exact ⟨rfl, rfl⟩
  exact g_sub [2, 1, 0] rfl (loop7 (k + 1 - 0) 0 (by omega) (by omega))

set_option maxRecDepth 100000 in
set_option maxHeartbeats 4000000 in
theorem c_X4_firstFault_good (q : gQ3) {M : gM} {tl : Nat} {tb : Nat → Nat} (hT : cT M tl tb) {sl : Nat} (h0 : 1 ≤ sl) (h6 : sl ≤ 6) (hs : 4 * sl < tl ∧ tb (4 * sl) = 47) (hmin : ∀ n, 1 ≤ n → n < sl → ¬ (4 * n < tl ∧ tb (4 * n) = 47)) (hall : ∀ i, i < tl → sfit tb sl i) (htl : tl = 8 * sl + 1) : gCt (wC q) yX4_firstFault cX4_firstFault 3 (some .int) 4 [.ref (q.2.2 1)] M (gR (some (.int (-9))) M) := by
  refine gMet RX4 (by decide +kernel) rfl (Nat.le_of_ble_eq_true rfl) (fun X hC => ?_)
  have hC : gC X (wC q) cX4_firstFault 3 RX4 (some .int) 4 := hC
  show gG X (wC q) _ 3 M 0 [(0, .ref (q.2.2 1))] []
  have ht := hT.2.1
  refine g_aload_n hC (gDec_at DX4_firstFault_0 0 rfl) rfl ?_
  refine g_callVd (w := wC q) hC 1 (c_X4_slashAt q hT h0 h6 hs hmin) vf_X4_slashAt ml_X4_23 (by decide) (show 1 < 63 from by decide) rfl rfl rfl rfl rfl (Nat.le_of_ble_eq_true rfl) (gDec_at DX4_firstFault_0 1 rfl) ?_
  refine g_istore_n hC (gDec_at DX4_firstFault_0 2 rfl) (by decide) (L' := [(1, .int (nI (4 * sl))), (0, .ref (q.2.2 1))]) rfl ?_
  refine g_iconst hC (gDec_at DX4_firstFault_0 3 rfl) (v := nI 0) (by decide) ?_
  refine g_istore_n hC (gDec_at DX4_firstFault_0 4 rfl) (by decide) (L' := [(2, .int (nI 0)), (1, .int (nI (4 * sl))), (0, .ref (q.2.2 1))]) rfl ?_
  have loop7 : ∀ (fu i : Nat), i ≤ tl → tl - i < fu → gG X (wC q) (gR (some (.int (-9))) M) 3 M 7 [(0, .ref (q.2.2 1)), (1, .int (nI (4 * sl))), (2, .int (nI i))] [] := by
    intro fu; induction fu with
    | zero => intro i h1 h2; omega
    | succ fu ih =>
      intro i hi hfu 
      refine g_iload_n hC (gDec_at DX4_firstFault_0 5 rfl) rfl ?_
      refine g_aload_n hC (gDec_at DX4_firstFault_0 6 rfl) rfl ?_
      refine g_get (w := wC q) hC 1 (v := .int (nI tl)) fl_X4_15 (show 1 < 63 from by decide) rfl (g_sv hT.1) (gDec_at DX4_firstFault_0 7 rfl) ?_
      refine g_icmp_geN hC (by omega) (by omega) (gDec_at DX4_firstFault_0 8 rfl) 32 (by decide) (fun h12 => ?_) (fun h12 => ?_)
      · skip
        skip
        refine g_iload_n hC (gDec_at DX4_firstFault_0 18 rfl) rfl ?_
        refine g_bipush hC (gDec_at DX4_firstFault_0 19 rfl) (v := -9) (by decide) ?_
        refine g_icmp_eq hC (gDec_at DX4_firstFault_0 20 rfl) 55 (by decide) (fun h => absurd h (nI_n9 (by omega))) (fun h => ?_)
        refine g_aload_n hC (gDec_at DX4_firstFault_0 21 rfl) rfl ?_
        refine g_get (w := wC q) hC 1 (v := .int (nI tl)) fl_X4_15 (show 1 < 63 from by decide) rfl (g_sv hT.1) (gDec_at DX4_firstFault_0 22 rfl) ?_
        refine g_iconst hC (gDec_at DX4_firstFault_0 23 rfl) (v := nI 2) (by decide) ?_
        refine g_iload_n hC (gDec_at DX4_firstFault_0 24 rfl) rfl ?_
        refine g_imulN hC (gDec_at DX4_firstFault_0 25 rfl) ?_
        refine g_iconst hC (gDec_at DX4_firstFault_0 26 rfl) (v := nI 1) (by decide) ?_
        refine g_iaddN hC (gDec_at DX4_firstFault_0 27 rfl) ?_
        refine g_icmp_neN hC (by omega) (by omega) (gDec_at DX4_firstFault_0 28 rfl) 55 (by decide) (fun h47 => ?_) (fun h47 => ?_)
        · skip
          exact absurd h47 (by omega)
        · skip
          refine g_bipush hC (gDec_at DX4_firstFault_0 29 rfl) (v := -9) (by decide) ?_
          refine g_goto hC (gDec_at DX4_firstFault_0 30 rfl) 59 (by decide) ?_
          refine g_iret hC (gDec_at DX4_firstFault_0 33 rfl) ?_
          exact ⟨rfl, rfl⟩
      · skip
        refine g_aload_n hC (gDec_at DX4_firstFault_0 9 rfl) rfl ?_
        refine g_iload_n hC (gDec_at DX4_firstFault_0 10 rfl) rfl ?_
        refine g_iload_n hC (gDec_at DX4_firstFault_0 11 rfl) rfl ?_
        refine g_callV (w := wC q) hC (i := 1) (c_X4_fits q hT (i := i) (sl := sl) (by omega) h0 h6) vf_X4_fits ml_X4_27 (by decide) (show 1 < 63 from by decide) rfl rfl rfl rfl rfl (Nat.le_of_ble_eq_true rfl) (gDec_at DX4_firstFault_0 12 rfl) (fun v_18 M_18 hq_18 => ?_)
        obtain ⟨rfl, hq⟩ := hq_18
        rcases hq with ⟨rfl, hg⟩ | ⟨rfl, hg⟩
        · skip
          refine g_if_neN hC (by decide) (gDec_at DX4_firstFault_0 13 rfl) 26 (by decide) (fun h => ?_) (fun h => absurd h (by decide))
          refine g_iincN hC (gDec_at DX4_firstFault_0 16 rfl) rfl (by decide) (L' := [(2, .int (nI (i + 1))), (0, .ref (q.2.2 1)), (1, .int (nI (4 * sl)))]) rfl ?_
          refine g_goto hC (gDec_at DX4_firstFault_0 17 rfl) 7 (by decide) ?_
          refine g_sub [1, 2, 0] (L' := [(0, .ref (q.2.2 1)), (1, .int (nI (4 * sl))), (2, .int (nI (i + 1)))]) rfl ?_
          have h9 := ih (i + 1) (by omega) (by omega)
          exact h9
        · skip
          exact absurd (hall i (by omega)) hg
  exact g_sub [2, 1, 0] rfl (loop7 (tl + 1 - 0) 0 (by omega) (by omega))

set_option maxRecDepth 100000 in
set_option maxHeartbeats 4000000 in
theorem c_X4_firstFault_short (q : gQ3) {M : gM} {tl : Nat} {tb : Nat → Nat} (hT : cT M tl tb) {sl : Nat} (h0 : 1 ≤ sl) (h6 : sl ≤ 6) (hs : 4 * sl < tl ∧ tb (4 * sl) = 47) (hmin : ∀ n, 1 ≤ n → n < sl → ¬ (4 * n < tl ∧ tb (4 * n) = 47)) (hall : ∀ i, i < tl → sfit tb sl i) (htl : ¬ tl = 8 * sl + 1) : gCt (wC q) yX4_firstFault cX4_firstFault 3 (some .int) 4 [.ref (q.2.2 1)] M (gR (some (.int (nI tl))) M) := by
  refine gMet RX4 (by decide +kernel) rfl (Nat.le_of_ble_eq_true rfl) (fun X hC => ?_)
  have hC : gC X (wC q) cX4_firstFault 3 RX4 (some .int) 4 := hC
  show gG X (wC q) _ 3 M 0 [(0, .ref (q.2.2 1))] []
  have ht := hT.2.1
  refine g_aload_n hC (gDec_at DX4_firstFault_0 0 rfl) rfl ?_
  refine g_callVd (w := wC q) hC 1 (c_X4_slashAt q hT h0 h6 hs hmin) vf_X4_slashAt ml_X4_23 (by decide) (show 1 < 63 from by decide) rfl rfl rfl rfl rfl (Nat.le_of_ble_eq_true rfl) (gDec_at DX4_firstFault_0 1 rfl) ?_
  refine g_istore_n hC (gDec_at DX4_firstFault_0 2 rfl) (by decide) (L' := [(1, .int (nI (4 * sl))), (0, .ref (q.2.2 1))]) rfl ?_
  refine g_iconst hC (gDec_at DX4_firstFault_0 3 rfl) (v := nI 0) (by decide) ?_
  refine g_istore_n hC (gDec_at DX4_firstFault_0 4 rfl) (by decide) (L' := [(2, .int (nI 0)), (1, .int (nI (4 * sl))), (0, .ref (q.2.2 1))]) rfl ?_
  have loop7 : ∀ (fu i : Nat), i ≤ tl → tl - i < fu → gG X (wC q) (gR (some (.int (nI tl))) M) 3 M 7 [(0, .ref (q.2.2 1)), (1, .int (nI (4 * sl))), (2, .int (nI i))] [] := by
    intro fu; induction fu with
    | zero => intro i h1 h2; omega
    | succ fu ih =>
      intro i hi hfu 
      refine g_iload_n hC (gDec_at DX4_firstFault_0 5 rfl) rfl ?_
      refine g_aload_n hC (gDec_at DX4_firstFault_0 6 rfl) rfl ?_
      refine g_get (w := wC q) hC 1 (v := .int (nI tl)) fl_X4_15 (show 1 < 63 from by decide) rfl (g_sv hT.1) (gDec_at DX4_firstFault_0 7 rfl) ?_
      refine g_icmp_geN hC (by omega) (by omega) (gDec_at DX4_firstFault_0 8 rfl) 32 (by decide) (fun h12 => ?_) (fun h12 => ?_)
      · skip
        skip
        refine g_iload_n hC (gDec_at DX4_firstFault_0 18 rfl) rfl ?_
        refine g_bipush hC (gDec_at DX4_firstFault_0 19 rfl) (v := -9) (by decide) ?_
        refine g_icmp_eq hC (gDec_at DX4_firstFault_0 20 rfl) 55 (by decide) (fun h => absurd h (nI_n9 (by omega))) (fun h => ?_)
        refine g_aload_n hC (gDec_at DX4_firstFault_0 21 rfl) rfl ?_
        refine g_get (w := wC q) hC 1 (v := .int (nI tl)) fl_X4_15 (show 1 < 63 from by decide) rfl (g_sv hT.1) (gDec_at DX4_firstFault_0 22 rfl) ?_
        refine g_iconst hC (gDec_at DX4_firstFault_0 23 rfl) (v := nI 2) (by decide) ?_
        refine g_iload_n hC (gDec_at DX4_firstFault_0 24 rfl) rfl ?_
        refine g_imulN hC (gDec_at DX4_firstFault_0 25 rfl) ?_
        refine g_iconst hC (gDec_at DX4_firstFault_0 26 rfl) (v := nI 1) (by decide) ?_
        refine g_iaddN hC (gDec_at DX4_firstFault_0 27 rfl) ?_
        refine g_icmp_neN hC (by omega) (by omega) (gDec_at DX4_firstFault_0 28 rfl) 55 (by decide) (fun h47 => ?_) (fun h47 => ?_)
        · skip
          refine g_aload_n hC (gDec_at DX4_firstFault_0 31 rfl) rfl ?_
          refine g_get (w := wC q) hC 1 (v := .int (nI tl)) fl_X4_15 (show 1 < 63 from by decide) rfl (g_sv hT.1) (gDec_at DX4_firstFault_0 32 rfl) ?_
          refine g_iret hC (gDec_at DX4_firstFault_0 33 rfl) ?_
          exact ⟨rfl, rfl⟩
        · skip
          exact absurd h47 (by omega)
      · skip
        refine g_aload_n hC (gDec_at DX4_firstFault_0 9 rfl) rfl ?_
        refine g_iload_n hC (gDec_at DX4_firstFault_0 10 rfl) rfl ?_
        refine g_iload_n hC (gDec_at DX4_firstFault_0 11 rfl) rfl ?_
        refine g_callV (w := wC q) hC (i := 1) (c_X4_fits q hT (i := i) (sl := sl) (by omega) h0 h6) vf_X4_fits ml_X4_27 (by decide) (show 1 < 63 from by decide) rfl rfl rfl rfl rfl (Nat.le_of_ble_eq_true rfl) (gDec_at DX4_firstFault_0 12 rfl) (fun v_18 M_18 hq_18 => ?_)
        obtain ⟨rfl, hq⟩ := hq_18
        rcases hq with ⟨rfl, hg⟩ | ⟨rfl, hg⟩
        · skip
          refine g_if_neN hC (by decide) (gDec_at DX4_firstFault_0 13 rfl) 26 (by decide) (fun h => ?_) (fun h => absurd h (by decide))
          refine g_iincN hC (gDec_at DX4_firstFault_0 16 rfl) rfl (by decide) (L' := [(2, .int (nI (i + 1))), (0, .ref (q.2.2 1)), (1, .int (nI (4 * sl)))]) rfl ?_
          refine g_goto hC (gDec_at DX4_firstFault_0 17 rfl) 7 (by decide) ?_
          refine g_sub [1, 2, 0] (L' := [(0, .ref (q.2.2 1)), (1, .int (nI (4 * sl))), (2, .int (nI (i + 1)))]) rfl ?_
          have h9 := ih (i + 1) (by omega) (by omega)
          exact h9
        · skip
          exact absurd (hall i (by omega)) hg
  exact g_sub [2, 1, 0] rfl (loop7 (tl + 1 - 0) 0 (by omega) (by omega))
end
section
/-! A bow made anew, copied -/
set_option maxRecDepth 100000 in
set_option maxHeartbeats 4000000 in
theorem c_X4_figureAtN (q : gQ3) {M : gM} {tl : Nat} {tb : Nat → Nat} (hT : cT M tl tb) {i : Nat} (hi : i < tl) (h48 : 48 ≤ tb i) : gCt (wC q) yX4_figureAt cX4_figureAt 2 (some .int) 1 [.ref (q.2.2 1), .int (nI i)] M (gR (some (.int (nI (tb i - 48)))) M) := by
  refine gMet RX4 (by decide +kernel) rfl (Nat.le_of_ble_eq_true rfl) (fun X hC => ?_)
  have hC : gC X (wC q) cX4_figureAt 2 RX4 (some .int) 1 := hC
  show gG X (wC q) _ 2 M 0 [(0, .ref (q.2.2 1)), (1, .int (nI i))] []
  have ht := hT.2.1
  refine g_aload_n hC (gDec_at DX4_figureAt_0 0 rfl) rfl ?_
  refine g_iload_n hC (gDec_at DX4_figureAt_0 1 rfl) rfl ?_
  refine g_callVd (w := wC q) hC 1 (c_X4_signAt q hT (i := i) (by omega)) vf_X4_signAt ml_X4_19 (by decide) (show 1 < 63 from by decide) rfl rfl rfl rfl rfl (Nat.le_of_ble_eq_true rfl) (gDec_at DX4_figureAt_0 2 rfl) ?_
  refine g_st (st' := [.int (nI (tb i))]) (congrArg (fun z => [Value.int z]) (if_pos hi)) ?_
  refine g_bipush hC (gDec_at DX4_figureAt_0 3 rfl) (v := nI 48) (by decide) ?_
  refine g_isubN hC h48 (gDec_at DX4_figureAt_0 4 rfl) ?_
  refine g_iret hC (gDec_at DX4_figureAt_0 5 rfl) ?_
  exact ⟨rfl, rfl⟩

set_option maxRecDepth 100000 in
set_option maxHeartbeats 4000000 in
theorem c_X0_hasW (q : gQ3) {M : gM} {m j : Nat} (hm : M.1 9 2 = nI m) (h6 : m ≤ 6) (ha : M.1 (15 + j) 1 = nI (j % 6 + 1)) (hj : j < 12) : gCt (wC q) yX0_has cX0_has 2 (some .boolean) 0 [.ref (q.2.2 9), .ref (q.2.2 (15 + j))] M (gR (some (.int (gb (j % 6 < m)))) M) := by
  refine gMet RX0 (by decide +kernel) rfl (Nat.le_of_ble_eq_true rfl) (fun X hC => ?_)
  have hC : gC X (wC q) cX0_has 2 RX0 (some .boolean) 0 := hC
  show gG X (wC q) _ 2 M 0 [(0, .ref (q.2.2 9)), (1, .ref (q.2.2 (15 + j)))] []
  refine g_aload_n hC (gDec_at DX0_has_0 0 rfl) rfl ?_
  refine g_get (w := wC q) hC (15 + j) (v := .int (nI (j % 6 + 1))) fl_X0_49 (show 15 + j < 63 from by have := hj; omega) (cC_p0 q _ _ hj) (g_sv ha) (gDec_at DX0_has_0 1 rfl) ?_
  refine g_aload_n hC (gDec_at DX0_has_0 2 rfl) rfl ?_
  refine g_get (w := wC q) hC 9 (v := .int (nI m)) fl_X0_29 (show 9 < 63 from by decide) rfl (g_sv hm) (gDec_at DX0_has_0 3 rfl) ?_
  refine g_icmp_gtN hC (by omega) (by omega) (gDec_at DX0_has_0 4 rfl) 15 (by decide) (fun h8 => ?_) (fun h8 => ?_)
  · skip
    refine g_iconst hC (gDec_at DX0_has_0 7 rfl) (v := nI 0) (by decide) ?_
    refine g_zret hC (Or.inl rfl) (gDec_at DX0_has_0 8 rfl) ?_
    exact ⟨by rw [gb_f (show ¬ j % 6 < m by omega)]; rfl, rfl⟩
  · skip
    refine g_iconst hC (gDec_at DX0_has_0 5 rfl) (v := nI 1) (by decide) ?_
    refine g_goto hC (gDec_at DX0_has_0 6 rfl) 16 (by decide) ?_
    refine g_zret hC (Or.inr rfl) (gDec_at DX0_has_0 8 rfl) ?_
    exact ⟨by rw [gb_t (show j % 6 < m by omega)]; rfl, rfl⟩

theorem cT_same {P : Nat → Prop} {M M1 : gM} {tl : Nat} {tb : Nat → Nat} (h : cT M tl tb) (hs : sameO P M M1) (h1 : ¬ P 1) (h2 : ¬ P 2) : cT M1 tl tb := by
  unfold cT
  rw [hs 1 h1, hs 2 h2]
  exact h
/-- where a Place stands in the text -/
def pos (sl j : Nat) : Nat := j / 6 * (4 * sl + 1) + 4 * (j % 6 + 1 - 1)
def mkB (B : gB) (tb : Nat → Nat) (sl : Nat) : gB := fun r j => if r = 0 then tb (pos sl j) - 48 else if r = 1 then 10 * (tb (pos sl j + 1) - 48) + (tb (pos sl j + 2) - 48) else if r = 2 then tb (pos sl j + 3) - 48 else if r < 6 then 0 else if r = 9 then (if j = 0 then sl else 0) else B r j
theorem pos_lt {sl j : Nat} (hj : j < 12) (ht : j % 6 < sl) : pos sl j + 3 < 8 * sl + 1 ∧ ((j / 6 = 0 ∧ pos sl j = 4 * (j % 6)) ∨ (j / 6 = 1 ∧ pos sl j = 4 * sl + 1 + 4 * (j % 6))) := by
  unfold pos
  rcases (show j / 6 = 0 ∨ j / 6 = 1 by omega) with e | e <;> rw [e] <;> omega
theorem mk_dig {tb : Nat → Nat} {sl j : Nat} (hall : ∀ i, i < 8 * sl + 1 → sfit tb sl i) (hj : j < 12) (ht : j % 6 < sl) :
    (49 ≤ tb (pos sl j) ∧ tb (pos sl j) ≤ 57) ∧ (48 ≤ tb (pos sl j + 1) ∧ tb (pos sl j + 1) ≤ 52) ∧ (48 ≤ tb (pos sl j + 2) ∧ tb (pos sl j + 2) ≤ 57 ∧ 532 ≤ 10 * tb (pos sl j + 1) + tb (pos sl j + 2) ∧ 10 * tb (pos sl j + 1) + tb (pos sl j + 2) ≤ 568) ∧ (48 ≤ tb (pos sl j + 3) ∧ tb (pos sl j + 3) ≤ 50) := by
  obtain ⟨hp, hpc⟩ := pos_lt hj ht
  have F : ∀ w, w < 4 → ffit w (tb (pos sl j + w - 1)) (tb (pos sl j + w)) := by
    intro w hw
    rcases hall (pos sl j + w) (by omega) with ⟨h1, -, h3⟩ | ⟨h1, h2, h3⟩
    · rw [show (pos sl j + w) % 4 = w by omega] at h3
      exact h3
    · rcases h3 with h3 | ⟨h3, h4⟩
      · omega
      · rw [show (pos sl j + w - 4 * sl - 1) % 4 = w by omega] at h4
        exact h4
  have f0 := F 0 (by omega)
  have f1 := F 1 (by omega)
  have f2 := F 2 (by omega)
  have f3 := F 3 (by omega)
  unfold ffit at f0 f1 f2 f3
  rw [show pos sl j + 2 - 1 = pos sl j + 1 from rfl] at f2
  rw [Nat.add_zero] at f0
  omega
theorem mkB_V {B : gB} (hV : bV B) {tb : Nat → Nat} {sl : Nat} (h1 : 1 ≤ sl) (h6 : sl ≤ 6) (hall : ∀ i, i < 8 * sl + 1 → sfit tb sl i) : bV (mkB B tb sl) := by
  obtain ⟨-, -, -, h4, -⟩ := hV
  refine ⟨h1, h6, Nat.zero_le _, h4, fun j hj ht => ?_⟩
  have ht : j % 6 < sl := ht
  obtain ⟨d0, d1, d2, d3⟩ := mk_dig hall hj ht
  show (1 ≤ tb (pos sl j) - 48 ∧ tb (pos sl j) - 48 ≤ 9) ∧ (4 ≤ 10 * (tb (pos sl j + 1) - 48) + (tb (pos sl j + 2) - 48) ∧ 10 * (tb (pos sl j + 1) - 48) + (tb (pos sl j + 2) - 48) ≤ 40) ∧ tb (pos sl j + 3) - 48 ≤ 2 ∧ 0 ≤ 99 ∧ 0 ≤ 1 ∧ 0 ≤ 99
  omega
/-- a bow being made anew: its first i places stand -/
def mkI (M M1 : gM) (tb : Nat → Nat) (sl i : Nat) : Prop := bK M1 ∧ M1.1 9 2 = nI sl ∧ M1.1 9 3 = -9 ∧ (∀ k, k < 3 → M1.1 (12 + k) = M.1 (12 + k)) ∧ (∀ j, j < i → j % 6 < sl → M1.1 (15 + j) 3 = nI (tb (pos sl j) - 48) ∧ M1.1 (15 + j) 4 = nI (10 * (tb (pos sl j + 1) - 48) + (tb (pos sl j + 2) - 48)) ∧ M1.1 (15 + j) 5 = nI (tb (pos sl j + 3) - 48) ∧ M1.1 (15 + j) 6 = nI 0 ∧ M1.1 (15 + j) 8 = nI 0 ∧ M1.1 (15 + j) 7 = nI 0) ∧ sameO (fun i => 9 ≤ i ∧ i < 27) M M1
theorem mkI_end {M M1 : gM} {B : gB} (hI : cI M B) {tb : Nat → Nat} {sl : Nat} (h1 : 1 ≤ sl) (h6 : sl ≤ 6) (hall : ∀ i, i < 8 * sl + 1 → sfit tb sl i) (h : mkI M M1 tb sl 12) : cI M1 (mkB B tb sl) := by
  obtain ⟨a, b, c, d, e, -⟩ := h
  refine ⟨a, ⟨b, c, fun k hk => ?_, fun j hj ht => ?_⟩, mkB_V hI.2.2 h1 h6 hall⟩
  · have := hI.2.1.2.2.1 k hk
    rw [show 12 + 18 * 0 + k = 12 + k by omega, d k hk]
    exact this
  · have := e j hj ht
    rw [show 15 + 18 * 0 + j = 15 + j by omega]
    exact this
theorem mkI_k {M M1 : gM} {tb : Nat → Nat} {sl i : Nat} (h : mkI M M1 tb sl i) (ht : ¬ i % 6 < sl) : mkI M M1 tb sl (i + 1) := by
  obtain ⟨a, b, c, d, e, f⟩ := h
  exact ⟨a, b, c, d, fun j hj hs => e j (by rcases Nat.lt_succ_iff_lt_or_eq.mp hj with z | z; exact z; subst z; exact absurd hs ht) hs, f⟩
def pl6 (M : gM) (c : Nat) (x3 x4 x5 x6 x7 x8 : Int32) : gM := gupd (gupd (gupd (gupd (gupd (gupd M c 3 x3) c 4 x4) c 5 x5) c 6 x6) c 7 x7) c 8 x8
theorem pl6_get (M : gM) (c : Nat) (x3 x4 x5 x6 x7 x8 : Int32) (i k : Nat) : (pl6 M c x3 x4 x5 x6 x7 x8).1 i k = if i = c then (if k = 3 then x3 else if k = 4 then x4 else if k = 5 then x5 else if k = 6 then x6 else if k = 7 then x7 else if k = 8 then x8 else M.1 i k) else M.1 i k := by
  unfold pl6
  simp only [gupd_get]
  by_cases h : i = c
  · simp only [h, true_and, if_true]
    by_cases h8 : k = 8
    · subst h8; simp
    · by_cases h7 : k = 7
      · subst h7; simp
      · by_cases h6 : k = 6
        · subst h6; simp
        · by_cases h5 : k = 5
          · subst h5; simp
          · by_cases h4 : k = 4
            · subst h4; simp
            · simp [h8, h7, h6, h5, h4]
  · simp [h]
theorem pl6_ne (M : gM) {c : Nat} (x3 x4 x5 x6 x7 x8 : Int32) {i : Nat} (h : i ≠ c) : (pl6 M c x3 x4 x5 x6 x7 x8).1 i = M.1 i := by
  funext k; rw [pl6_get, if_neg h]
theorem mkI_s {M M1 : gM} {tb : Nat → Nat} {sl i : Nat} (h : mkI M M1 tb sl i) (hi : i < 12) : mkI M (pl6 M1 (15 + i) (nI (tb (pos sl i) - 48)) (nI (10 * (tb (pos sl i + 1) - 48) + (tb (pos sl i + 2) - 48))) (nI (tb (pos sl i + 3) - 48)) (nI 0) (nI 0) (nI 0)) tb sl (i + 1) := by
  obtain ⟨a, b, c, d, e, f⟩ := h
  refine ⟨fun b2 hb j hj => ?_, by rw [pl6_ne _ _ _ _ _ _ _ (by omega)]; exact b, by rw [pl6_ne _ _ _ _ _ _ _ (by omega)]; exact c, fun k hk => by rw [pl6_ne _ _ _ _ _ _ _ (by omega)]; exact d k hk, fun j hj hs => ?_, fun c hc => by rw [pl6_ne _ _ _ _ _ _ _ (fun z => hc (by omega))]; exact f c hc⟩
  · obtain ⟨p, q, r, s⟩ := a b2 hb j hj
    by_cases z : 15 + 18 * b2 + j = 15 + i
    · rw [z] at p q r s ⊢
      refine ⟨?_, ?_, ?_, ?_⟩ <;> rw [pl6_get] <;> simp [p, q, r]
      exact Or.inl rfl
    · rw [pl6_ne _ _ _ _ _ _ _ z]; exact ⟨p, q, r, s⟩
  · by_cases z : j = i
    · subst z
      refine ⟨?_, ?_, ?_, ?_, ?_, ?_⟩ <;> rw [pl6_get] <;> simp
    · rw [pl6_ne _ _ _ _ _ _ _ (by omega)]
      exact e j (by omega) hs
set_option maxRecDepth 100000 in
set_option maxHeartbeats 4000000 in
theorem c_X0_makeAnew (q : gQ3) {M : gM} {B : gB} (hI : cI M B) {tl : Nat} {tb : Nat → Nat} (hT : cT M tl tb) {sl : Nat} (h0 : 1 ≤ sl) (h6 : sl ≤ 6) (htl : tl = 8 * sl + 1) (hs : 4 * sl < tl ∧ tb (4 * sl) = 47) (hmin : ∀ n, 1 ≤ n → n < sl → ¬ (4 * n < tl ∧ tb (4 * n) = 47)) (hall : ∀ i, i < tl → sfit tb sl i) : gCt (wC q) yX0_makeAnew cX0_makeAnew 9 none 2 [.ref (q.2.2 9), .ref (q.2.2 1)] M (fun v M' => v = none ∧ cI M' (mkB B tb sl) ∧ sameO (fun i => 9 ≤ i ∧ i < 27) M M') := by
  refine gMet RX0 (by decide +kernel) rfl (Nat.le_of_ble_eq_true rfl) (fun X hC => ?_)
  have hC : gC X (wC q) cX0_makeAnew 9 RX0 none 2 := hC
  show gG X (wC q) _ 9 M 0 [(0, .ref (q.2.2 9)), (1, .ref (q.2.2 1))] []
  have ht := hT.2.1
  subst htl
  refine g_aload_n hC (gDec_at DX0_makeAnew_0 0 rfl) rfl ?_
  refine g_callVd (w := wC q) hC 1 (c_X4_slashAt q hT h0 h6 hs hmin) vf_X4_slashAt ml_X0_36 (by decide) (show 1 < 63 from by decide) rfl rfl rfl rfl rfl (Nat.le_of_ble_eq_true rfl) (gDec_at DX0_makeAnew_0 1 rfl) ?_
  refine g_istore_n hC (gDec_at DX0_makeAnew_0 2 rfl) (by decide) (L' := [(2, .int (nI (4 * sl))), (0, .ref (q.2.2 9)), (1, .ref (q.2.2 1))]) rfl ?_
  refine g_aload_n hC (gDec_at DX0_makeAnew_0 3 rfl) rfl ?_
  refine g_iload_n hC (gDec_at DX0_makeAnew_0 4 rfl) rfl ?_
  refine g_iconst hC (gDec_at DX0_makeAnew_0 5 rfl) (v := nI 4) (by decide) ?_
  refine g_idiv hC (gDec_at DX0_makeAnew_0 6 rfl) (by decide) (v := (nI sl)) ((pk_div (by omega) (by decide) (by decide)).trans (congrArg nI (by omega))) ?_
  refine g_putI (w := wC q) hC 9 fl_X0_29 fp_0_2 (show 9 < 63 from by decide) rfl (Nat.le_of_ble_eq_true rfl) rfl rfl (gDec_at DX0_makeAnew_0 7 rfl) ?_
  refine g_aload_n hC (gDec_at DX0_makeAnew_0 8 rfl) rfl ?_
  refine g_bipush hC (gDec_at DX0_makeAnew_0 9 rfl) (v := -9) (by decide) ?_
  refine g_putI (w := wC q) hC 9 fl_X0_33 fp_0_3 (show 9 < 63 from by decide) rfl (Nat.le_of_ble_eq_true rfl) rfl rfl (gDec_at DX0_makeAnew_0 10 rfl) ?_
  refine g_aload_n hC (gDec_at DX0_makeAnew_0 11 rfl) rfl ?_
  refine g_get (w := wC q) hC 9 (v := .ref (q.2.2 11)) fl_X0_22 (show 9 < 63 from by decide) rfl rfl (gDec_at DX0_makeAnew_0 12 rfl) ?_
  refine g_astore_n hC (gDec_at DX0_makeAnew_0 13 rfl) (by decide) (L' := [(3, .ref (q.2.2 11)), (2, .int (nI (4 * sl))), (0, .ref (q.2.2 9)), (1, .ref (q.2.2 1))]) rfl ?_
  refine g_aload_n hC (gDec_at DX0_makeAnew_0 14 rfl) rfl ?_
  refine g_alen (w := wC q) hC 11 3 (show 11 < 63 from by decide) rfl rfl (gDec_at DX0_makeAnew_0 15 rfl) ?_
  refine g_istore hC (gDec_at DX0_makeAnew_0 16 rfl) (by decide) (L' := [(4, .int (nI 12)), (3, .ref (q.2.2 11)), (2, .int (nI (4 * sl))), (0, .ref (q.2.2 9)), (1, .ref (q.2.2 1))]) rfl ?_
  refine g_iconst hC (gDec_at DX0_makeAnew_0 17 rfl) (v := nI 0) (by decide) ?_
  refine g_istore hC (gDec_at DX0_makeAnew_0 18 rfl) (by decide) (L' := [(5, .int (nI 0)), (4, .int (nI 12)), (3, .ref (q.2.2 11)), (2, .int (nI (4 * sl))), (0, .ref (q.2.2 9)), (1, .ref (q.2.2 1))]) rfl ?_
  have loop30 : ∀ (fu i : Nat) (M1 : gM), i ≤ 12 → 12 - i < fu → mkI M M1 tb sl i → gG X (wC q) (fun v M' => v = none ∧ cI M' (mkB B tb sl) ∧ sameO (fun i => 9 ≤ i ∧ i < 27) M M') 9 M1 30 [(0, .ref (q.2.2 9)), (1, .ref (q.2.2 1)), (2, .int (nI (4 * sl))), (3, .ref (q.2.2 11)), (4, .int (nI 12)), (5, .int (nI i))] [] := by
    intro fu; induction fu with
    | zero => intro i M1 h1 h2; omega
    | succ fu ih =>
      intro i M1 hi hfu hm1
      have hsd := (hm1.1 0 (by omega))
      refine g_iload hC (gDec_at DX0_makeAnew_0 19 rfl) rfl ?_
      refine g_iload hC (gDec_at DX0_makeAnew_0 20 rfl) rfl ?_
      refine g_icmp_geN hC (by omega) (by omega) (gDec_at DX0_makeAnew_0 21 rfl) 122 (by decide) (fun h34 => ?_) (fun h34 => ?_)
      · skip
        obtain rfl : i = 12 := by omega
        refine g_vret hC (gDec_at DX0_makeAnew_1 7 rfl) ?_
        exact ⟨rfl, mkI_end hI h0 h6 hall hm1, hm1.2.2.2.2.2⟩
      · skip
        refine g_aload_n hC (gDec_at DX0_makeAnew_0 22 rfl) rfl ?_
        refine g_iload hC (gDec_at DX0_makeAnew_0 23 rfl) rfl ?_
        refine g_aald (w := wC q) hC 11 3 i (a := q.2.2 (15 + i)) (show 11 < 63 from by decide) rfl rfl (by omega) (by decide) rfl (gDec_at DX0_makeAnew_0 24 rfl) ?_
        refine g_astore hC (gDec_at DX0_makeAnew_0 25 rfl) (by decide) (L' := [(6, .ref (q.2.2 (15 + i))), (0, .ref (q.2.2 9)), (1, .ref (q.2.2 1)), (2, .int (nI (4 * sl))), (3, .ref (q.2.2 11)), (4, .int (nI 12)), (5, .int (nI i))]) rfl ?_
        refine g_aload_n hC (gDec_at DX0_makeAnew_0 26 rfl) rfl ?_
        refine g_aload hC (gDec_at DX0_makeAnew_0 27 rfl) rfl ?_
        refine g_callVd (w := wC q) hC 9 (c_X0_hasW q hm1.2.1 h6 (hm1.1 0 (by omega) i (by omega)).2.1 (by omega)) vf_X0_has ml_X0_42 (by decide) (show 9 < 63 from by decide) rfl rfl rfl rfl rfl (Nat.le_of_ble_eq_true rfl) (gDec_at DX0_makeAnew_0 28 rfl) ?_
        refine g_if_eqB hC (gDec_at DX0_makeAnew_0 29 rfl) 116 (by decide) (fun h49 => ?_) (fun h49 => ?_)
        · skip
          refine g_iincN hC (gDec_at DX0_makeAnew_1 5 rfl) rfl (by decide) (L' := [(5, .int (nI (i + 1))), (6, .ref (q.2.2 (15 + i))), (0, .ref (q.2.2 9)), (1, .ref (q.2.2 1)), (2, .int (nI (4 * sl))), (3, .ref (q.2.2 11)), (4, .int (nI 12))]) rfl ?_
          refine g_goto hC (gDec_at DX0_makeAnew_1 6 rfl) 30 (by decide) ?_
          refine g_sub [2, 3, 4, 5, 6, 0] (L' := [(0, .ref (q.2.2 9)), (1, .ref (q.2.2 1)), (2, .int (nI (4 * sl))), (3, .ref (q.2.2 11)), (4, .int (nI 12)), (5, .int (nI (i + 1)))]) rfl ?_
          have h9 := ih (i + 1) M1 (by omega) (by omega) (mkI_k hm1 h49)
          exact h9
        · skip
          have hps := pos_lt (by omega : i < 12) h49
          have hdg := mk_dig hall (by omega : i < 12) h49
          refine g_aload hC (gDec_at DX0_makeAnew_0 30 rfl) rfl ?_
          refine g_get (w := wC q) hC (15 + i) (v := .int (nI (i / 6))) fl_X0_46 (show 15 + i < 63 from by have := (by omega); omega) (cC_p0 q _ _ (by omega)) (g_sv (hm1.1 0 (by omega) i (by omega)).1) (gDec_at DX0_makeAnew_0 31 rfl) ?_
          refine g_iload_n hC (gDec_at DX0_makeAnew_0 32 rfl) rfl ?_
          refine g_iconst hC (gDec_at DX0_makeAnew_0 33 rfl) (v := nI 1) (by decide) ?_
          refine g_iaddN hC (gDec_at DX0_makeAnew_0 34 rfl) ?_
          refine g_imulN hC (gDec_at DX0_makeAnew_0 35 rfl) ?_
          refine g_iconst hC (gDec_at DX0_makeAnew_0 36 rfl) (v := nI 4) (by decide) ?_
          refine g_aload hC (gDec_at DX0_makeAnew_0 37 rfl) rfl ?_
          refine g_get (w := wC q) hC (15 + i) (v := .int (nI (i % 6 + 1))) fl_X0_49 (show 15 + i < 63 from by have := (by omega); omega) (cC_p0 q _ _ (by omega)) (g_sv (hm1.1 0 (by omega) i (by omega)).2.1) (gDec_at DX0_makeAnew_0 38 rfl) ?_
          refine g_iconst hC (gDec_at DX0_makeAnew_0 39 rfl) (v := nI 1) (by decide) ?_
          refine g_isubN hC (by omega) (gDec_at DX0_makeAnew_0 40 rfl) ?_
          refine g_imulN hC (gDec_at DX0_makeAnew_0 41 rfl) ?_
          refine g_iaddN hC (gDec_at DX0_makeAnew_0 42 rfl) ?_
          refine g_st (st' := [.int (nI (pos sl i))]) rfl ?_
          refine g_istore hC (gDec_at DX0_makeAnew_0 43 rfl) (by decide) (L' := [(7, .int (nI (pos sl i))), (6, .ref (q.2.2 (15 + i))), (0, .ref (q.2.2 9)), (1, .ref (q.2.2 1)), (2, .int (nI (4 * sl))), (3, .ref (q.2.2 11)), (4, .int (nI 12)), (5, .int (nI i))]) rfl ?_
          refine g_bipush hC (gDec_at DX0_makeAnew_0 44 rfl) (v := nI 10) (by decide) ?_
          refine g_aload_n hC (gDec_at DX0_makeAnew_0 45 rfl) rfl ?_
          refine g_iload hC (gDec_at DX0_makeAnew_0 46 rfl) rfl ?_
          refine g_iconst hC (gDec_at DX0_makeAnew_0 47 rfl) (v := nI 1) (by decide) ?_
          refine g_iaddN hC (gDec_at DX0_makeAnew_0 48 rfl) ?_
          refine g_callVd (w := wC q) hC 1 (c_X4_figureAtN q (cT_same hT hm1.2.2.2.2.2 (by omega) (by omega)) (i := ((pos sl i) + 1)) (by omega) (by omega)) vf_X4_figureAt ml_X0_52 (by decide) (show 1 < 63 from by decide) rfl rfl rfl rfl rfl (Nat.le_of_ble_eq_true rfl) (gDec_at DX0_makeAnew_0 49 rfl) ?_
          refine g_imulN hC (gDec_at DX0_makeAnew_0 50 rfl) ?_
          refine g_aload_n hC (gDec_at DX0_makeAnew_0 51 rfl) rfl ?_
          refine g_iload hC (gDec_at DX0_makeAnew_0 52 rfl) rfl ?_
          refine g_iconst hC (gDec_at DX0_makeAnew_0 53 rfl) (v := nI 2) (by decide) ?_
          refine g_iaddN hC (gDec_at DX0_makeAnew_0 54 rfl) ?_
          refine g_callVd (w := wC q) hC 1 (c_X4_figureAtN q (cT_same hT hm1.2.2.2.2.2 (by omega) (by omega)) (i := ((pos sl i) + 2)) (by omega) (by omega)) vf_X4_figureAt ml_X0_52 (by decide) (show 1 < 63 from by decide) rfl rfl rfl rfl rfl (Nat.le_of_ble_eq_true rfl) (gDec_at DX0_makeAnew_0 55 rfl) ?_
          refine g_iaddN hC (gDec_at DX0_makeAnew_0 56 rfl) ?_
          refine g_istore hC (gDec_at DX0_makeAnew_0 57 rfl) (by decide) (L' := [(8, .int (nI ((10 * (tb ((pos sl i) + 1) - 48)) + (tb ((pos sl i) + 2) - 48)))), (7, .int (nI (pos sl i))), (6, .ref (q.2.2 (15 + i))), (0, .ref (q.2.2 9)), (1, .ref (q.2.2 1)), (2, .int (nI (4 * sl))), (3, .ref (q.2.2 11)), (4, .int (nI 12)), (5, .int (nI i))]) rfl ?_
          refine g_aload hC (gDec_at DX0_makeAnew_0 58 rfl) rfl ?_
          refine g_aload_n hC (gDec_at DX0_makeAnew_0 59 rfl) rfl ?_
          refine g_iload hC (gDec_at DX0_makeAnew_0 60 rfl) rfl ?_
          refine g_callVd (w := wC q) hC 1 (c_X4_figureAtN q (cT_same hT hm1.2.2.2.2.2 (by omega) (by omega)) (i := (pos sl i)) (by omega) (by omega)) vf_X4_figureAt ml_X0_52 (by decide) (show 1 < 63 from by decide) rfl rfl rfl rfl rfl (Nat.le_of_ble_eq_true rfl) (gDec_at DX0_makeAnew_0 61 rfl) ?_
          refine g_iload hC (gDec_at DX0_makeAnew_0 62 rfl) rfl ?_
          refine g_aload_n hC (gDec_at DX0_makeAnew_0 63 rfl) rfl ?_
          refine g_iload hC (gDec_at DX0_makeAnew_1 0 rfl) rfl ?_
          refine g_iconst hC (gDec_at DX0_makeAnew_1 1 rfl) (v := nI 3) (by decide) ?_
          refine g_iaddN hC (gDec_at DX0_makeAnew_1 2 rfl) ?_
          refine g_callVd (w := wC q) hC 1 (c_X4_figureAtN q (cT_same hT hm1.2.2.2.2.2 (by omega) (by omega)) (i := ((pos sl i) + 3)) (by omega) (by omega)) vf_X4_figureAt ml_X0_52 (by decide) (show 1 < 63 from by decide) rfl rfl rfl rfl rfl (Nat.le_of_ble_eq_true rfl) (gDec_at DX0_makeAnew_1 3 rfl) ?_
          refine g_callVn (w := wC q) hC (15 + i) (c_X1_makeAnew q (by omega) _ _ _) vf_X1_makeAnew ml_X0_56 (by decide) (show 15 + i < 63 from by have := (by omega); omega) (cC_p0 q _ _ (by omega)) rfl rfl rfl rfl (Nat.le_of_ble_eq_true rfl) (gDec_at DX0_makeAnew_1 4 rfl) ?_
          refine g_iincN hC (gDec_at DX0_makeAnew_1 5 rfl) rfl (by decide) (L' := [(5, .int (nI (i + 1))), (8, .int (nI ((10 * (tb ((pos sl i) + 1) - 48)) + (tb ((pos sl i) + 2) - 48)))), (7, .int (nI (pos sl i))), (6, .ref (q.2.2 (15 + i))), (0, .ref (q.2.2 9)), (1, .ref (q.2.2 1)), (2, .int (nI (4 * sl))), (3, .ref (q.2.2 11)), (4, .int (nI 12))]) rfl ?_
          refine g_goto hC (gDec_at DX0_makeAnew_1 6 rfl) 30 (by decide) ?_
          refine g_sub [4, 5, 6, 7, 8, 0] (L' := [(0, .ref (q.2.2 9)), (1, .ref (q.2.2 1)), (2, .int (nI (4 * sl))), (3, .ref (q.2.2 11)), (4, .int (nI 12)), (5, .int (nI (i + 1)))]) rfl ?_
          have h9 := ih (i + 1) _ (by omega) (by omega) (mkI_s hm1 (by omega))
          exact h9
  exact g_sub [4, 5, 3, 2, 1, 0] rfl (loop30 (12 + 1 - 0) 0 _ (by omega) (by omega) ⟨bK_up (bK_up hI.1 (by omega) (by omega)) (by omega) (by omega), by rw [gupd_get, if_neg (by omega), gupd_get, if_pos ⟨rfl, rfl⟩], by rw [gupd_get, if_pos ⟨rfl, rfl⟩], fun k hk => by funext c; rw [gupd_get, if_neg (by omega), gupd_get, if_neg (by omega)], fun j hj => absurd hj (Nat.not_lt_zero j), sameO_up (sameO_up sameO_rf (by omega)) (by omega)⟩)
end
section
/-! A bow copied; small statics of BowBend -/
theorem bK_up2 {M : gM} (h : bK M) {i k : Nat} {x : Int32} (hi : ∀ b j, b < 3 → j < 12 → 15 + 18 * b + j ≠ i) : bK (gupd M i k x) := by
  intro b hb j hj
  obtain ⟨h1, h2, h3, h4⟩ := h b hb j hj
  have e := hi b j hb hj
  refine ⟨?_, ?_, ?_, ?_⟩ <;> rw [gupd_get, if_neg (fun z => e z.1)]
  · exact h1
  · exact h2
  · exact h3
  · exact h4
/-- Bow b is becoming what Bow b2 is: i1 woods, i2 places stand -/
def cpI (b b2 : Nat) (M M1 : gM) (i1 i2 : Nat) : Prop := bK M1 ∧ M1.1 (9 + 18 * b) 2 = M.1 (9 + 18 * b2) 2 ∧ M1.1 (9 + 18 * b) 3 = M.1 (9 + 18 * b2) 3 ∧ (∀ k, k < i1 → ∀ c, c < 3 → M1.1 (12 + 18 * b + k) c = M.1 (12 + 18 * b2 + k) c) ∧ (∀ j, j < i2 → ∀ c, 3 ≤ c → c ≤ 8 → M1.1 (15 + 18 * b + j) c = M.1 (15 + 18 * b2 + j) c) ∧ sameO (fun i => 9 + 18 * b ≤ i ∧ i < 27 + 18 * b) M M1
theorem cpI_w {b b2 : Nat} {M M1 : gM} {i : Nat} (h : cpI b b2 M M1 i 0) (hi : i < 3) : cpI b b2 M (gupd (gupd (gupd M1 (12 + 18 * b + i) 0 (M.1 (12 + 18 * b2 + i) 0)) (12 + 18 * b + i) 1 (M.1 (12 + 18 * b2 + i) 1)) (12 + 18 * b + i) 2 (M.1 (12 + 18 * b2 + i) 2)) (i + 1) 0 := by
  obtain ⟨h1, h2, h3, h4, h5, h6⟩ := h
  refine ⟨fun b3 hb j hj => ?_, ?_, ?_, fun k hk c hc => ?_, fun j hj => absurd hj (Nat.not_lt_zero j), sameO_up (sameO_up (sameO_up h6 (by omega)) (by omega)) (by omega)⟩
  · simp only [gupd_get]
    rw [if_neg (by omega), if_neg (by omega), if_neg (by omega), if_neg (by omega), if_neg (by omega), if_neg (by omega), if_neg (by omega), if_neg (by omega), if_neg (by omega), if_neg (by omega), if_neg (by omega), if_neg (by omega)]
    exact h1 b3 hb j hj
  · simp only [gupd_get]; rw [if_neg (by omega), if_neg (by omega), if_neg (by omega)]; exact h2
  · simp only [gupd_get]; rw [if_neg (by omega), if_neg (by omega), if_neg (by omega)]; exact h3
  · by_cases e : k = i
    · subst e
      rcases (show c = 0 ∨ c = 1 ∨ c = 2 by omega) with rfl | rfl | rfl <;> simp [gupd_get]
    · simp only [gupd_get]; rw [if_neg (by omega), if_neg (by omega), if_neg (by omega)]; exact h4 k (by omega) c hc
theorem cpI_p {b b2 : Nat} {M M1 : gM} {i : Nat} (h : cpI b b2 M M1 3 i) (hi : i < 12) (h8 : M.1 (15 + 18 * b2 + i) 8 = 0 ∨ M.1 (15 + 18 * b2 + i) 8 = 1) : cpI b b2 M (pl6 M1 (15 + 18 * b + i) (M.1 (15 + 18 * b2 + i) 3) (M.1 (15 + 18 * b2 + i) 4) (M.1 (15 + 18 * b2 + i) 5) (M.1 (15 + 18 * b2 + i) 6) (M.1 (15 + 18 * b2 + i) 7) (M.1 (15 + 18 * b2 + i) 8)) 3 (i + 1) := by
  obtain ⟨h1, h2, h3, h4, h5, h6⟩ := h
  refine ⟨fun b3 hb j hj => ?_, by rw [pl6_ne _ _ _ _ _ _ _ (by omega)]; exact h2, by rw [pl6_ne _ _ _ _ _ _ _ (by omega)]; exact h3, fun k hk c hc => by rw [pl6_ne _ _ _ _ _ _ _ (by omega)]; exact h4 k hk c hc, fun j hj c hc1 hc2 => ?_, fun c hc => by rw [pl6_ne _ _ _ _ _ _ _ (fun z => hc (by omega))]; exact h6 c hc⟩
  · obtain ⟨p, q, r, s⟩ := h1 b3 hb j hj
    by_cases z : 15 + 18 * b3 + j = 15 + 18 * b + i
    · rw [z] at p q r s ⊢
      refine ⟨?_, ?_, ?_, ?_⟩ <;> rw [pl6_get] <;> simp [p, q, r]
      exact h8
    · rw [pl6_ne _ _ _ _ _ _ _ z]; exact ⟨p, q, r, s⟩
  · by_cases z : j = i
    · subst z
      rw [pl6_get, if_pos rfl]
      rcases (show c = 3 ∨ c = 4 ∨ c = 5 ∨ c = 6 ∨ c = 7 ∨ c = 8 by omega) with rfl | rfl | rfl | rfl | rfl | rfl <;> rfl
    · rw [pl6_ne _ _ _ _ _ _ _ (by omega)]
      exact h5 j (by omega) c hc1 hc2
theorem cpI_end {b b2 : Nat} {M M1 : gM} {B : gB} (h : cpI b b2 M M1 3 12) (hB : bC b2 M B) : bC b M1 B := by
  obtain ⟨h1, h2, h3, h4, h5, h6⟩ := h
  obtain ⟨g1, g2, g3, g4⟩ := hB
  refine ⟨h2.trans g1, h3.trans g2, fun k hk => ?_, fun j hj ht => ?_⟩
  · obtain ⟨a, b, c⟩ := g3 k hk
    exact ⟨(h4 k hk 0 (by decide)).trans a, (h4 k hk 1 (by decide)).trans b, (h4 k hk 2 (by decide)).trans c⟩
  · obtain ⟨a, b, c, d, e, f⟩ := g4 j hj ht
    exact ⟨(h5 j hj 3 (by decide) (by decide)).trans a, (h5 j hj 4 (by decide) (by decide)).trans b, (h5 j hj 5 (by decide) (by decide)).trans c, (h5 j hj 6 (by decide) (by decide)).trans d, (h5 j hj 8 (by decide) (by decide)).trans e, (h5 j hj 7 (by decide) (by decide)).trans f⟩
set_option maxRecDepth 100000 in
set_option maxHeartbeats 4000000 in
theorem c_X0_copyFrom (q : gQ3) {M : gM} {b b2 : Nat} (hb : b < 3) (hb2 : b2 < 3) (hne : b ≠ b2) (hK : bK M) : gCt (wC q) yX0_copyFrom cX0_copyFrom 3 none 1 [.ref (q.2.2 (9 + 18 * b)), .ref (q.2.2 (9 + 18 * b2))] M (fun v M' => v = none ∧ cpI b b2 M M' 3 12) := by
  refine gMet RX0 (by decide +kernel) rfl (Nat.le_of_ble_eq_true rfl) (fun X hC => ?_)
  have hC : gC X (wC q) cX0_copyFrom 3 RX0 none 1 := hC
  show gG X (wC q) _ 3 M 0 [(0, .ref (q.2.2 (9 + 18 * b))), (1, .ref (q.2.2 (9 + 18 * b2)))] []
  have h8 := fun j hj => (hK b2 hb2 j hj).2.2.2
  refine g_aload_n hC (gDec_at DX0_copyFrom_0 0 rfl) rfl ?_
  refine g_aload_n hC (gDec_at DX0_copyFrom_0 1 rfl) rfl ?_
  refine g_get (w := wC q) hC (9 + 18 * b2) (v := .int (M.1 (9 + 18 * b2) 2)) fl_X0_29 (show 9 + 18 * b2 < 63 from by omega) (cC_bw q _ _ b2) rfl (gDec_at DX0_copyFrom_0 2 rfl) ?_
  refine g_putI (w := wC q) hC (9 + 18 * b) fl_X0_29 fp_0_2 (show 9 + 18 * b < 63 from by omega) (cC_bw q _ _ b) (Nat.le_of_ble_eq_true rfl) (cC_bw q _ _ b) rfl (gDec_at DX0_copyFrom_0 3 rfl) ?_
  refine g_aload_n hC (gDec_at DX0_copyFrom_0 4 rfl) rfl ?_
  refine g_aload_n hC (gDec_at DX0_copyFrom_0 5 rfl) rfl ?_
  refine g_get (w := wC q) hC (9 + 18 * b2) (v := .int (M.1 (9 + 18 * b2) 3)) fl_X0_33 (show 9 + 18 * b2 < 63 from by omega) (cC_bw q _ _ b2) (g_sv (by rw [gupd_get, if_neg (by omega)])) (gDec_at DX0_copyFrom_0 6 rfl) ?_
  refine g_putI (w := wC q) hC (9 + 18 * b) fl_X0_33 fp_0_3 (show 9 + 18 * b < 63 from by omega) (cC_bw q _ _ b) (Nat.le_of_ble_eq_true rfl) (cC_bw q _ _ b) rfl (gDec_at DX0_copyFrom_0 7 rfl) ?_
  refine g_iconst hC (gDec_at DX0_copyFrom_0 8 rfl) (v := nI 0) (by decide) ?_
  refine g_istore_n hC (gDec_at DX0_copyFrom_0 9 rfl) (by decide) (L' := [(2, .int (nI 0)), (0, .ref (q.2.2 (9 + 18 * b))), (1, .ref (q.2.2 (9 + 18 * b2)))]) rfl ?_
  have loop18 : ∀ (fu i : Nat) (M1 : gM), i ≤ 3 → 3 - i < fu → cpI b b2 M M1 i 0 → gG X (wC q) (fun v M' => v = none ∧ cpI b b2 M M' 3 12) 3 M1 18 [(0, .ref (q.2.2 (9 + 18 * b))), (1, .ref (q.2.2 (9 + 18 * b2))), (2, .int (nI i))] [] := by
    intro fu; induction fu with
    | zero => intro i M1 h1 h2; omega
    | succ fu ih =>
      intro i M1 hi hfu hc
      refine g_iload_n hC (gDec_at DX0_copyFrom_0 10 rfl) rfl ?_
      refine g_aload_n hC (gDec_at DX0_copyFrom_0 11 rfl) rfl ?_
      refine g_get (w := wC q) hC (9 + 18 * b) (v := .ref (q.2.2 (10 + 18 * b))) fl_X0_14 (show 9 + 18 * b < 63 from by omega) (cC_bw q _ _ b) (congrArg (fun z => some (Value.ref (q.2.2 z))) (by omega)) (gDec_at DX0_copyFrom_0 12 rfl) ?_
      refine g_alen (w := wC q) hC (10 + 18 * b) 5 (show 10 + 18 * b < 63 from by omega) (cC_wr q _ _ b) rfl (gDec_at DX0_copyFrom_0 13 rfl) ?_
      refine g_icmp_geN hC (by omega) (by omega) (gDec_at DX0_copyFrom_0 14 rfl) 78 (by decide) (fun h24 => ?_) (fun h24 => ?_)
      · skip
        obtain rfl : i = 3 := by omega
        refine g_iconst hC (gDec_at DX0_copyFrom_0 42 rfl) (v := nI 0) (by decide) ?_
        refine g_istore_n hC (gDec_at DX0_copyFrom_0 43 rfl) (by decide) (L' := [(2, .int (nI 0)), (0, .ref (q.2.2 (9 + 18 * b))), (1, .ref (q.2.2 (9 + 18 * b2)))]) rfl ?_
        have lq : ∀ (fu i : Nat) (M2 : gM), i ≤ 12 → 12 - i < fu → cpI b b2 M M2 3 i → gG X (wC q) (fun v M' => v = none ∧ cpI b b2 M M' 3 12) 3 M2 80 [(0, .ref (q.2.2 (9 + 18 * b))), (1, .ref (q.2.2 (9 + 18 * b2))), (2, .int (nI i))] [] := by
          intro fu; induction fu with
          | zero => intro i M2 h1 h2; omega
          | succ fu ih =>
            intro i M2 hi hfu hc
            refine g_iload_n hC (gDec_at DX0_copyFrom_0 44 rfl) rfl ?_
            refine g_aload_n hC (gDec_at DX0_copyFrom_0 45 rfl) rfl ?_
            refine g_get (w := wC q) hC (9 + 18 * b) (v := .ref (q.2.2 (11 + 18 * b))) fl_X0_22 (show 9 + 18 * b < 63 from by omega) (cC_bw q _ _ b) (congrArg (fun z => some (Value.ref (q.2.2 z))) (by omega)) (gDec_at DX0_copyFrom_0 46 rfl) ?_
            refine g_alen (w := wC q) hC (11 + 18 * b) 3 (show 11 + 18 * b < 63 from by omega) (cC_pr q _ _ b) rfl (gDec_at DX0_copyFrom_0 47 rfl) ?_
            refine g_icmp_geN hC (by omega) (by omega) (gDec_at DX0_copyFrom_0 48 rfl) 119 (by decide) (fun h86 => ?_) (fun h86 => ?_)
            · skip
              obtain rfl : i = 12 := by omega
              refine g_vret hC (gDec_at DX0_copyFrom_1 1 rfl) ?_
              exact ⟨rfl, hc⟩
            · skip
              refine g_iload_n hC (gDec_at DX0_copyFrom_0 49 rfl) rfl ?_
              refine g_aload_n hC (gDec_at DX0_copyFrom_0 50 rfl) rfl ?_
              refine g_get (w := wC q) hC (9 + 18 * b2) (v := .ref (q.2.2 (11 + 18 * b2))) fl_X0_22 (show 9 + 18 * b2 < 63 from by omega) (cC_bw q _ _ b2) (congrArg (fun z => some (Value.ref (q.2.2 z))) (by omega)) (gDec_at DX0_copyFrom_0 51 rfl) ?_
              refine g_alen (w := wC q) hC (11 + 18 * b2) 3 (show 11 + 18 * b2 < 63 from by omega) (cC_pr q _ _ b2) rfl (gDec_at DX0_copyFrom_0 52 rfl) ?_
              refine g_icmp_geN hC (by omega) (by omega) (gDec_at DX0_copyFrom_0 53 rfl) 119 (by decide) (fun h95 => ?_) (fun h95 => ?_)
              · skip
                exact absurd h95 (by omega)
              · skip
                refine g_aload_n hC (gDec_at DX0_copyFrom_0 54 rfl) rfl ?_
                refine g_get (w := wC q) hC (9 + 18 * b) (v := .ref (q.2.2 (11 + 18 * b))) fl_X0_22 (show 9 + 18 * b < 63 from by omega) (cC_bw q _ _ b) (congrArg (fun z => some (Value.ref (q.2.2 z))) (by omega)) (gDec_at DX0_copyFrom_0 55 rfl) ?_
                refine g_iload_n hC (gDec_at DX0_copyFrom_0 56 rfl) rfl ?_
                refine g_aald (w := wC q) hC (11 + 18 * b) 3 i (a := q.2.2 (15 + 18 * b + i)) (show 11 + 18 * b < 63 from by omega) (cC_pr q _ _ b) rfl (by omega) (by decide) (congrArg (fun z => some (q.2.2 z)) (by omega)) (gDec_at DX0_copyFrom_0 57 rfl) ?_
                refine g_aload_n hC (gDec_at DX0_copyFrom_0 58 rfl) rfl ?_
                refine g_get (w := wC q) hC (9 + 18 * b2) (v := .ref (q.2.2 (11 + 18 * b2))) fl_X0_22 (show 9 + 18 * b2 < 63 from by omega) (cC_bw q _ _ b2) (congrArg (fun z => some (Value.ref (q.2.2 z))) (by omega)) (gDec_at DX0_copyFrom_0 59 rfl) ?_
                refine g_iload_n hC (gDec_at DX0_copyFrom_0 60 rfl) rfl ?_
                refine g_aald (w := wC q) hC (11 + 18 * b2) 3 i (a := q.2.2 (15 + 18 * b2 + i)) (show 11 + 18 * b2 < 63 from by omega) (cC_pr q _ _ b2) rfl (by omega) (by decide) (congrArg (fun z => some (q.2.2 z)) (by omega)) (gDec_at DX0_copyFrom_0 61 rfl) ?_
                refine g_callV (w := wC q) hC (i := (15 + 18 * b + i)) (c_X1_copyFrom q hb hb2 hne (by omega) (by rw [hc.2.2.2.2.2 (15 + 18 * b2 + i) (by omega)]; exact h8 i (by omega))) vf_X1_copyFrom ml_X0_71 (by decide) (show 15 + 18 * b + i < 63 from by omega) (cC_pl q _ _ (by omega)) rfl rfl rfl rfl (Nat.le_of_ble_eq_true rfl) (gDec_at DX0_copyFrom_0 62 rfl) (fun v_110 M_110 hq_110 => ?_)
                obtain ⟨rfl, rfl⟩ := hq_110
                have e5 := hc.2.2.2.2.2 (15 + 18 * b2 + i) (by omega)
                rw [e5]
                refine g_iincN hC (gDec_at DX0_copyFrom_0 63 rfl) rfl (by decide) (L' := [(2, .int (nI (i + 1))), (0, .ref (q.2.2 (9 + 18 * b))), (1, .ref (q.2.2 (9 + 18 * b2)))]) rfl ?_
                refine g_goto hC (gDec_at DX0_copyFrom_1 0 rfl) 80 (by decide) ?_
                refine g_sub [1, 2, 0] (L' := [(0, .ref (q.2.2 (9 + 18 * b))), (1, .ref (q.2.2 (9 + 18 * b2))), (2, .int (nI (i + 1)))]) rfl ?_
                have h9 := ih (i + 1) _ (by omega) (by omega) (cpI_p hc (by omega) (h8 i (by omega)))
                exact h9
        exact g_sub [1, 2, 0] rfl (lq (12 + 1 - 0) 0 _ (by omega) (by omega) hc)
      · skip
        refine g_iload_n hC (gDec_at DX0_copyFrom_0 15 rfl) rfl ?_
        refine g_aload_n hC (gDec_at DX0_copyFrom_0 16 rfl) rfl ?_
        refine g_get (w := wC q) hC (9 + 18 * b2) (v := .ref (q.2.2 (10 + 18 * b2))) fl_X0_14 (show 9 + 18 * b2 < 63 from by omega) (cC_bw q _ _ b2) (congrArg (fun z => some (Value.ref (q.2.2 z))) (by omega)) (gDec_at DX0_copyFrom_0 17 rfl) ?_
        refine g_alen (w := wC q) hC (10 + 18 * b2) 5 (show 10 + 18 * b2 < 63 from by omega) (cC_wr q _ _ b2) rfl (gDec_at DX0_copyFrom_0 18 rfl) ?_
        refine g_icmp_geN hC (by omega) (by omega) (gDec_at DX0_copyFrom_0 19 rfl) 78 (by decide) (fun h33 => ?_) (fun h33 => ?_)
        · skip
          exact absurd h33 (by omega)
        · skip
          refine g_aload_n hC (gDec_at DX0_copyFrom_0 20 rfl) rfl ?_
          refine g_get (w := wC q) hC (9 + 18 * b) (v := .ref (q.2.2 (10 + 18 * b))) fl_X0_14 (show 9 + 18 * b < 63 from by omega) (cC_bw q _ _ b) (congrArg (fun z => some (Value.ref (q.2.2 z))) (by omega)) (gDec_at DX0_copyFrom_0 21 rfl) ?_
          refine g_iload_n hC (gDec_at DX0_copyFrom_0 22 rfl) rfl ?_
          refine g_aald (w := wC q) hC (10 + 18 * b) 5 i (a := q.2.2 (12 + 18 * b + i)) (show 10 + 18 * b < 63 from by omega) (cC_wr q _ _ b) rfl (by omega) (by decide) (congrArg (fun z => some (q.2.2 z)) (by omega)) (gDec_at DX0_copyFrom_0 23 rfl) ?_
          refine g_aload_n hC (gDec_at DX0_copyFrom_0 24 rfl) rfl ?_
          refine g_get (w := wC q) hC (9 + 18 * b2) (v := .ref (q.2.2 (10 + 18 * b2))) fl_X0_14 (show 9 + 18 * b2 < 63 from by omega) (cC_bw q _ _ b2) (congrArg (fun z => some (Value.ref (q.2.2 z))) (by omega)) (gDec_at DX0_copyFrom_0 25 rfl) ?_
          refine g_iload_n hC (gDec_at DX0_copyFrom_0 26 rfl) rfl ?_
          refine g_aald (w := wC q) hC (10 + 18 * b2) 5 i (a := q.2.2 (12 + 18 * b2 + i)) (show 10 + 18 * b2 < 63 from by omega) (cC_wr q _ _ b2) rfl (by omega) (by decide) (congrArg (fun z => some (q.2.2 z)) (by omega)) (gDec_at DX0_copyFrom_0 27 rfl) ?_
          refine g_get (w := wC q) hC (12 + 18 * b2 + i) (v := .int (M.1 (12 + 18 * b2 + i) 0)) fl_X0_59 (show 12 + 18 * b2 + i < 63 from by omega) (cC_wd q _ _ (by omega)) (g_sv (congrFun (hc.2.2.2.2.2 (12 + 18 * b2 + i) (by omega)) 0)) (gDec_at DX0_copyFrom_0 28 rfl) ?_
          refine g_aload_n hC (gDec_at DX0_copyFrom_0 29 rfl) rfl ?_
          refine g_get (w := wC q) hC (9 + 18 * b2) (v := .ref (q.2.2 (10 + 18 * b2))) fl_X0_14 (show 9 + 18 * b2 < 63 from by omega) (cC_bw q _ _ b2) (congrArg (fun z => some (Value.ref (q.2.2 z))) (by omega)) (gDec_at DX0_copyFrom_0 30 rfl) ?_
          refine g_iload_n hC (gDec_at DX0_copyFrom_0 31 rfl) rfl ?_
          refine g_aald (w := wC q) hC (10 + 18 * b2) 5 i (a := q.2.2 (12 + 18 * b2 + i)) (show 10 + 18 * b2 < 63 from by omega) (cC_wr q _ _ b2) rfl (by omega) (by decide) (congrArg (fun z => some (q.2.2 z)) (by omega)) (gDec_at DX0_copyFrom_0 32 rfl) ?_
          refine g_get (w := wC q) hC (12 + 18 * b2 + i) (v := .int (M.1 (12 + 18 * b2 + i) 1)) fl_X0_62 (show 12 + 18 * b2 + i < 63 from by omega) (cC_wd q _ _ (by omega)) (g_sv (congrFun (hc.2.2.2.2.2 (12 + 18 * b2 + i) (by omega)) 1)) (gDec_at DX0_copyFrom_0 33 rfl) ?_
          refine g_aload_n hC (gDec_at DX0_copyFrom_0 34 rfl) rfl ?_
          refine g_get (w := wC q) hC (9 + 18 * b2) (v := .ref (q.2.2 (10 + 18 * b2))) fl_X0_14 (show 9 + 18 * b2 < 63 from by omega) (cC_bw q _ _ b2) (congrArg (fun z => some (Value.ref (q.2.2 z))) (by omega)) (gDec_at DX0_copyFrom_0 35 rfl) ?_
          refine g_iload_n hC (gDec_at DX0_copyFrom_0 36 rfl) rfl ?_
          refine g_aald (w := wC q) hC (10 + 18 * b2) 5 i (a := q.2.2 (12 + 18 * b2 + i)) (show 10 + 18 * b2 < 63 from by omega) (cC_wr q _ _ b2) rfl (by omega) (by decide) (congrArg (fun z => some (q.2.2 z)) (by omega)) (gDec_at DX0_copyFrom_0 37 rfl) ?_
          refine g_get (w := wC q) hC (12 + 18 * b2 + i) (v := .int (M.1 (12 + 18 * b2 + i) 2)) fl_X0_65 (show 12 + 18 * b2 + i < 63 from by omega) (cC_wd q _ _ (by omega)) (g_sv (congrFun (hc.2.2.2.2.2 (12 + 18 * b2 + i) (by omega)) 2)) (gDec_at DX0_copyFrom_0 38 rfl) ?_
          refine g_callVn (w := wC q) hC (12 + 18 * b + i) (c_X5_become q hb (by omega) _ _ _) vf_X5_become ml_X0_68 (by decide) (show 12 + 18 * b + i < 63 from by omega) (cC_wd q _ _ (by omega)) rfl rfl rfl rfl (Nat.le_of_ble_eq_true rfl) (gDec_at DX0_copyFrom_0 39 rfl) ?_
          refine g_iincN hC (gDec_at DX0_copyFrom_0 40 rfl) rfl (by decide) (L' := [(2, .int (nI (i + 1))), (0, .ref (q.2.2 (9 + 18 * b))), (1, .ref (q.2.2 (9 + 18 * b2)))]) rfl ?_
          refine g_goto hC (gDec_at DX0_copyFrom_0 41 rfl) 18 (by decide) ?_
          refine g_sub [1, 2, 0] (L' := [(0, .ref (q.2.2 (9 + 18 * b))), (1, .ref (q.2.2 (9 + 18 * b2))), (2, .int (nI (i + 1)))]) rfl ?_
          have h9 := ih (i + 1) _ (by omega) (by omega) (cpI_w hc (by omega))
          exact h9
  exact g_sub [1, 2, 0] rfl (loop18 (3 + 1 - 0) 0 _ (by omega) (by omega) ⟨bK_up2 (bK_up2 hK (by intros; omega)) (by intros; omega), by rw [gupd_get, if_neg (by omega), gupd_get, if_pos ⟨rfl, rfl⟩], by rw [gupd_get, if_pos ⟨rfl, rfl⟩], fun k hk => absurd hk (Nat.not_lt_zero k), fun j hj => absurd hj (Nat.not_lt_zero j), sameO_up (sameO_up sameO_rf (by omega)) (by omega)⟩)

set_option maxRecDepth 100000 in
set_option maxHeartbeats 4000000 in
theorem c_X6_isOutside_in (q : gQ3) {M : gM} {x : Int32} {a b : Nat} (ha : a < 2147483648) (hb : b < 2147483648) (hx : gin x a b) : gCt (wC q) yX6_isOutside cX6_isOutside 3 (some .boolean) 0 [.int x, .int (nI a), .int (nI b)] M (gR (some (.int (nI 0))) M) := by
  refine gMet RX6 (by decide +kernel) rfl (Nat.le_of_ble_eq_true rfl) (fun X hC => ?_)
  have hC : gC X (wC q) cX6_isOutside 3 RX6 (some .boolean) 0 := hC
  show gG X (wC q) _ 3 M 0 [(0, .int x), (1, .int (nI a)), (2, .int (nI b))] []
  refine g_iload_n hC (gDec_at DX6_isOutside_0 0 rfl) rfl ?_
  refine g_iload_n hC (gDec_at DX6_isOutside_0 1 rfl) rfl ?_
  refine g_icmp_lt hC (gDec_at DX6_isOutside_0 2 rfl) 10 (by decide) (fun h2 => ?_) (fun h2 => ?_)
  · skip
    refine g_iconst hC (gDec_at DX6_isOutside_0 6 rfl) (v := nI 1) (by decide) ?_
    refine g_goto hC (gDec_at DX6_isOutside_0 7 rfl) 15 (by decide) ?_
    refine g_zret hC (Or.inr rfl) (gDec_at DX6_isOutside_0 9 rfl) ?_
    exact absurd hx (by unfold gin; rw [lt_I, nI_toInt ha] at h2; omega)
  · skip
    refine g_iload_n hC (gDec_at DX6_isOutside_0 3 rfl) rfl ?_
    refine g_iload_n hC (gDec_at DX6_isOutside_0 4 rfl) rfl ?_
    refine g_icmp_le hC (gDec_at DX6_isOutside_0 5 rfl) 14 (by decide) (fun h7 => ?_) (fun h7 => ?_)
    · skip
      refine g_iconst hC (gDec_at DX6_isOutside_0 8 rfl) (v := nI 0) (by decide) ?_
      refine g_zret hC (Or.inl rfl) (gDec_at DX6_isOutside_0 9 rfl) ?_
      exact ⟨rfl, rfl⟩
    · skip
      refine g_iconst hC (gDec_at DX6_isOutside_0 6 rfl) (v := nI 1) (by decide) ?_
      refine g_goto hC (gDec_at DX6_isOutside_0 7 rfl) 15 (by decide) ?_
      refine g_zret hC (Or.inr rfl) (gDec_at DX6_isOutside_0 9 rfl) ?_
      exact absurd hx (by unfold gin; rw [le_I, nI_toInt hb] at h7; omega)

set_option maxRecDepth 100000 in
set_option maxHeartbeats 4000000 in
theorem c_X6_isOutside_out (q : gQ3) {M : gM} {x : Int32} {a b : Nat} (ha : a < 2147483648) (hb : b < 2147483648) (hx : ¬ gin x a b) : gCt (wC q) yX6_isOutside cX6_isOutside 3 (some .boolean) 0 [.int x, .int (nI a), .int (nI b)] M (gR (some (.int (nI 1))) M) := by
  refine gMet RX6 (by decide +kernel) rfl (Nat.le_of_ble_eq_true rfl) (fun X hC => ?_)
  have hC : gC X (wC q) cX6_isOutside 3 RX6 (some .boolean) 0 := hC
  show gG X (wC q) _ 3 M 0 [(0, .int x), (1, .int (nI a)), (2, .int (nI b))] []
  refine g_iload_n hC (gDec_at DX6_isOutside_0 0 rfl) rfl ?_
  refine g_iload_n hC (gDec_at DX6_isOutside_0 1 rfl) rfl ?_
  refine g_icmp_lt hC (gDec_at DX6_isOutside_0 2 rfl) 10 (by decide) (fun h2 => ?_) (fun h2 => ?_)
  · skip
    refine g_iconst hC (gDec_at DX6_isOutside_0 6 rfl) (v := nI 1) (by decide) ?_
    refine g_goto hC (gDec_at DX6_isOutside_0 7 rfl) 15 (by decide) ?_
    refine g_zret hC (Or.inr rfl) (gDec_at DX6_isOutside_0 9 rfl) ?_
    exact ⟨rfl, rfl⟩
  · skip
    refine g_iload_n hC (gDec_at DX6_isOutside_0 3 rfl) rfl ?_
    refine g_iload_n hC (gDec_at DX6_isOutside_0 4 rfl) rfl ?_
    refine g_icmp_le hC (gDec_at DX6_isOutside_0 5 rfl) 14 (by decide) (fun h7 => ?_) (fun h7 => ?_)
    · skip
      refine g_iconst hC (gDec_at DX6_isOutside_0 8 rfl) (v := nI 0) (by decide) ?_
      refine g_zret hC (Or.inl rfl) (gDec_at DX6_isOutside_0 9 rfl) ?_
      exact absurd (show gin x a b from by rw [lt_I, nI_toInt ha] at h2; rw [le_I, nI_toInt hb] at h7; unfold gin; omega) hx
    · skip
      refine g_iconst hC (gDec_at DX6_isOutside_0 6 rfl) (v := nI 1) (by decide) ?_
      refine g_goto hC (gDec_at DX6_isOutside_0 7 rfl) 15 (by decide) ?_
      refine g_zret hC (Or.inr rfl) (gDec_at DX6_isOutside_0 9 rfl) ?_
      exact ⟨rfl, rfl⟩

set_option maxRecDepth 100000 in
set_option maxHeartbeats 4000000 in
theorem c_X6_isBadDraw_in (q : gQ3) {M : gM} {k : Nat} (hk : k ≤ 40) : gCt (wC q) yX6_isBadDraw cX6_isBadDraw 1 (some .boolean) 1 [.int (nI k)] M (gR (some (.int (nI 0))) M) := by
  refine gMet RX6 (by decide +kernel) rfl (Nat.le_of_ble_eq_true rfl) (fun X hC => ?_)
  have hC : gC X (wC q) cX6_isBadDraw 1 RX6 (some .boolean) 1 := hC
  show gG X (wC q) _ 1 M 0 [(0, .int (nI k))] []
  refine g_iload_n hC (gDec_at DX6_isBadDraw_0 0 rfl) rfl ?_
  refine g_iconst hC (gDec_at DX6_isBadDraw_0 1 rfl) (v := nI 0) (by decide) ?_
  refine g_bipush hC (gDec_at DX6_isBadDraw_0 2 rfl) (v := nI 40) (by decide) ?_
  refine g_callSd (w := wC q) hC (c_X6_isOutside_in q (by omega) (by omega) (nI_gin (k := k) (a := 0) (b := 40) (by omega) (by omega) (by omega))) sf_X6_isOutside ml_X6_60 (by decide) rfl rfl (Nat.le_of_ble_eq_true rfl) (gDec_at DX6_isBadDraw_0 3 rfl) ?_
  refine g_zret hC (Or.inl rfl) (gDec_at DX6_isBadDraw_0 4 rfl) ?_
  exact ⟨rfl, rfl⟩

set_option maxRecDepth 100000 in
set_option maxHeartbeats 4000000 in
theorem c_X6_isBadDraw_out (q : gQ3) {M : gM} {x : Int32} (hx : ¬ gin x 0 40) : gCt (wC q) yX6_isBadDraw cX6_isBadDraw 1 (some .boolean) 1 [.int x] M (gR (some (.int (nI 1))) M) := by
  refine gMet RX6 (by decide +kernel) rfl (Nat.le_of_ble_eq_true rfl) (fun X hC => ?_)
  have hC : gC X (wC q) cX6_isBadDraw 1 RX6 (some .boolean) 1 := hC
  show gG X (wC q) _ 1 M 0 [(0, .int x)] []
  refine g_iload_n hC (gDec_at DX6_isBadDraw_0 0 rfl) rfl ?_
  refine g_iconst hC (gDec_at DX6_isBadDraw_0 1 rfl) (v := nI 0) (by decide) ?_
  refine g_bipush hC (gDec_at DX6_isBadDraw_0 2 rfl) (v := nI 40) (by decide) ?_
  refine g_callSd (w := wC q) hC (c_X6_isOutside_out q (by omega) (by omega) hx) sf_X6_isOutside ml_X6_60 (by decide) rfl rfl (Nat.le_of_ble_eq_true rfl) (gDec_at DX6_isBadDraw_0 3 rfl) ?_
  refine g_zret hC (Or.inr rfl) (gDec_at DX6_isBadDraw_0 4 rfl) ?_
  exact ⟨rfl, rfl⟩

set_option maxRecDepth 100000 in
set_option maxHeartbeats 4000000 in
theorem c_X6_isBadSearch_3 (q : gQ3) {M : gM} {x : Nat} (hxa : 0 ≤ x) (hxb : x ≤ 40) {f : Nat} (hfa : 0 ≤ f) (hfb : f ≤ 999) {n : Nat} (hna : 1 ≤ n) (hnb : n ≤ 3) : gCt (wC q) yX6_isBadSearch cX6_isBadSearch 3 (some .boolean) 2 [.int (nI x), .int (nI f), .int (nI n)] M (gR (some (.int (nI 0))) M) := by
  refine gMet RX6 (by decide +kernel) rfl (Nat.le_of_ble_eq_true rfl) (fun X hC => ?_)
  have hC : gC X (wC q) cX6_isBadSearch 3 RX6 (some .boolean) 2 := hC
  show gG X (wC q) _ 3 M 0 [(0, .int (nI x)), (1, .int (nI f)), (2, .int (nI n))] []
  refine g_iload_n hC (gDec_at DX6_isBadSearch_0 0 rfl) rfl ?_
  refine g_callSd (w := wC q) hC (c_X6_isBadDraw_in q (k := x) (by omega)) sf_X6_isBadDraw ml_X6_117 (by decide) rfl rfl (Nat.le_of_ble_eq_true rfl) (gDec_at DX6_isBadSearch_0 1 rfl) ?_
  refine g_if_neN hC (by decide) (gDec_at DX6_isBadSearch_0 2 rfl) 27 (by decide) (fun h => absurd h (by decide)) (fun h => ?_)
  refine g_iload_n hC (gDec_at DX6_isBadSearch_0 3 rfl) rfl ?_
  refine g_iconst hC (gDec_at DX6_isBadSearch_0 4 rfl) (v := nI 0) (by decide) ?_
  refine g_sipush hC (gDec_at DX6_isBadSearch_0 5 rfl) (v := nI 999) (by decide) ?_
  refine g_callSd (w := wC q) hC (c_X6_isOutside_in q (by omega) (by omega) (nI_gin (k := f) (a := 0) (b := 999) (by omega) (by omega) (by omega))) sf_X6_isOutside ml_X6_60 (by decide) rfl rfl (Nat.le_of_ble_eq_true rfl) (gDec_at DX6_isBadSearch_0 6 rfl) ?_
  refine g_if_neN hC (by decide) (gDec_at DX6_isBadSearch_0 7 rfl) 27 (by decide) (fun h => absurd h (by decide)) (fun h => ?_)
  refine g_iload_n hC (gDec_at DX6_isBadSearch_0 8 rfl) rfl ?_
  refine g_iconst hC (gDec_at DX6_isBadSearch_0 9 rfl) (v := nI 1) (by decide) ?_
  refine g_iconst hC (gDec_at DX6_isBadSearch_0 10 rfl) (v := nI 3) (by decide) ?_
  refine g_callSd (w := wC q) hC (c_X6_isOutside_in q (by omega) (by omega) (nI_gin (k := n) (a := 1) (b := 3) (by omega) (by omega) (by omega))) sf_X6_isOutside ml_X6_60 (by decide) rfl rfl (Nat.le_of_ble_eq_true rfl) (gDec_at DX6_isBadSearch_0 11 rfl) ?_
  refine g_if_eqN hC (by decide) (gDec_at DX6_isBadSearch_0 12 rfl) 31 (by decide) (fun h => ?_) (fun h => absurd h (by decide))
  refine g_iconst hC (gDec_at DX6_isBadSearch_0 15 rfl) (v := nI 0) (by decide) ?_
  refine g_zret hC (Or.inl rfl) (gDec_at DX6_isBadSearch_0 16 rfl) ?_
  exact ⟨rfl, rfl⟩

set_option maxRecDepth 100000 in
set_option maxHeartbeats 4000000 in
theorem c_X6_isBadSearch_2 (q : gQ3) {M : gM} {x : Nat} (hxa : 0 ≤ x) (hxb : x ≤ 40) {f : Nat} (hfa : 0 ≤ f) (hfb : f ≤ 999) {n : Int32} (hn : ¬ gin n 1 3) : gCt (wC q) yX6_isBadSearch cX6_isBadSearch 3 (some .boolean) 2 [.int (nI x), .int (nI f), .int n] M (gR (some (.int (nI 1))) M) := by
  refine gMet RX6 (by decide +kernel) rfl (Nat.le_of_ble_eq_true rfl) (fun X hC => ?_)
  have hC : gC X (wC q) cX6_isBadSearch 3 RX6 (some .boolean) 2 := hC
  show gG X (wC q) _ 3 M 0 [(0, .int (nI x)), (1, .int (nI f)), (2, .int n)] []
  refine g_iload_n hC (gDec_at DX6_isBadSearch_0 0 rfl) rfl ?_
  refine g_callSd (w := wC q) hC (c_X6_isBadDraw_in q (k := x) (by omega)) sf_X6_isBadDraw ml_X6_117 (by decide) rfl rfl (Nat.le_of_ble_eq_true rfl) (gDec_at DX6_isBadSearch_0 1 rfl) ?_
  refine g_if_neN hC (by decide) (gDec_at DX6_isBadSearch_0 2 rfl) 27 (by decide) (fun h => absurd h (by decide)) (fun h => ?_)
  refine g_iload_n hC (gDec_at DX6_isBadSearch_0 3 rfl) rfl ?_
  refine g_iconst hC (gDec_at DX6_isBadSearch_0 4 rfl) (v := nI 0) (by decide) ?_
  refine g_sipush hC (gDec_at DX6_isBadSearch_0 5 rfl) (v := nI 999) (by decide) ?_
  refine g_callSd (w := wC q) hC (c_X6_isOutside_in q (by omega) (by omega) (nI_gin (k := f) (a := 0) (b := 999) (by omega) (by omega) (by omega))) sf_X6_isOutside ml_X6_60 (by decide) rfl rfl (Nat.le_of_ble_eq_true rfl) (gDec_at DX6_isBadSearch_0 6 rfl) ?_
  refine g_if_neN hC (by decide) (gDec_at DX6_isBadSearch_0 7 rfl) 27 (by decide) (fun h => absurd h (by decide)) (fun h => ?_)
  refine g_iload_n hC (gDec_at DX6_isBadSearch_0 8 rfl) rfl ?_
  refine g_iconst hC (gDec_at DX6_isBadSearch_0 9 rfl) (v := nI 1) (by decide) ?_
  refine g_iconst hC (gDec_at DX6_isBadSearch_0 10 rfl) (v := nI 3) (by decide) ?_
  refine g_callSd (w := wC q) hC (c_X6_isOutside_out q (by omega) (by omega) hn) sf_X6_isOutside ml_X6_60 (by decide) rfl rfl (Nat.le_of_ble_eq_true rfl) (gDec_at DX6_isBadSearch_0 11 rfl) ?_
  refine g_if_eqN hC (by decide) (gDec_at DX6_isBadSearch_0 12 rfl) 31 (by decide) (fun h => absurd h (by decide)) (fun h => ?_)
  refine g_iconst hC (gDec_at DX6_isBadSearch_0 13 rfl) (v := nI 1) (by decide) ?_
  refine g_goto hC (gDec_at DX6_isBadSearch_0 14 rfl) 32 (by decide) ?_
  refine g_zret hC (Or.inr rfl) (gDec_at DX6_isBadSearch_0 16 rfl) ?_
  exact ⟨rfl, rfl⟩

set_option maxRecDepth 100000 in
set_option maxHeartbeats 4000000 in
theorem c_X6_isBadSearch_1 (q : gQ3) {M : gM} {x : Nat} (hxa : 0 ≤ x) (hxb : x ≤ 40) {f : Int32} (hf : ¬ gin f 0 999) {n : Int32} : gCt (wC q) yX6_isBadSearch cX6_isBadSearch 3 (some .boolean) 2 [.int (nI x), .int f, .int n] M (gR (some (.int (nI 1))) M) := by
  refine gMet RX6 (by decide +kernel) rfl (Nat.le_of_ble_eq_true rfl) (fun X hC => ?_)
  have hC : gC X (wC q) cX6_isBadSearch 3 RX6 (some .boolean) 2 := hC
  show gG X (wC q) _ 3 M 0 [(0, .int (nI x)), (1, .int f), (2, .int n)] []
  refine g_iload_n hC (gDec_at DX6_isBadSearch_0 0 rfl) rfl ?_
  refine g_callSd (w := wC q) hC (c_X6_isBadDraw_in q (k := x) (by omega)) sf_X6_isBadDraw ml_X6_117 (by decide) rfl rfl (Nat.le_of_ble_eq_true rfl) (gDec_at DX6_isBadSearch_0 1 rfl) ?_
  refine g_if_neN hC (by decide) (gDec_at DX6_isBadSearch_0 2 rfl) 27 (by decide) (fun h => absurd h (by decide)) (fun h => ?_)
  refine g_iload_n hC (gDec_at DX6_isBadSearch_0 3 rfl) rfl ?_
  refine g_iconst hC (gDec_at DX6_isBadSearch_0 4 rfl) (v := nI 0) (by decide) ?_
  refine g_sipush hC (gDec_at DX6_isBadSearch_0 5 rfl) (v := nI 999) (by decide) ?_
  refine g_callSd (w := wC q) hC (c_X6_isOutside_out q (by omega) (by omega) hf) sf_X6_isOutside ml_X6_60 (by decide) rfl rfl (Nat.le_of_ble_eq_true rfl) (gDec_at DX6_isBadSearch_0 6 rfl) ?_
  refine g_if_neN hC (by decide) (gDec_at DX6_isBadSearch_0 7 rfl) 27 (by decide) (fun h => ?_) (fun h => absurd h (by decide))
  refine g_iconst hC (gDec_at DX6_isBadSearch_0 13 rfl) (v := nI 1) (by decide) ?_
  refine g_goto hC (gDec_at DX6_isBadSearch_0 14 rfl) 32 (by decide) ?_
  refine g_zret hC (Or.inr rfl) (gDec_at DX6_isBadSearch_0 16 rfl) ?_
  exact ⟨rfl, rfl⟩

set_option maxRecDepth 100000 in
set_option maxHeartbeats 4000000 in
theorem c_X6_isBadSearch_0 (q : gQ3) {M : gM} {x : Int32} (hx : ¬ gin x 0 40) {f : Int32} {n : Int32} : gCt (wC q) yX6_isBadSearch cX6_isBadSearch 3 (some .boolean) 2 [.int x, .int f, .int n] M (gR (some (.int (nI 1))) M) := by
  refine gMet RX6 (by decide +kernel) rfl (Nat.le_of_ble_eq_true rfl) (fun X hC => ?_)
  have hC : gC X (wC q) cX6_isBadSearch 3 RX6 (some .boolean) 2 := hC
  show gG X (wC q) _ 3 M 0 [(0, .int x), (1, .int f), (2, .int n)] []
  refine g_iload_n hC (gDec_at DX6_isBadSearch_0 0 rfl) rfl ?_
  refine g_callSd (w := wC q) hC (c_X6_isBadDraw_out q hx) sf_X6_isBadDraw ml_X6_117 (by decide) rfl rfl (Nat.le_of_ble_eq_true rfl) (gDec_at DX6_isBadSearch_0 1 rfl) ?_
  refine g_if_neN hC (by decide) (gDec_at DX6_isBadSearch_0 2 rfl) 27 (by decide) (fun h => ?_) (fun h => absurd h (by decide))
  refine g_iconst hC (gDec_at DX6_isBadSearch_0 13 rfl) (v := nI 1) (by decide) ?_
  refine g_goto hC (gDec_at DX6_isBadSearch_0 14 rfl) 32 (by decide) ?_
  refine g_zret hC (Or.inr rfl) (gDec_at DX6_isBadSearch_0 16 rfl) ?_
  exact ⟨rfl, rfl⟩

set_option maxRecDepth 100000 in
set_option maxHeartbeats 4000000 in
theorem c_X6_isBadForm_2 (q : gQ3) {M : gM} {f : Nat} (hfa : 1 ≤ f) (hfb : f ≤ 999) {s : Nat} (hsa : 1 ≤ s) (hsb : s ≤ 99) : gCt (wC q) yX6_isBadForm cX6_isBadForm 2 (some .boolean) 2 [.int (nI f), .int (nI s)] M (gR (some (.int (nI 0))) M) := by
  refine gMet RX6 (by decide +kernel) rfl (Nat.le_of_ble_eq_true rfl) (fun X hC => ?_)
  have hC : gC X (wC q) cX6_isBadForm 2 RX6 (some .boolean) 2 := hC
  show gG X (wC q) _ 2 M 0 [(0, .int (nI f)), (1, .int (nI s))] []
  refine g_iload_n hC (gDec_at DX6_isBadForm_0 0 rfl) rfl ?_
  refine g_iconst hC (gDec_at DX6_isBadForm_0 1 rfl) (v := nI 1) (by decide) ?_
  refine g_sipush hC (gDec_at DX6_isBadForm_0 2 rfl) (v := nI 999) (by decide) ?_
  refine g_callSd (w := wC q) hC (c_X6_isOutside_in q (by omega) (by omega) (nI_gin (k := f) (a := 1) (b := 999) (by omega) (by omega) (by omega))) sf_X6_isOutside ml_X6_60 (by decide) rfl rfl (Nat.le_of_ble_eq_true rfl) (gDec_at DX6_isBadForm_0 3 rfl) ?_
  refine g_if_neN hC (by decide) (gDec_at DX6_isBadForm_0 4 rfl) 21 (by decide) (fun h => absurd h (by decide)) (fun h => ?_)
  refine g_iload_n hC (gDec_at DX6_isBadForm_0 5 rfl) rfl ?_
  refine g_iconst hC (gDec_at DX6_isBadForm_0 6 rfl) (v := nI 1) (by decide) ?_
  refine g_bipush hC (gDec_at DX6_isBadForm_0 7 rfl) (v := nI 99) (by decide) ?_
  refine g_callSd (w := wC q) hC (c_X6_isOutside_in q (by omega) (by omega) (nI_gin (k := s) (a := 1) (b := 99) (by omega) (by omega) (by omega))) sf_X6_isOutside ml_X6_60 (by decide) rfl rfl (Nat.le_of_ble_eq_true rfl) (gDec_at DX6_isBadForm_0 8 rfl) ?_
  refine g_if_eqN hC (by decide) (gDec_at DX6_isBadForm_0 9 rfl) 25 (by decide) (fun h => ?_) (fun h => absurd h (by decide))
  refine g_iconst hC (gDec_at DX6_isBadForm_0 12 rfl) (v := nI 0) (by decide) ?_
  refine g_zret hC (Or.inl rfl) (gDec_at DX6_isBadForm_0 13 rfl) ?_
  exact ⟨rfl, rfl⟩

set_option maxRecDepth 100000 in
set_option maxHeartbeats 4000000 in
theorem c_X6_isBadForm_1 (q : gQ3) {M : gM} {f : Nat} (hfa : 1 ≤ f) (hfb : f ≤ 999) {s : Int32} (hs : ¬ gin s 1 99) : gCt (wC q) yX6_isBadForm cX6_isBadForm 2 (some .boolean) 2 [.int (nI f), .int s] M (gR (some (.int (nI 1))) M) := by
  refine gMet RX6 (by decide +kernel) rfl (Nat.le_of_ble_eq_true rfl) (fun X hC => ?_)
  have hC : gC X (wC q) cX6_isBadForm 2 RX6 (some .boolean) 2 := hC
  show gG X (wC q) _ 2 M 0 [(0, .int (nI f)), (1, .int s)] []
  refine g_iload_n hC (gDec_at DX6_isBadForm_0 0 rfl) rfl ?_
  refine g_iconst hC (gDec_at DX6_isBadForm_0 1 rfl) (v := nI 1) (by decide) ?_
  refine g_sipush hC (gDec_at DX6_isBadForm_0 2 rfl) (v := nI 999) (by decide) ?_
  refine g_callSd (w := wC q) hC (c_X6_isOutside_in q (by omega) (by omega) (nI_gin (k := f) (a := 1) (b := 999) (by omega) (by omega) (by omega))) sf_X6_isOutside ml_X6_60 (by decide) rfl rfl (Nat.le_of_ble_eq_true rfl) (gDec_at DX6_isBadForm_0 3 rfl) ?_
  refine g_if_neN hC (by decide) (gDec_at DX6_isBadForm_0 4 rfl) 21 (by decide) (fun h => absurd h (by decide)) (fun h => ?_)
  refine g_iload_n hC (gDec_at DX6_isBadForm_0 5 rfl) rfl ?_
  refine g_iconst hC (gDec_at DX6_isBadForm_0 6 rfl) (v := nI 1) (by decide) ?_
  refine g_bipush hC (gDec_at DX6_isBadForm_0 7 rfl) (v := nI 99) (by decide) ?_
  refine g_callSd (w := wC q) hC (c_X6_isOutside_out q (by omega) (by omega) hs) sf_X6_isOutside ml_X6_60 (by decide) rfl rfl (Nat.le_of_ble_eq_true rfl) (gDec_at DX6_isBadForm_0 8 rfl) ?_
  refine g_if_eqN hC (by decide) (gDec_at DX6_isBadForm_0 9 rfl) 25 (by decide) (fun h => absurd h (by decide)) (fun h => ?_)
  refine g_iconst hC (gDec_at DX6_isBadForm_0 10 rfl) (v := nI 1) (by decide) ?_
  refine g_goto hC (gDec_at DX6_isBadForm_0 11 rfl) 26 (by decide) ?_
  refine g_zret hC (Or.inr rfl) (gDec_at DX6_isBadForm_0 13 rfl) ?_
  exact ⟨rfl, rfl⟩

set_option maxRecDepth 100000 in
set_option maxHeartbeats 4000000 in
theorem c_X6_isBadForm_0 (q : gQ3) {M : gM} {f : Int32} (hf : ¬ gin f 1 999) {s : Int32} : gCt (wC q) yX6_isBadForm cX6_isBadForm 2 (some .boolean) 2 [.int f, .int s] M (gR (some (.int (nI 1))) M) := by
  refine gMet RX6 (by decide +kernel) rfl (Nat.le_of_ble_eq_true rfl) (fun X hC => ?_)
  have hC : gC X (wC q) cX6_isBadForm 2 RX6 (some .boolean) 2 := hC
  show gG X (wC q) _ 2 M 0 [(0, .int f), (1, .int s)] []
  refine g_iload_n hC (gDec_at DX6_isBadForm_0 0 rfl) rfl ?_
  refine g_iconst hC (gDec_at DX6_isBadForm_0 1 rfl) (v := nI 1) (by decide) ?_
  refine g_sipush hC (gDec_at DX6_isBadForm_0 2 rfl) (v := nI 999) (by decide) ?_
  refine g_callSd (w := wC q) hC (c_X6_isOutside_out q (by omega) (by omega) hf) sf_X6_isOutside ml_X6_60 (by decide) rfl rfl (Nat.le_of_ble_eq_true rfl) (gDec_at DX6_isBadForm_0 3 rfl) ?_
  refine g_if_neN hC (by decide) (gDec_at DX6_isBadForm_0 4 rfl) 21 (by decide) (fun h => ?_) (fun h => absurd h (by decide))
  refine g_iconst hC (gDec_at DX6_isBadForm_0 10 rfl) (v := nI 1) (by decide) ?_
  refine g_goto hC (gDec_at DX6_isBadForm_0 11 rfl) 26 (by decide) ?_
  refine g_zret hC (Or.inr rfl) (gDec_at DX6_isBadForm_0 13 rfl) ?_
  exact ⟨rfl, rfl⟩

def gcI (a b i big small : Nat) : Prop := Nat.gcd big small = Nat.gcd a b ∧ big < 9223372036854775808 ∧ small < 9223372036854775808 ∧ (i = 0 ∨ (small ≤ big ∧ big * small * 2 ^ i < 2 ^ 127))
theorem mod_half {a b : Nat} (h0 : 0 < b) (h : b ≤ a) : 2 * (a % b) ≤ a := by
  have h1 := Nat.mod_lt a h0
  have h2 := Nat.div_add_mod a b
  have h3 : 1 ≤ a / b := Nat.div_pos h h0
  have h4 : b * 1 ≤ b * (a / b) := Nat.mul_le_mul (Nat.le_refl b) h3
  omega
theorem gcI_s {a b i big small : Nat} (h : gcI a b i big small) (h0 : 0 < small) : gcI a b (i + 1) small (big % small) := by
  obtain ⟨h1, h2, h3, h4⟩ := h
  have hm := Nat.mod_lt big h0
  refine ⟨by rw [← h1, Nat.gcd_comm big small, Nat.gcd_rec small big, Nat.gcd_comm], h3, by omega, Or.inr ⟨by omega, ?_⟩⟩
  rcases h4 with h4 | ⟨h4, h5⟩
  · subst h4
    have e : small * (big % small) ≤ 9223372036854775807 * 9223372036854775807 := mul_bd (by omega) (by omega)
    have e2 : (2 : Nat) ^ (0 + 1) = 2 := rfl
    have e3 : (2 : Nat) ^ 127 = 170141183460469231731687303715884105728 := by decide +kernel
    rw [e2, e3]; omega
  · have e := mod_half h0 h4
    have e2 : small * (big % small) * 2 ^ (i + 1) ≤ big * small * 2 ^ i := by
      rw [Nat.pow_succ, Nat.mul_comm (2 ^ i) 2, ← Nat.mul_assoc, Nat.mul_assoc small, Nat.mul_comm (big % small) 2, Nat.mul_comm small]
      exact Nat.mul_le_mul (Nat.mul_le_mul e (Nat.le_refl _)) (Nat.le_refl _)
    omega
theorem gcI_e {a b big small : Nat} (h : gcI a b 1000 big small) : small = 0 := by
  obtain ⟨-, -, -, h4⟩ := h
  rcases h4 with h4 | ⟨h4, h5⟩
  · omega
  · rcases Nat.eq_zero_or_pos small with z | z
    · exact z
    · have h6 : 1 ≤ big * small := mul_ps (by omega) z
      have h7 : 1 * 2 ^ 1000 ≤ big * small * 2 ^ 1000 := Nat.mul_le_mul h6 (Nat.le_refl _)
      have h8 : (2 : Nat) ^ 127 ≤ 2 ^ 1000 := Nat.pow_le_pow_right (by omega) (by omega)
      rw [Nat.one_mul] at h7
      exact absurd (Nat.lt_of_le_of_lt h7 h5) (Nat.not_lt.mpr h8)
theorem gcI_g {a b i big : Nat} (h : gcI a b i big 0) : big = Nat.gcd a b := by rw [← h.1, Nat.gcd_zero_right]
set_option maxRecDepth 100000 in
set_option maxHeartbeats 4000000 in
theorem c_X6_commonDivisor (q : gQ3) {M : gM} {a b : Nat} (ha : a < 9223372036854775808) (hb : b < 9223372036854775808) : gCt (wC q) yX6_commonDivisor cX6_commonDivisor 11 (some .long) 0 [.long (lN a), .long (lN b)] M (gR (some (.long (lN (Nat.gcd a b)))) M) := by
  refine gMet RX6 (by decide +kernel) rfl (Nat.le_of_ble_eq_true rfl) (fun X hC => ?_)
  have hC : gC X (wC q) cX6_commonDivisor 11 RX6 (some .long) 0 := hC
  show gG X (wC q) _ 11 M 0 [(0, .long (lN a)), (2, .long (lN b))] []
  refine g_lload_n hC (gDec_at DX6_commonDivisor_0 0 rfl) rfl ?_
  refine g_lstore hC (gDec_at DX6_commonDivisor_0 1 rfl) (by decide) (L' := [(4, .long (lN a)), (0, .long (lN a)), (2, .long (lN b))]) rfl ?_
  refine g_lload_n hC (gDec_at DX6_commonDivisor_0 2 rfl) rfl ?_
  refine g_lstore hC (gDec_at DX6_commonDivisor_0 3 rfl) (by decide) (L' := [(6, .long (lN b)), (4, .long (lN a)), (0, .long (lN a)), (2, .long (lN b))]) rfl ?_
  refine g_iconst hC (gDec_at DX6_commonDivisor_0 4 rfl) (v := nI 0) (by decide) ?_
  refine g_istore hC (gDec_at DX6_commonDivisor_0 5 rfl) (by decide) (L' := [(8, .int (nI 0)), (6, .long (lN b)), (4, .long (lN a)), (0, .long (lN a)), (2, .long (lN b))]) rfl ?_
  have loop9 : ∀ (fu i : Nat) (big small : Nat), i ≤ 1000 → 1000 - i < fu → gcI a b i big small → gG X (wC q) (gR (some (.long (lN (Nat.gcd a b)))) M) 11 M 9 [(0, .long (lN a)), (2, .long (lN b)), (4, .long (lN big)), (6, .long (lN small)), (8, .int (nI i))] [] := by
    intro fu; induction fu with
    | zero => intro i big small h1 h2; omega
    | succ fu ih =>
      intro i big small hi hfu hg
      have hg2 := hg.2.1
      have hg3 := hg.2.2.1
      refine g_iload hC (gDec_at DX6_commonDivisor_0 6 rfl) rfl ?_
      refine g_sipush hC (gDec_at DX6_commonDivisor_0 7 rfl) (v := nI 1000) (by decide) ?_
      refine g_icmp_geN hC (by omega) (by omega) (gDec_at DX6_commonDivisor_0 8 rfl) 45 (by decide) (fun h14 => ?_) (fun h14 => ?_)
      · skip
        obtain rfl : i = 1000 := by omega
        obtain rfl := gcI_e hg
        obtain rfl := gcI_g hg
        refine g_lload hC (gDec_at DX6_commonDivisor_0 23 rfl) rfl ?_
        refine g_lret hC (gDec_at DX6_commonDivisor_0 24 rfl) ?_
        exact ⟨rfl, rfl⟩
      · skip
        refine g_lload hC (gDec_at DX6_commonDivisor_0 9 rfl) rfl ?_
        refine g_lconst hC (gDec_at DX6_commonDivisor_0 10 rfl) (v := lN 0) (by decide) ?_
        refine g_lc_eqN hC (by omega) (by omega) (gDec_at DX6_commonDivisor_0 11 rfl) (gDec_at DX6_commonDivisor_0 12 rfl) 45 (by decide) (fun h20 => ?_) (fun h20 => ?_)
        · skip
          obtain rfl : small = 0 := by omega
          obtain rfl := gcI_g hg
          refine g_lload hC (gDec_at DX6_commonDivisor_0 23 rfl) rfl ?_
          refine g_lret hC (gDec_at DX6_commonDivisor_0 24 rfl) ?_
          exact ⟨rfl, rfl⟩
        · skip
          refine g_lload hC (gDec_at DX6_commonDivisor_0 13 rfl) rfl ?_
          refine g_lload hC (gDec_at DX6_commonDivisor_0 14 rfl) rfl ?_
          refine g_lremN hC (by omega) (by omega) (by omega) (gDec_at DX6_commonDivisor_0 15 rfl) ?_
          refine g_lstore hC (gDec_at DX6_commonDivisor_0 16 rfl) (by decide) (L' := [(9, .long (lN (big % small))), (0, .long (lN a)), (2, .long (lN b)), (4, .long (lN big)), (6, .long (lN small)), (8, .int (nI i))]) rfl ?_
          refine g_lload hC (gDec_at DX6_commonDivisor_0 17 rfl) rfl ?_
          refine g_lstore hC (gDec_at DX6_commonDivisor_0 18 rfl) (by decide) (L' := [(4, .long (lN small)), (9, .long (lN (big % small))), (0, .long (lN a)), (2, .long (lN b)), (6, .long (lN small)), (8, .int (nI i))]) rfl ?_
          refine g_lload hC (gDec_at DX6_commonDivisor_0 19 rfl) rfl ?_
          refine g_lstore hC (gDec_at DX6_commonDivisor_0 20 rfl) (by decide) (L' := [(6, .long (lN (big % small))), (4, .long (lN small)), (9, .long (lN (big % small))), (0, .long (lN a)), (2, .long (lN b)), (8, .int (nI i))]) rfl ?_
          refine g_iincN hC (gDec_at DX6_commonDivisor_0 21 rfl) rfl (by decide) (L' := [(8, .int (nI (i + 1))), (6, .long (lN (big % small))), (4, .long (lN small)), (9, .long (lN (big % small))), (0, .long (lN a)), (2, .long (lN b))]) rfl ?_
          refine g_goto hC (gDec_at DX6_commonDivisor_0 22 rfl) 9 (by decide) ?_
          refine g_sub [4, 5, 2, 1, 0] (L' := [(0, .long (lN a)), (2, .long (lN b)), (4, .long (lN small)), (6, .long (lN (big % small))), (8, .int (nI (i + 1)))]) rfl ?_
          have h9 := ih (i + 1) small (big % small) (by omega) (by omega) (gcI_s hg (by omega))
          exact h9
  exact g_sub [3, 4, 2, 1, 0] rfl (loop9 (1000 + 1 - 0) 0 a b (by omega) (by omega) ⟨rfl, ha, hb, Or.inl rfl⟩)

/-- a fraction, above (u = 1), below, in least terms -/
def sTo (a b u : Nat) : Nat := (if u = 0 then b else a) / Nat.gcd a b
theorem gcd_lt {a b : Nat} (ha : a < 9223372036854775808) (hb : b < 9223372036854775808) : Nat.gcd a b < 9223372036854775808 := by
  rcases Nat.eq_zero_or_pos a with z | z
  · subst z; rw [Nat.gcd_zero_left]; exact hb
  · exact Nat.lt_of_le_of_lt (Nat.gcd_le_left b z) ha
set_option maxRecDepth 100000 in
set_option maxHeartbeats 4000000 in
theorem c_X6_fractionPart (q : gQ3) {M : gM} {a b u : Nat} (ha : a < 9223372036854775808) (hb : b < 9223372036854775808) (hu : u ≤ 1) : gCt (wC q) yX6_fractionPart cX6_fractionPart 5 (some .long) 1 [.long (lN a), .long (lN b), .int (nI u)] M (gR (some (.long (lN (sTo a b u)))) M) := by
  refine gMet RX6 (by decide +kernel) rfl (Nat.le_of_ble_eq_true rfl) (fun X hC => ?_)
  have hC : gC X (wC q) cX6_fractionPart 5 RX6 (some .long) 1 := hC
  show gG X (wC q) _ 5 M 0 [(0, .long (lN a)), (2, .long (lN b)), (4, .int (nI u))] []
  have hgl := gcd_lt ha hb
  refine g_iload hC (gDec_at DX6_fractionPart_0 0 rfl) rfl ?_
  refine g_if_eqN hC (by omega) (gDec_at DX6_fractionPart_0 1 rfl) 9 (by decide) (fun h2 => ?_) (fun h2 => ?_)
  · skip
    refine g_lload_n hC (gDec_at DX6_fractionPart_0 4 rfl) rfl ?_
    refine g_lload_n hC (gDec_at DX6_fractionPart_0 5 rfl) rfl ?_
    refine g_lload_n hC (gDec_at DX6_fractionPart_0 6 rfl) rfl ?_
    refine g_callSd (w := wC q) hC (c_X6_commonDivisor q (a := a) (b := b) (by omega) (by omega)) sf_X6_commonDivisor ml_X6_239 (by decide) rfl rfl (Nat.le_of_ble_eq_true rfl) (gDec_at DX6_fractionPart_0 7 rfl) ?_
    refine g_callSd (w := wC q) hC (c_X6_quotient q (by omega) (by omega)) sf_X6_quotient ml_X6_243 (by decide) rfl rfl (Nat.le_of_ble_eq_true rfl) (gDec_at DX6_fractionPart_0 8 rfl) ?_
    refine g_lret hC (gDec_at DX6_fractionPart_0 9 rfl) ?_
    exact ⟨by unfold sTo; rw [if_pos (by omega)], rfl⟩
  · skip
    refine g_lload_n hC (gDec_at DX6_fractionPart_0 2 rfl) rfl ?_
    refine g_goto hC (gDec_at DX6_fractionPart_0 3 rfl) 10 (by decide) ?_
    refine g_lload_n hC (gDec_at DX6_fractionPart_0 5 rfl) rfl ?_
    refine g_lload_n hC (gDec_at DX6_fractionPart_0 6 rfl) rfl ?_
    refine g_callSd (w := wC q) hC (c_X6_commonDivisor q (a := a) (b := b) (by omega) (by omega)) sf_X6_commonDivisor ml_X6_239 (by decide) rfl rfl (Nat.le_of_ble_eq_true rfl) (gDec_at DX6_fractionPart_0 7 rfl) ?_
    refine g_callSd (w := wC q) hC (c_X6_quotient q (by omega) (by omega)) sf_X6_quotient ml_X6_243 (by decide) rfl rfl (Nat.le_of_ble_eq_true rfl) (gDec_at DX6_fractionPart_0 8 rfl) ?_
    refine g_lret hC (gDec_at DX6_fractionPart_0 9 rfl) ?_
    exact ⟨by unfold sTo; rw [if_neg (by omega)], rfl⟩

set_option maxRecDepth 100000 in
set_option maxHeartbeats 4000000 in
theorem c_X6_power (q : gQ3) {M : gM} {b n : Nat} (hn : n ≤ 1000) : gCt (wC q) yX6_power cX6_power 6 (some .long) 0 [.long (lN b), .int (nI n)] M (gR (some (.long (lN (b ^ n)))) M) := by
  refine gMet RX6 (by decide +kernel) rfl (Nat.le_of_ble_eq_true rfl) (fun X hC => ?_)
  have hC : gC X (wC q) cX6_power 6 RX6 (some .long) 0 := hC
  show gG X (wC q) _ 6 M 0 [(0, .long (lN b)), (2, .int (nI n))] []
  refine g_lconst hC (gDec_at DX6_power_0 0 rfl) (v := lN 1) (by decide) ?_
  refine g_lstore_n hC (gDec_at DX6_power_0 1 rfl) (by decide) (L' := [(3, .long (lN 1)), (0, .long (lN b)), (2, .int (nI n))]) rfl ?_
  refine g_iconst hC (gDec_at DX6_power_0 2 rfl) (v := nI 0) (by decide) ?_
  refine g_istore hC (gDec_at DX6_power_0 3 rfl) (by decide) (L' := [(5, .int (nI 0)), (3, .long (lN 1)), (0, .long (lN b)), (2, .int (nI n))]) rfl ?_
  have loop5 : ∀ (fu i : Nat), i ≤ n → n - i < fu → gG X (wC q) (gR (some (.long (lN (b ^ n)))) M) 6 M 5 [(0, .long (lN b)), (2, .int (nI n)), (3, .long (lN (b ^ i))), (5, .int (nI i))] [] := by
    intro fu; induction fu with
    | zero => intro i h1 h2; omega
    | succ fu ih =>
      intro i hi2 hfu 
      refine g_iload hC (gDec_at DX6_power_0 4 rfl) rfl ?_
      refine g_iload_n hC (gDec_at DX6_power_0 5 rfl) rfl ?_
      refine g_icmp_geN hC (by omega) (by omega) (gDec_at DX6_power_0 6 rfl) 21 (by decide) (fun h8 => ?_) (fun h8 => ?_)
      · skip
        obtain rfl : i = n := by omega
        refine g_lload_n hC (gDec_at DX6_power_0 13 rfl) rfl ?_
        refine g_lret hC (gDec_at DX6_power_0 14 rfl) ?_
        exact ⟨rfl, rfl⟩
      · skip
        refine g_lload_n hC (gDec_at DX6_power_0 7 rfl) rfl ?_
        refine g_lload_n hC (gDec_at DX6_power_0 8 rfl) rfl ?_
        refine g_lmulN hC (gDec_at DX6_power_0 9 rfl) ?_
        refine g_lstore_n hC (gDec_at DX6_power_0 10 rfl) (by decide) (L' := [(3, .long (lN ((b ^ i) * b))), (0, .long (lN b)), (2, .int (nI n)), (5, .int (nI i))]) rfl ?_
        refine g_iincN hC (gDec_at DX6_power_0 11 rfl) rfl (by decide) (L' := [(5, .int (nI (i + 1))), (3, .long (lN ((b ^ i) * b))), (0, .long (lN b)), (2, .int (nI n))]) rfl ?_
        refine g_goto hC (gDec_at DX6_power_0 12 rfl) 5 (by decide) ?_
        refine g_sub [2, 3, 1, 0] (L' := [(0, .long (lN b)), (2, .int (nI n)), (3, .long (lN ((b ^ i) * b))), (5, .int (nI (i + 1)))]) rfl ?_
        have h9 := ih (i + 1) (by omega) (by omega)
        rw [Nat.pow_succ] at h9
        exact h9
  exact g_sub [2, 3, 1, 0] rfl (loop5 (n + 1 - 0) 0 (by omega) (by omega))
end
section
/-! BowBend, the methods that only ask, and those that change one thing -/
def sCh (n : Nat) : Nat → Nat
  | 0 => 1
  | k + 1 => sCh n k * (n - k) / (k + 1)
theorem sCh_le : ∀ n, n < 13 → ∀ k, k < 14 → sCh n k ≤ 1000 := by decide
def sTerm (n t h : Nat) : Nat := sCh n h * t ^ h * (10 - t) ^ (n - h)
theorem pow_le10 {t : Nat} (h : t ≤ 10) (n : Nat) : t ^ n ≤ 10 ^ n := Nat.pow_le_pow_left h n
theorem sTerm_le {n t h : Nat} (hn : n ≤ 12) (ht : t ≤ 10) (hh : h ≤ n) : sTerm n t h ≤ 1000000000000000 := by
  have h1 := sCh_le n (by omega) h (by omega)
  have h2 := pow_le10 ht h
  have h3 := pow_le10 (show 10 - t ≤ 10 by omega) (n - h)
  have h4 : sTerm n t h ≤ 1000 * 10 ^ h * 10 ^ (n - h) := mul_bd (mul_bd h1 h2) h3
  have h5 : 1000 * 10 ^ h * 10 ^ (n - h) = 1000 * 10 ^ n := by rw [Nat.mul_assoc, ← Nat.pow_add, show h + (n - h) = n by omega]
  have h6 : (10 : Nat) ^ n ≤ 10 ^ 12 := Nat.pow_le_pow_right (by omega) hn
  have h7 : 1000 * 10 ^ n ≤ 1000 * 10 ^ 12 := Nat.mul_le_mul (Nat.le_refl _) h6
  have h8 : (1000 : Nat) * 10 ^ 12 = 1000000000000000 := by decide
  omega
def sWay (n t : Nat) (P : Nat → Prop) [DecidablePred P] : Nat := gsm (fun h => if P h then sTerm n t h else 0) (n + 1)
theorem sWay_le {n t : Nat} (hn : n ≤ 12) (ht : t ≤ 10) (P : Nat → Prop) [DecidablePred P] : sWay n t P ≤ 13000000000000000 := by
  have h := gsm_le (f := fun h => if P h then sTerm n t h else 0) (n := n + 1) (c := 1000000000000000) (fun k hk => by
    split
    · exact sTerm_le hn ht (by omega)
    · omega)
  have h2 : (n + 1) * 1000000000000000 ≤ 13 * 1000000000000000 := Nat.mul_le_mul (by omega) (Nat.le_refl _)
  unfold sWay
  omega
set_option maxRecDepth 100000 in
set_option maxHeartbeats 4000000 in
theorem c_X6_waysBetween (q : gQ3) {M : gM} {n t a : Nat} {to : Int32} {P : Nat → Prop} [DecidablePred P] (hn : n ≤ 12) (ht : t ≤ 10) (ha : a ≤ 12) (hP : ∀ h, h ≤ n → (a ≤ h ∧ ¬ to < nI h ↔ P h)) : gCt (wC q) yX6_waysBetween cX6_waysBetween 9 (some .long) 1 [.int (nI n), .int (nI t), .int (nI a), .int to] M (gR (some (.long (lN (sWay n t P)))) M) := by
  refine gMet RX6 (by decide +kernel) rfl (Nat.le_of_ble_eq_true rfl) (fun X hC => ?_)
  have hC : gC X (wC q) cX6_waysBetween 9 RX6 (some .long) 1 := hC
  show gG X (wC q) _ 9 M 0 [(0, .int (nI n)), (1, .int (nI t)), (2, .int (nI a)), (3, .int to)] []
  refine g_lconst hC (gDec_at DX6_waysBetween_0 0 rfl) (v := lN 0) (by decide) ?_
  refine g_lstore hC (gDec_at DX6_waysBetween_0 1 rfl) (by decide) (L' := [(4, .long (lN 0)), (0, .int (nI n)), (1, .int (nI t)), (2, .int (nI a)), (3, .int to)]) rfl ?_
  refine g_lconst hC (gDec_at DX6_waysBetween_0 2 rfl) (v := lN 1) (by decide) ?_
  refine g_lstore hC (gDec_at DX6_waysBetween_0 3 rfl) (by decide) (L' := [(6, .long (lN 1)), (4, .long (lN 0)), (0, .int (nI n)), (1, .int (nI t)), (2, .int (nI a)), (3, .int to)]) rfl ?_
  refine g_iconst hC (gDec_at DX6_waysBetween_0 4 rfl) (v := nI 0) (by decide) ?_
  refine g_istore hC (gDec_at DX6_waysBetween_0 5 rfl) (by decide) (L' := [(8, .int (nI 0)), (6, .long (lN 1)), (4, .long (lN 0)), (0, .int (nI n)), (1, .int (nI t)), (2, .int (nI a)), (3, .int to)]) rfl ?_
  have loop9 : ∀ (fu i : Nat), i ≤ (n + 1) → (n + 1) - i < fu → gG X (wC q) (gR (some (.long (lN (sWay n t P)))) M) 9 M 9 [(0, .int (nI n)), (1, .int (nI t)), (2, .int (nI a)), (3, .int to), (4, .long (lN (gsm (fun h => if P h then sTerm n t h else 0) i))), (6, .long (lN (sCh n i))), (8, .int (nI i))] [] := by
    intro fu; induction fu with
    | zero => intro i h1 h2; omega
    | succ fu ih =>
      intro i hi hfu 
      have hcl : i ≤ n → sCh n i ≤ 1000 := fun z => sCh_le n (by omega) i (by omega)
      refine g_iload hC (gDec_at DX6_waysBetween_0 6 rfl) rfl ?_
      refine g_iload_n hC (gDec_at DX6_waysBetween_0 7 rfl) rfl ?_
      refine g_icmp_gtN hC (by omega) (by omega) (gDec_at DX6_waysBetween_0 8 rfl) 79 (by decide) (fun h12 => ?_) (fun h12 => ?_)
      · skip
        obtain rfl : i = n + 1 := by omega
        refine g_lload hC (gDec_at DX6_waysBetween_0 47 rfl) rfl ?_
        refine g_lret hC (gDec_at DX6_waysBetween_0 48 rfl) ?_
        exact ⟨rfl, rfl⟩
      · skip
        refine g_iload hC (gDec_at DX6_waysBetween_0 9 rfl) rfl ?_
        refine g_iload_n hC (gDec_at DX6_waysBetween_0 10 rfl) rfl ?_
        refine g_icmp_ltN hC (by omega) (by omega) (gDec_at DX6_waysBetween_0 11 rfl) 55 (by decide) (fun h18 => ?_) (fun h18 => ?_)
        · skip
          refine g_lload hC (gDec_at DX6_waysBetween_0 33 rfl) rfl ?_
          refine g_iload_n hC (gDec_at DX6_waysBetween_0 34 rfl) rfl ?_
          refine g_iload hC (gDec_at DX6_waysBetween_0 35 rfl) rfl ?_
          refine g_isubN hC (by omega) (gDec_at DX6_waysBetween_0 36 rfl) ?_
          refine g_i2lN hC (by omega) (gDec_at DX6_waysBetween_0 37 rfl) ?_
          refine g_lmulN hC (gDec_at DX6_waysBetween_0 38 rfl) ?_
          refine g_iload hC (gDec_at DX6_waysBetween_0 39 rfl) rfl ?_
          refine g_iconst hC (gDec_at DX6_waysBetween_0 40 rfl) (v := nI 1) (by decide) ?_
          refine g_iaddN hC (gDec_at DX6_waysBetween_0 41 rfl) ?_
          refine g_i2lN hC (by omega) (gDec_at DX6_waysBetween_0 42 rfl) ?_
          refine g_callSd (w := wC q) hC (c_X6_quotient q (by have z1 := mul_bd (hcl (by omega)) (by omega : n - i ≤ 12); omega) (by omega)) sf_X6_quotient ml_X6_243 (by decide) rfl rfl (Nat.le_of_ble_eq_true rfl) (gDec_at DX6_waysBetween_0 43 rfl) ?_
          refine g_lstore hC (gDec_at DX6_waysBetween_0 44 rfl) (by decide) (L' := [(6, .long (lN (sCh n (i + 1)))), (0, .int (nI n)), (1, .int (nI t)), (2, .int (nI a)), (3, .int to), (4, .long (lN (gsm (fun h => if P h then sTerm n t h else 0) i))), (8, .int (nI i))]) rfl ?_
          refine g_iincN hC (gDec_at DX6_waysBetween_0 45 rfl) rfl (by decide) (L' := [(8, .int (nI (i + 1))), (6, .long (lN (sCh n (i + 1)))), (0, .int (nI n)), (1, .int (nI t)), (2, .int (nI a)), (3, .int to), (4, .long (lN (gsm (fun h => if P h then sTerm n t h else 0) i)))]) rfl ?_
          refine g_goto hC (gDec_at DX6_waysBetween_0 46 rfl) 9 (by decide) ?_
          refine g_sub [2, 3, 4, 5, 6, 1, 0] (L' := [(0, .int (nI n)), (1, .int (nI t)), (2, .int (nI a)), (3, .int to), (4, .long (lN (gsm (fun h => if P h then sTerm n t h else 0) i))), (6, .long (lN (sCh n (i + 1)))), (8, .int (nI (i + 1)))]) rfl ?_
          have h9 := ih (i + 1) (by omega) (by omega)
          rw [show gsm (fun h => if P h then sTerm n t h else 0) (i + 1) = gsm (fun h => if P h then sTerm n t h else 0) i from gsm_s0 (if_neg (fun z => by have z1 := ((hP i (by omega)).mpr z).1; omega))] at h9
          exact h9
        · skip
          refine g_iload hC (gDec_at DX6_waysBetween_0 12 rfl) rfl ?_
          refine g_iload_n hC (gDec_at DX6_waysBetween_0 13 rfl) rfl ?_
          refine g_icmp_gt hC (gDec_at DX6_waysBetween_0 14 rfl) 55 (by decide) (fun h24 => ?_) (fun h24 => ?_)
          · skip
            refine g_lload hC (gDec_at DX6_waysBetween_0 33 rfl) rfl ?_
            refine g_iload_n hC (gDec_at DX6_waysBetween_0 34 rfl) rfl ?_
            refine g_iload hC (gDec_at DX6_waysBetween_0 35 rfl) rfl ?_
            refine g_isubN hC (by omega) (gDec_at DX6_waysBetween_0 36 rfl) ?_
            refine g_i2lN hC (by omega) (gDec_at DX6_waysBetween_0 37 rfl) ?_
            refine g_lmulN hC (gDec_at DX6_waysBetween_0 38 rfl) ?_
            refine g_iload hC (gDec_at DX6_waysBetween_0 39 rfl) rfl ?_
            refine g_iconst hC (gDec_at DX6_waysBetween_0 40 rfl) (v := nI 1) (by decide) ?_
            refine g_iaddN hC (gDec_at DX6_waysBetween_0 41 rfl) ?_
            refine g_i2lN hC (by omega) (gDec_at DX6_waysBetween_0 42 rfl) ?_
            refine g_callSd (w := wC q) hC (c_X6_quotient q (by have z1 := mul_bd (hcl (by omega)) (by omega : n - i ≤ 12); omega) (by omega)) sf_X6_quotient ml_X6_243 (by decide) rfl rfl (Nat.le_of_ble_eq_true rfl) (gDec_at DX6_waysBetween_0 43 rfl) ?_
            refine g_lstore hC (gDec_at DX6_waysBetween_0 44 rfl) (by decide) (L' := [(6, .long (lN (sCh n (i + 1)))), (0, .int (nI n)), (1, .int (nI t)), (2, .int (nI a)), (3, .int to), (4, .long (lN (gsm (fun h => if P h then sTerm n t h else 0) i))), (8, .int (nI i))]) rfl ?_
            refine g_iincN hC (gDec_at DX6_waysBetween_0 45 rfl) rfl (by decide) (L' := [(8, .int (nI (i + 1))), (6, .long (lN (sCh n (i + 1)))), (0, .int (nI n)), (1, .int (nI t)), (2, .int (nI a)), (3, .int to), (4, .long (lN (gsm (fun h => if P h then sTerm n t h else 0) i)))]) rfl ?_
            refine g_goto hC (gDec_at DX6_waysBetween_0 46 rfl) 9 (by decide) ?_
            refine g_sub [2, 3, 4, 5, 6, 1, 0] (L' := [(0, .int (nI n)), (1, .int (nI t)), (2, .int (nI a)), (3, .int to), (4, .long (lN (gsm (fun h => if P h then sTerm n t h else 0) i))), (6, .long (lN (sCh n (i + 1)))), (8, .int (nI (i + 1)))]) rfl ?_
            have h9 := ih (i + 1) (by omega) (by omega)
            rw [show gsm (fun h => if P h then sTerm n t h else 0) (i + 1) = gsm (fun h => if P h then sTerm n t h else 0) i from gsm_s0 (if_neg (fun z => ((hP i (by omega)).mpr z).2 h24))] at h9
            exact h9
          · skip
            refine g_lload hC (gDec_at DX6_waysBetween_0 15 rfl) rfl ?_
            refine g_lload hC (gDec_at DX6_waysBetween_0 16 rfl) rfl ?_
            refine g_iload_n hC (gDec_at DX6_waysBetween_0 17 rfl) rfl ?_
            refine g_i2lN hC (by omega) (gDec_at DX6_waysBetween_0 18 rfl) ?_
            refine g_iload hC (gDec_at DX6_waysBetween_0 19 rfl) rfl ?_
            refine g_callSd (w := wC q) hC (c_X6_power q (b := t) (n := i) (by omega)) sf_X6_power ml_X6_217 (by decide) rfl rfl (Nat.le_of_ble_eq_true rfl) (gDec_at DX6_waysBetween_0 20 rfl) ?_
            refine g_lmulN hC (gDec_at DX6_waysBetween_0 21 rfl) ?_
            refine g_bipush hC (gDec_at DX6_waysBetween_0 22 rfl) (v := nI 10) (by decide) ?_
            refine g_iload_n hC (gDec_at DX6_waysBetween_0 23 rfl) rfl ?_
            refine g_isubN hC (by omega) (gDec_at DX6_waysBetween_0 24 rfl) ?_
            refine g_i2lN hC (by omega) (gDec_at DX6_waysBetween_0 25 rfl) ?_
            refine g_iload_n hC (gDec_at DX6_waysBetween_0 26 rfl) rfl ?_
            refine g_iload hC (gDec_at DX6_waysBetween_0 27 rfl) rfl ?_
            refine g_isubN hC (by omega) (gDec_at DX6_waysBetween_0 28 rfl) ?_
            refine g_callSd (w := wC q) hC (c_X6_power q (b := (10 - t)) (n := (n - i)) (by omega)) sf_X6_power ml_X6_217 (by decide) rfl rfl (Nat.le_of_ble_eq_true rfl) (gDec_at DX6_waysBetween_0 29 rfl) ?_
            refine g_lmulN hC (gDec_at DX6_waysBetween_0 30 rfl) ?_
            refine g_laddN hC (gDec_at DX6_waysBetween_0 31 rfl) ?_
            refine g_lstore hC (gDec_at DX6_waysBetween_0 32 rfl) (by decide) (L' := [(4, .long (lN ((gsm (fun h => if P h then sTerm n t h else 0) i) + (((sCh n i) * (t ^ i)) * ((10 - t) ^ (n - i)))))), (0, .int (nI n)), (1, .int (nI t)), (2, .int (nI a)), (3, .int to), (6, .long (lN (sCh n i))), (8, .int (nI i))]) rfl ?_
            refine g_lload hC (gDec_at DX6_waysBetween_0 33 rfl) rfl ?_
            refine g_iload_n hC (gDec_at DX6_waysBetween_0 34 rfl) rfl ?_
            refine g_iload hC (gDec_at DX6_waysBetween_0 35 rfl) rfl ?_
            refine g_isubN hC (by omega) (gDec_at DX6_waysBetween_0 36 rfl) ?_
            refine g_i2lN hC (by omega) (gDec_at DX6_waysBetween_0 37 rfl) ?_
            refine g_lmulN hC (gDec_at DX6_waysBetween_0 38 rfl) ?_
            refine g_iload hC (gDec_at DX6_waysBetween_0 39 rfl) rfl ?_
            refine g_iconst hC (gDec_at DX6_waysBetween_0 40 rfl) (v := nI 1) (by decide) ?_
            refine g_iaddN hC (gDec_at DX6_waysBetween_0 41 rfl) ?_
            refine g_i2lN hC (by omega) (gDec_at DX6_waysBetween_0 42 rfl) ?_
            refine g_callSd (w := wC q) hC (c_X6_quotient q (by have z1 := mul_bd (hcl (by omega)) (by omega : n - i ≤ 12); omega) (by omega)) sf_X6_quotient ml_X6_243 (by decide) rfl rfl (Nat.le_of_ble_eq_true rfl) (gDec_at DX6_waysBetween_0 43 rfl) ?_
            refine g_lstore hC (gDec_at DX6_waysBetween_0 44 rfl) (by decide) (L' := [(6, .long (lN (sCh n (i + 1)))), (4, .long (lN ((gsm (fun h => if P h then sTerm n t h else 0) i) + (((sCh n i) * (t ^ i)) * ((10 - t) ^ (n - i)))))), (0, .int (nI n)), (1, .int (nI t)), (2, .int (nI a)), (3, .int to), (8, .int (nI i))]) rfl ?_
            refine g_iincN hC (gDec_at DX6_waysBetween_0 45 rfl) rfl (by decide) (L' := [(8, .int (nI (i + 1))), (6, .long (lN (sCh n (i + 1)))), (4, .long (lN ((gsm (fun h => if P h then sTerm n t h else 0) i) + (((sCh n i) * (t ^ i)) * ((10 - t) ^ (n - i)))))), (0, .int (nI n)), (1, .int (nI t)), (2, .int (nI a)), (3, .int to)]) rfl ?_
            refine g_goto hC (gDec_at DX6_waysBetween_0 46 rfl) 9 (by decide) ?_
            refine g_sub [3, 4, 5, 6, 2, 1, 0] (L' := [(0, .int (nI n)), (1, .int (nI t)), (2, .int (nI a)), (3, .int to), (4, .long (lN ((gsm (fun h => if P h then sTerm n t h else 0) i) + (((sCh n i) * (t ^ i)) * ((10 - t) ^ (n - i)))))), (6, .long (lN (sCh n (i + 1)))), (8, .int (nI (i + 1)))]) rfl ?_
            have h9 := ih (i + 1) (by omega) (by omega)
            rw [show gsm (fun h => if P h then sTerm n t h else 0) (i + 1) = gsm (fun h => if P h then sTerm n t h else 0) i + sCh n i * t ^ i * (10 - t) ^ (n - i) from gsm_s (if_pos ((hP i (by omega)).mp ⟨h18, h24⟩))] at h9
            exact h9
  exact g_sub [3, 4, 5, 6, 2, 1, 0] rfl (loop9 ((n + 1) + 1 - 0) 0 (by omega) (by omega))

set_option maxRecDepth 100000 in
set_option maxHeartbeats 4000000 in
theorem c_X6_give_out (q : gQ3) {M : gM} {B : gB} (hI : cI M B) {x0 : Int32} (hx0 : ¬ isPl B x0) : gCt (wC q) yX6_give cX6_give 3 (some .long) 8 [.ref (q.2.2 0), .int x0] M (gR (some (.long (-1))) M) := by
  refine gMet RX6 (by decide +kernel) rfl (Nat.le_of_ble_eq_true rfl) (fun X hC => ?_)
  have hC : gC X (wC q) cX6_give 3 RX6 (some .long) 8 := hC
  show gG X (wC q) _ 3 M 0 [(0, .ref (q.2.2 0)), (1, .int x0)] []
  refine g_aload_n hC (gDec_at DX6_give_0 0 rfl) rfl ?_
  refine g_get (w := wC q) hC 0 (v := .ref (q.2.2 9)) fl_X6_19 (show 0 < 63 from by decide) rfl rfl (gDec_at DX6_give_0 1 rfl) ?_
  refine g_iload_n hC (gDec_at DX6_give_0 2 rfl) rfl ?_
  refine g_callVd (w := wC q) hC 9 (c_X0_placeTold_out q hI hx0) vf_X0_placeTold ml_X6_79 (by decide) (show 9 < 63 from by decide) rfl rfl rfl rfl rfl (Nat.le_of_ble_eq_true rfl) (gDec_at DX6_give_0 3 rfl) ?_
  refine g_astore_nN hC (gDec_at DX6_give_0 4 rfl) (by decide) (L' := [(2, .null), (0, .ref (q.2.2 0)), (1, .int x0)]) rfl ?_
  refine g_aload_nN hC (gDec_at DX6_give_0 5 rfl) rfl ?_
  refine g_ifnonnullN hC (gDec_at DX6_give_0 6 rfl) ?_ 19 (by decide)
  refine g_ldc2 hC cl_X6_104 (v' := -1) rfl (gDec_at DX6_give_0 7 rfl) ?_
  refine g_goto hC (gDec_at DX6_give_0 8 rfl) 27 (by decide) ?_
  refine g_lret hC (gDec_at DX6_give_0 13 rfl) ?_
  exact ⟨rfl, rfl⟩

set_option maxRecDepth 100000 in
set_option maxHeartbeats 4000000 in
theorem c_X6_give_ok (q : gQ3) {M : gM} {B : gB} (hI : cI M B) {j : Nat} (hj : j < 12) (ht : j % 6 < B 9 0) : gCt (wC q) yX6_give cX6_give 3 (some .long) 8 [.ref (q.2.2 0), .int (nI (10 * (j / 6) + j % 6))] M (gR (some (.long (lN (sGive B j (B 1 j))))) M) := by
  refine gMet RX6 (by decide +kernel) rfl (Nat.le_of_ble_eq_true rfl) (fun X hC => ?_)
  have hC : gC X (wC q) cX6_give 3 RX6 (some .long) 8 := hC
  show gG X (wC q) _ 3 M 0 [(0, .ref (q.2.2 0)), (1, .int (nI (10 * (j / 6) + j % 6)))] []
  refine g_aload_n hC (gDec_at DX6_give_0 0 rfl) rfl ?_
  refine g_get (w := wC q) hC 0 (v := .ref (q.2.2 9)) fl_X6_19 (show 0 < 63 from by decide) rfl rfl (gDec_at DX6_give_0 1 rfl) ?_
  refine g_iload_n hC (gDec_at DX6_give_0 2 rfl) rfl ?_
  refine g_callVd (w := wC q) hC 9 (c_X0_placeTold q hI hj ht) vf_X0_placeTold ml_X6_79 (by decide) (show 9 < 63 from by decide) rfl rfl rfl rfl rfl (Nat.le_of_ble_eq_true rfl) (gDec_at DX6_give_0 3 rfl) ?_
  refine g_astore_n hC (gDec_at DX6_give_0 4 rfl) (by decide) (L' := [(2, .ref (q.2.2 (15 + j))), (0, .ref (q.2.2 0)), (1, .int (nI (10 * (j / 6) + j % 6)))]) rfl ?_
  refine g_aload_n hC (gDec_at DX6_give_0 5 rfl) rfl ?_
  refine g_ifnonnull hC (gDec_at DX6_give_0 6 rfl) 19 (by decide) ?_
  refine g_aload_n hC (gDec_at DX6_give_0 9 rfl) rfl ?_
  refine g_get (w := wC q) hC 0 (v := .ref (q.2.2 9)) fl_X6_19 (show 0 < 63 from by decide) rfl rfl (gDec_at DX6_give_0 10 rfl) ?_
  refine g_aload_n hC (gDec_at DX6_give_0 11 rfl) rfl ?_
  refine g_callVd (w := wC q) hC 9 (c_X0_giveOf q hI hj ht) vf_X0_giveOf ml_X6_106 (by decide) (show 9 < 63 from by decide) rfl rfl rfl rfl rfl (Nat.le_of_ble_eq_true rfl) (gDec_at DX6_give_0 12 rfl) ?_
  refine g_lret hC (gDec_at DX6_give_0 13 rfl) ?_
  exact ⟨rfl, rfl⟩

set_option maxRecDepth 100000 in
set_option maxHeartbeats 4000000 in
theorem c_X6_limb_out (q : gQ3) {M : gM} {B : gB} (hI : cI M B) {x0 : Int32} (hx0 : ¬ gin x0 0 1) : gCt (wC q) yX6_limb cX6_limb 2 (some .long) 8 [.ref (q.2.2 0), .int x0] M (gR (some (.long (-1))) M) := by
  refine gMet RX6 (by decide +kernel) rfl (Nat.le_of_ble_eq_true rfl) (fun X hC => ?_)
  have hC : gC X (wC q) cX6_limb 2 RX6 (some .long) 8 := hC
  show gG X (wC q) _ 2 M 0 [(0, .ref (q.2.2 0)), (1, .int x0)] []
  refine g_iload_n hC (gDec_at DX6_limb_0 0 rfl) rfl ?_
  refine g_iconst hC (gDec_at DX6_limb_0 1 rfl) (v := nI 0) (by decide) ?_
  refine g_iconst hC (gDec_at DX6_limb_0 2 rfl) (v := nI 1) (by decide) ?_
  refine g_callSd (w := wC q) hC (c_X6_isOutside_out q (by omega) (by omega) hx0) sf_X6_isOutside ml_X6_60 (by decide) rfl rfl (Nat.le_of_ble_eq_true rfl) (gDec_at DX6_limb_0 3 rfl) ?_
  refine g_if_eqN hC (by decide) (gDec_at DX6_limb_0 4 rfl) 15 (by decide) (fun h => absurd h (by decide)) (fun h => ?_)
  refine g_ldc2 hC cl_X6_104 (v' := -1) rfl (gDec_at DX6_limb_0 5 rfl) ?_
  refine g_goto hC (gDec_at DX6_limb_0 6 rfl) 23 (by decide) ?_
  refine g_lret hC (gDec_at DX6_limb_0 11 rfl) ?_
  exact ⟨rfl, rfl⟩

set_option maxRecDepth 100000 in
set_option maxHeartbeats 4000000 in
theorem c_X6_limb_ok (q : gQ3) {M : gM} {B : gB} (hI : cI M B) {l : Nat} (hl : l < 2) : gCt (wC q) yX6_limb cX6_limb 2 (some .long) 8 [.ref (q.2.2 0), .int (nI l)] M (gR (some (.long (lN (sLimb B l)))) M) := by
  refine gMet RX6 (by decide +kernel) rfl (Nat.le_of_ble_eq_true rfl) (fun X hC => ?_)
  have hC : gC X (wC q) cX6_limb 2 RX6 (some .long) 8 := hC
  show gG X (wC q) _ 2 M 0 [(0, .ref (q.2.2 0)), (1, .int (nI l))] []
  refine g_iload_n hC (gDec_at DX6_limb_0 0 rfl) rfl ?_
  refine g_iconst hC (gDec_at DX6_limb_0 1 rfl) (v := nI 0) (by decide) ?_
  refine g_iconst hC (gDec_at DX6_limb_0 2 rfl) (v := nI 1) (by decide) ?_
  refine g_callSd (w := wC q) hC (c_X6_isOutside_in q (by omega) (by omega) (nI_gin (k := l) (a := 0) (b := 1) (by omega) (by omega) (by omega))) sf_X6_isOutside ml_X6_60 (by decide) rfl rfl (Nat.le_of_ble_eq_true rfl) (gDec_at DX6_limb_0 3 rfl) ?_
  refine g_if_eqN hC (by decide) (gDec_at DX6_limb_0 4 rfl) 15 (by decide) (fun h => ?_) (fun h => absurd h (by decide))
  refine g_aload_n hC (gDec_at DX6_limb_0 7 rfl) rfl ?_
  refine g_get (w := wC q) hC 0 (v := .ref (q.2.2 9)) fl_X6_19 (show 0 < 63 from by decide) rfl rfl (gDec_at DX6_limb_0 8 rfl) ?_
  refine g_iload_n hC (gDec_at DX6_limb_0 9 rfl) rfl ?_
  refine g_callVd (w := wC q) hC 9 (c_X0_limbGives q hI (l := l) (by omega)) vf_X0_limbGives ml_X6_110 (by decide) (show 9 < 63 from by decide) rfl rfl rfl rfl rfl (Nat.le_of_ble_eq_true rfl) (gDec_at DX6_limb_0 10 rfl) ?_
  refine g_lret hC (gDec_at DX6_limb_0 11 rfl) ?_
  exact ⟨rfl, rfl⟩

set_option maxRecDepth 100000 in
set_option maxHeartbeats 4000000 in
theorem c_X6_follow_ok (q : gQ3) {M : gM} {B : gB} (hI : cI M B) : gCt (wC q) yX6_follow cX6_follow 1 (some .int) 8 [.ref (q.2.2 0)] M (gR (some (.int (nI (sSets B / 10)))) M) := by
  refine gMet RX6 (by decide +kernel) rfl (Nat.le_of_ble_eq_true rfl) (fun X hC => ?_)
  have hC : gC X (wC q) cX6_follow 1 RX6 (some .int) 8 := hC
  show gG X (wC q) _ 1 M 0 [(0, .ref (q.2.2 0))] []
  refine g_aload_n hC (gDec_at DX6_follow_0 0 rfl) rfl ?_
  refine g_get (w := wC q) hC 0 (v := .ref (q.2.2 9)) fl_X6_19 (show 0 < 63 from by decide) rfl rfl (gDec_at DX6_follow_0 1 rfl) ?_
  refine g_callVd (w := wC q) hC 9 (c_X0_followed q hI) vf_X0_followed ml_X6_114 (by decide) (show 9 < 63 from by decide) rfl rfl rfl rfl rfl (Nat.le_of_ble_eq_true rfl) (gDec_at DX6_follow_0 2 rfl) ?_
  refine g_iret hC (gDec_at DX6_follow_0 3 rfl) ?_
  exact ⟨rfl, rfl⟩

set_option maxRecDepth 100000 in
set_option maxHeartbeats 4000000 in
theorem c_X6_weight_out (q : gQ3) {M : gM} {B : gB} (hI : cI M B) {x0 : Int32} (hx0 : ¬ gin x0 0 40) {u : Nat} (hu : u ≤ 1) : gCt (wC q) yX6_weight cX6_weight 3 (some .long) 8 [.ref (q.2.2 0), .int x0, .int (nI u)] M (gR (some (.long (-2))) M) := by
  refine gMet RX6 (by decide +kernel) rfl (Nat.le_of_ble_eq_true rfl) (fun X hC => ?_)
  have hC : gC X (wC q) cX6_weight 3 RX6 (some .long) 8 := hC
  show gG X (wC q) _ 3 M 0 [(0, .ref (q.2.2 0)), (1, .int x0), (2, .int (nI u))] []
  refine g_iload_n hC (gDec_at DX6_weight_0 0 rfl) rfl ?_
  refine g_callSd (w := wC q) hC (c_X6_isBadDraw_out q hx0) sf_X6_isBadDraw ml_X6_117 (by decide) rfl rfl (Nat.le_of_ble_eq_true rfl) (gDec_at DX6_weight_0 1 rfl) ?_
  refine g_if_eqN hC (by decide) (gDec_at DX6_weight_0 2 rfl) 11 (by decide) (fun h => absurd h (by decide)) (fun h => ?_)
  refine g_ldc2 hC cl_X6_121 (v' := -2) rfl (gDec_at DX6_weight_0 3 rfl) ?_
  refine g_lret hC (gDec_at DX6_weight_0 4 rfl) ?_
  exact ⟨rfl, rfl⟩

set_option maxRecDepth 100000 in
set_option maxHeartbeats 4000000 in
theorem c_X6_weight_ok (q : gQ3) {M : gM} {B : gB} (hI : cI M B) {x : Nat} (hx : x ≤ 40) {u : Nat} (hu : u ≤ 1) : gCt (wC q) yX6_weight cX6_weight 3 (some .long) 8 [.ref (q.2.2 0), .int (nI x), .int (nI u)] M (gR (some (.long (lN (sTo (sPull B x) (sAll B) u)))) M) := by
  refine gMet RX6 (by decide +kernel) rfl (Nat.le_of_ble_eq_true rfl) (fun X hC => ?_)
  have hC : gC X (wC q) cX6_weight 3 RX6 (some .long) 8 := hC
  show gG X (wC q) _ 3 M 0 [(0, .ref (q.2.2 0)), (1, .int (nI x)), (2, .int (nI u))] []
  have hpl := sPull_le B hx
  have hal := sAll_le B
  have has := sAll_ps hI.2.2
  refine g_iload_n hC (gDec_at DX6_weight_0 0 rfl) rfl ?_
  refine g_callSd (w := wC q) hC (c_X6_isBadDraw_in q (k := x) (by omega)) sf_X6_isBadDraw ml_X6_117 (by decide) rfl rfl (Nat.le_of_ble_eq_true rfl) (gDec_at DX6_weight_0 1 rfl) ?_
  refine g_if_eqN hC (by decide) (gDec_at DX6_weight_0 2 rfl) 11 (by decide) (fun h => ?_) (fun h => absurd h (by decide))
  refine g_aload_n hC (gDec_at DX6_weight_0 5 rfl) rfl ?_
  refine g_get (w := wC q) hC 0 (v := .ref (q.2.2 9)) fl_X6_19 (show 0 < 63 from by decide) rfl rfl (gDec_at DX6_weight_0 6 rfl) ?_
  refine g_iload_n hC (gDec_at DX6_weight_0 7 rfl) rfl ?_
  refine g_callVd (w := wC q) hC 9 (c_X0_pullAt q hI (x := x) (by omega)) vf_X0_pullAt ml_X6_123 (by decide) (show 9 < 63 from by decide) rfl rfl rfl rfl rfl (Nat.le_of_ble_eq_true rfl) (gDec_at DX6_weight_0 8 rfl) ?_
  refine g_aload_n hC (gDec_at DX6_weight_0 9 rfl) rfl ?_
  refine g_get (w := wC q) hC 0 (v := .ref (q.2.2 9)) fl_X6_19 (show 0 < 63 from by decide) rfl rfl (gDec_at DX6_weight_0 10 rfl) ?_
  refine g_callVd (w := wC q) hC 9 (c_X0_allGives q hI) vf_X0_allGives ml_X6_126 (by decide) (show 9 < 63 from by decide) rfl rfl rfl rfl rfl (Nat.le_of_ble_eq_true rfl) (gDec_at DX6_weight_0 11 rfl) ?_
  refine g_iload_n hC (gDec_at DX6_weight_0 12 rfl) rfl ?_
  refine g_callSd (w := wC q) hC (c_X6_fractionPart q (a := (sPull B x)) (b := (sAll B)) (u := u) (by omega) (by omega) (by omega)) sf_X6_fractionPart ml_X6_130 (by decide) rfl rfl (Nat.le_of_ble_eq_true rfl) (gDec_at DX6_weight_0 13 rfl) ?_
  refine g_lret hC (gDec_at DX6_weight_0 14 rfl) ?_
  exact ⟨rfl, rfl⟩

set_option maxRecDepth 100000 in
set_option maxHeartbeats 4000000 in
theorem c_X6_strain_out (q : gQ3) {M : gM} {B : gB} (hI : cI M B) {x0 : Int32} (hx0 : ¬ isPl B x0) {x1 : Int32} : gCt (wC q) yX6_strain cX6_strain 4 (some .long) 8 [.ref (q.2.2 0), .int x0, .int x1] M (gR (some (.long (-1))) M) := by
  refine gMet RX6 (by decide +kernel) rfl (Nat.le_of_ble_eq_true rfl) (fun X hC => ?_)
  have hC : gC X (wC q) cX6_strain 4 RX6 (some .long) 8 := hC
  show gG X (wC q) _ 4 M 0 [(0, .ref (q.2.2 0)), (1, .int x0), (2, .int x1)] []
  refine g_aload_n hC (gDec_at DX6_strain_0 0 rfl) rfl ?_
  refine g_get (w := wC q) hC 0 (v := .ref (q.2.2 9)) fl_X6_19 (show 0 < 63 from by decide) rfl rfl (gDec_at DX6_strain_0 1 rfl) ?_
  refine g_iload_n hC (gDec_at DX6_strain_0 2 rfl) rfl ?_
  refine g_callVd (w := wC q) hC 9 (c_X0_placeTold_out q hI hx0) vf_X0_placeTold ml_X6_79 (by decide) (show 9 < 63 from by decide) rfl rfl rfl rfl rfl (Nat.le_of_ble_eq_true rfl) (gDec_at DX6_strain_0 3 rfl) ?_
  refine g_astore_nN hC (gDec_at DX6_strain_0 4 rfl) (by decide) (L' := [(3, .null), (0, .ref (q.2.2 0)), (1, .int x0), (2, .int x1)]) rfl ?_
  refine g_aload_nN hC (gDec_at DX6_strain_0 5 rfl) rfl ?_
  refine g_ifnonnullN hC (gDec_at DX6_strain_0 6 rfl) ?_ 17 (by decide)
  refine g_ldc2 hC cl_X6_104 (v' := -1) rfl (gDec_at DX6_strain_0 7 rfl) ?_
  refine g_lret hC (gDec_at DX6_strain_0 8 rfl) ?_
  exact ⟨rfl, rfl⟩

set_option maxRecDepth 100000 in
set_option maxHeartbeats 4000000 in
theorem c_X6_strain_bad (q : gQ3) {M : gM} {B : gB} (hI : cI M B) {j : Nat} (hj : j < 12) (ht : j % 6 < B 9 0) {x1 : Int32} (hx1 : ¬ gin x1 0 40) : gCt (wC q) yX6_strain cX6_strain 4 (some .long) 8 [.ref (q.2.2 0), .int (nI (10 * (j / 6) + j % 6)), .int x1] M (gR (some (.long (-2))) M) := by
  refine gMet RX6 (by decide +kernel) rfl (Nat.le_of_ble_eq_true rfl) (fun X hC => ?_)
  have hC : gC X (wC q) cX6_strain 4 RX6 (some .long) 8 := hC
  show gG X (wC q) _ 4 M 0 [(0, .ref (q.2.2 0)), (1, .int (nI (10 * (j / 6) + j % 6))), (2, .int x1)] []
  refine g_aload_n hC (gDec_at DX6_strain_0 0 rfl) rfl ?_
  refine g_get (w := wC q) hC 0 (v := .ref (q.2.2 9)) fl_X6_19 (show 0 < 63 from by decide) rfl rfl (gDec_at DX6_strain_0 1 rfl) ?_
  refine g_iload_n hC (gDec_at DX6_strain_0 2 rfl) rfl ?_
  refine g_callVd (w := wC q) hC 9 (c_X0_placeTold q hI hj ht) vf_X0_placeTold ml_X6_79 (by decide) (show 9 < 63 from by decide) rfl rfl rfl rfl rfl (Nat.le_of_ble_eq_true rfl) (gDec_at DX6_strain_0 3 rfl) ?_
  refine g_astore_n hC (gDec_at DX6_strain_0 4 rfl) (by decide) (L' := [(3, .ref (q.2.2 (15 + j))), (0, .ref (q.2.2 0)), (1, .int (nI (10 * (j / 6) + j % 6))), (2, .int x1)]) rfl ?_
  refine g_aload_n hC (gDec_at DX6_strain_0 5 rfl) rfl ?_
  refine g_ifnonnull hC (gDec_at DX6_strain_0 6 rfl) 17 (by decide) ?_
  refine g_iload_n hC (gDec_at DX6_strain_0 9 rfl) rfl ?_
  refine g_callSd (w := wC q) hC (c_X6_isBadDraw_out q hx1) sf_X6_isBadDraw ml_X6_117 (by decide) rfl rfl (Nat.le_of_ble_eq_true rfl) (gDec_at DX6_strain_0 10 rfl) ?_
  refine g_if_eqN hC (by decide) (gDec_at DX6_strain_0 11 rfl) 28 (by decide) (fun h => absurd h (by decide)) (fun h => ?_)
  refine g_ldc2 hC cl_X6_121 (v' := -2) rfl (gDec_at DX6_strain_0 12 rfl) ?_
  refine g_lret hC (gDec_at DX6_strain_0 13 rfl) ?_
  exact ⟨rfl, rfl⟩

set_option maxRecDepth 100000 in
set_option maxHeartbeats 4000000 in
theorem c_X6_strain_ok (q : gQ3) {M : gM} {B : gB} (hI : cI M B) {j : Nat} (hj : j < 12) (ht : j % 6 < B 9 0) {x : Nat} (hx : x ≤ 40) : gCt (wC q) yX6_strain cX6_strain 4 (some .long) 8 [.ref (q.2.2 0), .int (nI (10 * (j / 6) + j % 6)), .int (nI x)] M (gR (some (.long (lN (sStr B (sPull B x) (sAll B) j)))) M) := by
  refine gMet RX6 (by decide +kernel) rfl (Nat.le_of_ble_eq_true rfl) (fun X hC => ?_)
  have hC : gC X (wC q) cX6_strain 4 RX6 (some .long) 8 := hC
  show gG X (wC q) _ 4 M 0 [(0, .ref (q.2.2 0)), (1, .int (nI (10 * (j / 6) + j % 6))), (2, .int (nI x))] []
  have hpl := sPull_le B hx
  have hal := sAll_le B
  have has := sAll_ps hI.2.2
  refine g_aload_n hC (gDec_at DX6_strain_0 0 rfl) rfl ?_
  refine g_get (w := wC q) hC 0 (v := .ref (q.2.2 9)) fl_X6_19 (show 0 < 63 from by decide) rfl rfl (gDec_at DX6_strain_0 1 rfl) ?_
  refine g_iload_n hC (gDec_at DX6_strain_0 2 rfl) rfl ?_
  refine g_callVd (w := wC q) hC 9 (c_X0_placeTold q hI hj ht) vf_X0_placeTold ml_X6_79 (by decide) (show 9 < 63 from by decide) rfl rfl rfl rfl rfl (Nat.le_of_ble_eq_true rfl) (gDec_at DX6_strain_0 3 rfl) ?_
  refine g_astore_n hC (gDec_at DX6_strain_0 4 rfl) (by decide) (L' := [(3, .ref (q.2.2 (15 + j))), (0, .ref (q.2.2 0)), (1, .int (nI (10 * (j / 6) + j % 6))), (2, .int (nI x))]) rfl ?_
  refine g_aload_n hC (gDec_at DX6_strain_0 5 rfl) rfl ?_
  refine g_ifnonnull hC (gDec_at DX6_strain_0 6 rfl) 17 (by decide) ?_
  refine g_iload_n hC (gDec_at DX6_strain_0 9 rfl) rfl ?_
  refine g_callSd (w := wC q) hC (c_X6_isBadDraw_in q (k := x) (by omega)) sf_X6_isBadDraw ml_X6_117 (by decide) rfl rfl (Nat.le_of_ble_eq_true rfl) (gDec_at DX6_strain_0 10 rfl) ?_
  refine g_if_eqN hC (by decide) (gDec_at DX6_strain_0 11 rfl) 28 (by decide) (fun h => ?_) (fun h => absurd h (by decide))
  refine g_aload_n hC (gDec_at DX6_strain_0 14 rfl) rfl ?_
  refine g_get (w := wC q) hC 0 (v := .ref (q.2.2 9)) fl_X6_19 (show 0 < 63 from by decide) rfl rfl (gDec_at DX6_strain_0 15 rfl) ?_
  refine g_aload_n hC (gDec_at DX6_strain_0 16 rfl) rfl ?_
  refine g_aload_n hC (gDec_at DX6_strain_0 17 rfl) rfl ?_
  refine g_get (w := wC q) hC 0 (v := .ref (q.2.2 9)) fl_X6_19 (show 0 < 63 from by decide) rfl rfl (gDec_at DX6_strain_0 18 rfl) ?_
  refine g_iload_n hC (gDec_at DX6_strain_0 19 rfl) rfl ?_
  refine g_callVd (w := wC q) hC 9 (c_X0_pullAt q hI (x := x) (by omega)) vf_X0_pullAt ml_X6_123 (by decide) (show 9 < 63 from by decide) rfl rfl rfl rfl rfl (Nat.le_of_ble_eq_true rfl) (gDec_at DX6_strain_0 20 rfl) ?_
  refine g_aload_n hC (gDec_at DX6_strain_0 21 rfl) rfl ?_
  refine g_get (w := wC q) hC 0 (v := .ref (q.2.2 9)) fl_X6_19 (show 0 < 63 from by decide) rfl rfl (gDec_at DX6_strain_0 22 rfl) ?_
  refine g_callVd (w := wC q) hC 9 (c_X0_allGives q hI) vf_X0_allGives ml_X6_126 (by decide) (show 9 < 63 from by decide) rfl rfl rfl rfl rfl (Nat.le_of_ble_eq_true rfl) (gDec_at DX6_strain_0 23 rfl) ?_
  refine g_callVd (w := wC q) hC 9 (c_X0_strainOf q hI hj ht (pull := (sPull B x)) (gives := (sAll B)) (by omega) (by omega)) vf_X0_strainOf ml_X6_134 (by decide) (show 9 < 63 from by decide) rfl rfl rfl rfl rfl (Nat.le_of_ble_eq_true rfl) (gDec_at DX6_strain_0 24 rfl) ?_
  refine g_lret hC (gDec_at DX6_strain_0 25 rfl) ?_
  exact ⟨rfl, rfl⟩

set_option maxRecDepth 100000 in
set_option maxHeartbeats 4000000 in
theorem c_X6_hinge_out (q : gQ3) {M : gM} {B : gB} (hI : cI M B) {x0 : Int32} (hx0 : ¬ gin x0 0 40) : gCt (wC q) yX6_hinge cX6_hinge 2 (some .int) 8 [.ref (q.2.2 0), .int x0] M (gR (some (.int (-2))) M) := by
  refine gMet RX6 (by decide +kernel) rfl (Nat.le_of_ble_eq_true rfl) (fun X hC => ?_)
  have hC : gC X (wC q) cX6_hinge 2 RX6 (some .int) 8 := hC
  show gG X (wC q) _ 2 M 0 [(0, .ref (q.2.2 0)), (1, .int x0)] []
  refine g_iload_n hC (gDec_at DX6_hinge_0 0 rfl) rfl ?_
  refine g_callSd (w := wC q) hC (c_X6_isBadDraw_out q hx0) sf_X6_isBadDraw ml_X6_117 (by decide) rfl rfl (Nat.le_of_ble_eq_true rfl) (gDec_at DX6_hinge_0 1 rfl) ?_
  refine g_if_eqN hC (by decide) (gDec_at DX6_hinge_0 2 rfl) 12 (by decide) (fun h => absurd h (by decide)) (fun h => ?_)
  refine g_bipush hC (gDec_at DX6_hinge_0 3 rfl) (v := -2) (by decide) ?_
  refine g_goto hC (gDec_at DX6_hinge_0 4 rfl) 21 (by decide) ?_
  refine g_iret hC (gDec_at DX6_hinge_0 10 rfl) ?_
  exact ⟨rfl, rfl⟩

set_option maxRecDepth 100000 in
set_option maxHeartbeats 4000000 in
theorem c_X6_hinge_ok (q : gQ3) {M : gM} {B : gB} (hI : cI M B) {x : Nat} (hx : x ≤ 40) : gCt (wC q) yX6_hinge cX6_hinge 2 (some .int) 8 [.ref (q.2.2 0), .int (nI x)] M (gR (some (.int (nI (sTold (sExt B (sStr B (sPull B x) (sAll B)) 1 12))))) M) := by
  refine gMet RX6 (by decide +kernel) rfl (Nat.le_of_ble_eq_true rfl) (fun X hC => ?_)
  have hC : gC X (wC q) cX6_hinge 2 RX6 (some .int) 8 := hC
  show gG X (wC q) _ 2 M 0 [(0, .ref (q.2.2 0)), (1, .int (nI x))] []
  refine g_iload_n hC (gDec_at DX6_hinge_0 0 rfl) rfl ?_
  refine g_callSd (w := wC q) hC (c_X6_isBadDraw_in q (k := x) (by omega)) sf_X6_isBadDraw ml_X6_117 (by decide) rfl rfl (Nat.le_of_ble_eq_true rfl) (gDec_at DX6_hinge_0 1 rfl) ?_
  refine g_if_eqN hC (by decide) (gDec_at DX6_hinge_0 2 rfl) 12 (by decide) (fun h => ?_) (fun h => absurd h (by decide))
  refine g_aload_n hC (gDec_at DX6_hinge_0 5 rfl) rfl ?_
  refine g_get (w := wC q) hC 0 (v := .ref (q.2.2 9)) fl_X6_19 (show 0 < 63 from by decide) rfl rfl (gDec_at DX6_hinge_0 6 rfl) ?_
  refine g_iload_n hC (gDec_at DX6_hinge_0 7 rfl) rfl ?_
  refine g_iconst hC (gDec_at DX6_hinge_0 8 rfl) (v := nI 1) (by decide) ?_
  refine g_callVd (w := wC q) hC 9 (c_X0_extremePlace q hI (x := x) (g := 1) (by omega) (by omega)) vf_X0_extremePlace ml_X6_152 (by decide) (show 9 < 63 from by decide) rfl rfl rfl rfl rfl (Nat.le_of_ble_eq_true rfl) (gDec_at DX6_hinge_0 9 rfl) ?_
  refine g_iret hC (gDec_at DX6_hinge_0 10 rfl) ?_
  exact ⟨rfl, rfl⟩

set_option maxRecDepth 100000 in
set_option maxHeartbeats 4000000 in
theorem c_X6_stiff_out (q : gQ3) {M : gM} {B : gB} (hI : cI M B) {x0 : Int32} (hx0 : ¬ gin x0 0 40) : gCt (wC q) yX6_stiff cX6_stiff 2 (some .int) 8 [.ref (q.2.2 0), .int x0] M (gR (some (.int (-2))) M) := by
  refine gMet RX6 (by decide +kernel) rfl (Nat.le_of_ble_eq_true rfl) (fun X hC => ?_)
  have hC : gC X (wC q) cX6_stiff 2 RX6 (some .int) 8 := hC
  show gG X (wC q) _ 2 M 0 [(0, .ref (q.2.2 0)), (1, .int x0)] []
  refine g_iload_n hC (gDec_at DX6_stiff_0 0 rfl) rfl ?_
  refine g_callSd (w := wC q) hC (c_X6_isBadDraw_out q hx0) sf_X6_isBadDraw ml_X6_117 (by decide) rfl rfl (Nat.le_of_ble_eq_true rfl) (gDec_at DX6_stiff_0 1 rfl) ?_
  refine g_if_eqN hC (by decide) (gDec_at DX6_stiff_0 2 rfl) 12 (by decide) (fun h => absurd h (by decide)) (fun h => ?_)
  refine g_bipush hC (gDec_at DX6_stiff_0 3 rfl) (v := -2) (by decide) ?_
  refine g_goto hC (gDec_at DX6_stiff_0 4 rfl) 21 (by decide) ?_
  refine g_iret hC (gDec_at DX6_stiff_0 10 rfl) ?_
  exact ⟨rfl, rfl⟩

set_option maxRecDepth 100000 in
set_option maxHeartbeats 4000000 in
theorem c_X6_stiff_ok (q : gQ3) {M : gM} {B : gB} (hI : cI M B) {x : Nat} (hx : x ≤ 40) : gCt (wC q) yX6_stiff cX6_stiff 2 (some .int) 8 [.ref (q.2.2 0), .int (nI x)] M (gR (some (.int (nI (sTold (sExt B (sStr B (sPull B x) (sAll B)) 0 12))))) M) := by
  refine gMet RX6 (by decide +kernel) rfl (Nat.le_of_ble_eq_true rfl) (fun X hC => ?_)
  have hC : gC X (wC q) cX6_stiff 2 RX6 (some .int) 8 := hC
  show gG X (wC q) _ 2 M 0 [(0, .ref (q.2.2 0)), (1, .int (nI x))] []
  refine g_iload_n hC (gDec_at DX6_stiff_0 0 rfl) rfl ?_
  refine g_callSd (w := wC q) hC (c_X6_isBadDraw_in q (k := x) (by omega)) sf_X6_isBadDraw ml_X6_117 (by decide) rfl rfl (Nat.le_of_ble_eq_true rfl) (gDec_at DX6_stiff_0 1 rfl) ?_
  refine g_if_eqN hC (by decide) (gDec_at DX6_stiff_0 2 rfl) 12 (by decide) (fun h => ?_) (fun h => absurd h (by decide))
  refine g_aload_n hC (gDec_at DX6_stiff_0 5 rfl) rfl ?_
  refine g_get (w := wC q) hC 0 (v := .ref (q.2.2 9)) fl_X6_19 (show 0 < 63 from by decide) rfl rfl (gDec_at DX6_stiff_0 6 rfl) ?_
  refine g_iload_n hC (gDec_at DX6_stiff_0 7 rfl) rfl ?_
  refine g_iconst hC (gDec_at DX6_stiff_0 8 rfl) (v := nI 0) (by decide) ?_
  refine g_callVd (w := wC q) hC 9 (c_X0_extremePlace q hI (x := x) (g := 0) (by omega) (by omega)) vf_X0_extremePlace ml_X6_152 (by decide) (show 9 < 63 from by decide) rfl rfl rfl rfl rfl (Nat.le_of_ble_eq_true rfl) (gDec_at DX6_stiff_0 9 rfl) ?_
  refine g_iret hC (gDec_at DX6_stiff_0 10 rfl) ?_
  exact ⟨rfl, rfl⟩

set_option maxRecDepth 100000 in
set_option maxHeartbeats 4000000 in
theorem c_X6_even_out (q : gQ3) {M : gM} {B : gB} (hI : cI M B) {x0 : Int32} (hx0 : ¬ gin x0 0 40) : gCt (wC q) yX6_even cX6_even 2 (some .int) 8 [.ref (q.2.2 0), .int x0] M (gR (some (.int (-2))) M) := by
  refine gMet RX6 (by decide +kernel) rfl (Nat.le_of_ble_eq_true rfl) (fun X hC => ?_)
  have hC : gC X (wC q) cX6_even 2 RX6 (some .int) 8 := hC
  show gG X (wC q) _ 2 M 0 [(0, .ref (q.2.2 0)), (1, .int x0)] []
  refine g_iload_n hC (gDec_at DX6_even_0 0 rfl) rfl ?_
  refine g_callSd (w := wC q) hC (c_X6_isBadDraw_out q hx0) sf_X6_isBadDraw ml_X6_117 (by decide) rfl rfl (Nat.le_of_ble_eq_true rfl) (gDec_at DX6_even_0 1 rfl) ?_
  refine g_if_eqN hC (by decide) (gDec_at DX6_even_0 2 rfl) 12 (by decide) (fun h => absurd h (by decide)) (fun h => ?_)
  refine g_bipush hC (gDec_at DX6_even_0 3 rfl) (v := -2) (by decide) ?_
  refine g_goto hC (gDec_at DX6_even_0 4 rfl) 34 (by decide) ?_
  refine g_iret hC (gDec_at DX6_even_0 15 rfl) ?_
  exact ⟨rfl, rfl⟩

set_option maxRecDepth 100000 in
set_option maxHeartbeats 4000000 in
theorem c_X6_even_ok (q : gQ3) {M : gM} {B : gB} (hI : cI M B) {x : Nat} (hx : x ≤ 40) : gCt (wC q) yX6_even cX6_even 2 (some .int) 8 [.ref (q.2.2 0), .int (nI x)] M (gR (some (.int (nI (sEvn B (sPull B x) (sAll B))))) M) := by
  refine gMet RX6 (by decide +kernel) rfl (Nat.le_of_ble_eq_true rfl) (fun X hC => ?_)
  have hC : gC X (wC q) cX6_even 2 RX6 (some .int) 8 := hC
  show gG X (wC q) _ 2 M 0 [(0, .ref (q.2.2 0)), (1, .int (nI x))] []
  have hpl := sPull_le B hx
  have hal := sAll_le B
  have has := sAll_ps hI.2.2
  refine g_iload_n hC (gDec_at DX6_even_0 0 rfl) rfl ?_
  refine g_callSd (w := wC q) hC (c_X6_isBadDraw_in q (k := x) (by omega)) sf_X6_isBadDraw ml_X6_117 (by decide) rfl rfl (Nat.le_of_ble_eq_true rfl) (gDec_at DX6_even_0 1 rfl) ?_
  refine g_if_eqN hC (by decide) (gDec_at DX6_even_0 2 rfl) 12 (by decide) (fun h => ?_) (fun h => absurd h (by decide))
  refine g_aload_n hC (gDec_at DX6_even_0 5 rfl) rfl ?_
  refine g_get (w := wC q) hC 0 (v := .ref (q.2.2 9)) fl_X6_19 (show 0 < 63 from by decide) rfl rfl (gDec_at DX6_even_0 6 rfl) ?_
  refine g_aload_n hC (gDec_at DX6_even_0 7 rfl) rfl ?_
  refine g_get (w := wC q) hC 0 (v := .ref (q.2.2 9)) fl_X6_19 (show 0 < 63 from by decide) rfl rfl (gDec_at DX6_even_0 8 rfl) ?_
  refine g_iload_n hC (gDec_at DX6_even_0 9 rfl) rfl ?_
  refine g_callVd (w := wC q) hC 9 (c_X0_pullAt q hI (x := x) (by omega)) vf_X0_pullAt ml_X6_123 (by decide) (show 9 < 63 from by decide) rfl rfl rfl rfl rfl (Nat.le_of_ble_eq_true rfl) (gDec_at DX6_even_0 10 rfl) ?_
  refine g_aload_n hC (gDec_at DX6_even_0 11 rfl) rfl ?_
  refine g_get (w := wC q) hC 0 (v := .ref (q.2.2 9)) fl_X6_19 (show 0 < 63 from by decide) rfl rfl (gDec_at DX6_even_0 12 rfl) ?_
  refine g_callVd (w := wC q) hC 9 (c_X0_allGives q hI) vf_X0_allGives ml_X6_126 (by decide) (show 9 < 63 from by decide) rfl rfl rfl rfl rfl (Nat.le_of_ble_eq_true rfl) (gDec_at DX6_even_0 13 rfl) ?_
  refine g_callVd (w := wC q) hC 9 (c_X0_evenness q hI (pull := (sPull B x)) (gives := (sAll B)) (by omega) (by omega)) vf_X0_evenness ml_X6_156 (by decide) (show 9 < 63 from by decide) rfl rfl rfl rfl rfl (Nat.le_of_ble_eq_true rfl) (gDec_at DX6_even_0 14 rfl) ?_
  refine g_iret hC (gDec_at DX6_even_0 15 rfl) ?_
  exact ⟨rfl, rfl⟩

set_option maxRecDepth 100000 in
set_option maxHeartbeats 4000000 in
theorem c_X6_form_out (q : gQ3) {M : gM} {B : gB} (hI : cI M B) {x0 : Int32} (hx0 : ¬ isPl B x0) {f s : Int32} : gCt (wC q) yX6_form cX6_form 5 (some .int) 8 [.ref (q.2.2 0), .int x0, .int f, .int s] M (gR (some (.int (-1))) M) := by
  refine gMet RX6 (by decide +kernel) rfl (Nat.le_of_ble_eq_true rfl) (fun X hC => ?_)
  have hC : gC X (wC q) cX6_form 5 RX6 (some .int) 8 := hC
  show gG X (wC q) _ 5 M 0 [(0, .ref (q.2.2 0)), (1, .int x0), (2, .int f), (3, .int s)] []
  refine g_aload_n hC (gDec_at DX6_form_0 0 rfl) rfl ?_
  refine g_get (w := wC q) hC 0 (v := .ref (q.2.2 9)) fl_X6_19 (show 0 < 63 from by decide) rfl rfl (gDec_at DX6_form_0 1 rfl) ?_
  refine g_iload_n hC (gDec_at DX6_form_0 2 rfl) rfl ?_
  refine g_callVd (w := wC q) hC 9 (c_X0_placeTold_out q hI hx0) vf_X0_placeTold ml_X6_79 (by decide) (show 9 < 63 from by decide) rfl rfl rfl rfl rfl (Nat.le_of_ble_eq_true rfl) (gDec_at DX6_form_0 3 rfl) ?_
  refine g_astoreN hC (gDec_at DX6_form_0 4 rfl) (by decide) (L' := [(4, .null), (0, .ref (q.2.2 0)), (1, .int x0), (2, .int f), (3, .int s)]) rfl ?_
  refine g_aloadN hC (gDec_at DX6_form_0 5 rfl) rfl ?_
  refine g_ifnonnullN hC (gDec_at DX6_form_0 6 rfl) ?_ 17 (by decide)
  refine g_iconst hC (gDec_at DX6_form_0 7 rfl) (v := -1) (by decide) ?_
  refine g_iret hC (gDec_at DX6_form_0 8 rfl) ?_
  exact ⟨rfl, rfl⟩

set_option maxRecDepth 100000 in
set_option maxHeartbeats 4000000 in
theorem c_X6_form_badf (q : gQ3) {M : gM} {B : gB} (hI : cI M B) {j : Nat} (hj : j < 12) (ht : j % 6 < B 9 0) {f : Int32} (hf : ¬ gin f 1 999) {s : Int32} : gCt (wC q) yX6_form cX6_form 5 (some .int) 8 [.ref (q.2.2 0), .int (nI (10 * (j / 6) + j % 6)), .int f, .int s] M (gR (some (.int (-2))) M) := by
  refine gMet RX6 (by decide +kernel) rfl (Nat.le_of_ble_eq_true rfl) (fun X hC => ?_)
  have hC : gC X (wC q) cX6_form 5 RX6 (some .int) 8 := hC
  show gG X (wC q) _ 5 M 0 [(0, .ref (q.2.2 0)), (1, .int (nI (10 * (j / 6) + j % 6))), (2, .int f), (3, .int s)] []
  refine g_aload_n hC (gDec_at DX6_form_0 0 rfl) rfl ?_
  refine g_get (w := wC q) hC 0 (v := .ref (q.2.2 9)) fl_X6_19 (show 0 < 63 from by decide) rfl rfl (gDec_at DX6_form_0 1 rfl) ?_
  refine g_iload_n hC (gDec_at DX6_form_0 2 rfl) rfl ?_
  refine g_callVd (w := wC q) hC 9 (c_X0_placeTold q hI hj ht) vf_X0_placeTold ml_X6_79 (by decide) (show 9 < 63 from by decide) rfl rfl rfl rfl rfl (Nat.le_of_ble_eq_true rfl) (gDec_at DX6_form_0 3 rfl) ?_
  refine g_astore hC (gDec_at DX6_form_0 4 rfl) (by decide) (L' := [(4, .ref (q.2.2 (15 + j))), (0, .ref (q.2.2 0)), (1, .int (nI (10 * (j / 6) + j % 6))), (2, .int f), (3, .int s)]) rfl ?_
  refine g_aload hC (gDec_at DX6_form_0 5 rfl) rfl ?_
  refine g_ifnonnull hC (gDec_at DX6_form_0 6 rfl) 17 (by decide) ?_
  refine g_iload_n hC (gDec_at DX6_form_0 9 rfl) rfl ?_
  refine g_iload_n hC (gDec_at DX6_form_0 10 rfl) rfl ?_
  refine g_callSd (w := wC q) hC (c_X6_isBadForm_0 q hf) sf_X6_isBadForm ml_X6_177 (by decide) rfl rfl (Nat.le_of_ble_eq_true rfl) (gDec_at DX6_form_0 11 rfl) ?_
  refine g_if_eqN hC (by decide) (gDec_at DX6_form_0 12 rfl) 30 (by decide) (fun h => absurd h (by decide)) (fun h => ?_)
  refine g_bipush hC (gDec_at DX6_form_0 13 rfl) (v := -2) (by decide) ?_
  refine g_goto hC (gDec_at DX6_form_0 14 rfl) 41 (by decide) ?_
  refine g_iret hC (gDec_at DX6_form_0 21 rfl) ?_
  exact ⟨rfl, rfl⟩

set_option maxRecDepth 100000 in
set_option maxHeartbeats 4000000 in
theorem c_X6_form_bads (q : gQ3) {M : gM} {B : gB} (hI : cI M B) {j : Nat} (hj : j < 12) (ht : j % 6 < B 9 0) {f : Nat} (hfa : 1 ≤ f) (hfb : f ≤ 999) {s : Int32} (hs : ¬ gin s 1 99) : gCt (wC q) yX6_form cX6_form 5 (some .int) 8 [.ref (q.2.2 0), .int (nI (10 * (j / 6) + j % 6)), .int (nI f), .int s] M (gR (some (.int (-2))) M) := by
  refine gMet RX6 (by decide +kernel) rfl (Nat.le_of_ble_eq_true rfl) (fun X hC => ?_)
  have hC : gC X (wC q) cX6_form 5 RX6 (some .int) 8 := hC
  show gG X (wC q) _ 5 M 0 [(0, .ref (q.2.2 0)), (1, .int (nI (10 * (j / 6) + j % 6))), (2, .int (nI f)), (3, .int s)] []
  refine g_aload_n hC (gDec_at DX6_form_0 0 rfl) rfl ?_
  refine g_get (w := wC q) hC 0 (v := .ref (q.2.2 9)) fl_X6_19 (show 0 < 63 from by decide) rfl rfl (gDec_at DX6_form_0 1 rfl) ?_
  refine g_iload_n hC (gDec_at DX6_form_0 2 rfl) rfl ?_
  refine g_callVd (w := wC q) hC 9 (c_X0_placeTold q hI hj ht) vf_X0_placeTold ml_X6_79 (by decide) (show 9 < 63 from by decide) rfl rfl rfl rfl rfl (Nat.le_of_ble_eq_true rfl) (gDec_at DX6_form_0 3 rfl) ?_
  refine g_astore hC (gDec_at DX6_form_0 4 rfl) (by decide) (L' := [(4, .ref (q.2.2 (15 + j))), (0, .ref (q.2.2 0)), (1, .int (nI (10 * (j / 6) + j % 6))), (2, .int (nI f)), (3, .int s)]) rfl ?_
  refine g_aload hC (gDec_at DX6_form_0 5 rfl) rfl ?_
  refine g_ifnonnull hC (gDec_at DX6_form_0 6 rfl) 17 (by decide) ?_
  refine g_iload_n hC (gDec_at DX6_form_0 9 rfl) rfl ?_
  refine g_iload_n hC (gDec_at DX6_form_0 10 rfl) rfl ?_
  refine g_callSd (w := wC q) hC (c_X6_isBadForm_1 q (by omega) (by omega) hs) sf_X6_isBadForm ml_X6_177 (by decide) rfl rfl (Nat.le_of_ble_eq_true rfl) (gDec_at DX6_form_0 11 rfl) ?_
  refine g_if_eqN hC (by decide) (gDec_at DX6_form_0 12 rfl) 30 (by decide) (fun h => absurd h (by decide)) (fun h => ?_)
  refine g_bipush hC (gDec_at DX6_form_0 13 rfl) (v := -2) (by decide) ?_
  refine g_goto hC (gDec_at DX6_form_0 14 rfl) 41 (by decide) ?_
  refine g_iret hC (gDec_at DX6_form_0 21 rfl) ?_
  exact ⟨rfl, rfl⟩

set_option maxRecDepth 100000 in
set_option maxHeartbeats 4000000 in
theorem c_X6_form_ok (q : gQ3) {M : gM} {B : gB} (hI : cI M B) {j : Nat} (hj : j < 12) (ht : j % 6 < B 9 0) {f : Nat} (hfa : 1 ≤ f) (hfb : f ≤ 999) {s : Nat} (hsa : 1 ≤ s) (hsb : s ≤ 99) : gCt (wC q) yX6_form cX6_form 5 (some .int) 8 [.ref (q.2.2 0), .int (nI (10 * (j / 6) + j % 6)), .int (nI f), .int (nI s)] M (gR (some (.int (fk (sForm B j f s)))) M) := by
  refine gMet RX6 (by decide +kernel) rfl (Nat.le_of_ble_eq_true rfl) (fun X hC => ?_)
  have hC : gC X (wC q) cX6_form 5 RX6 (some .int) 8 := hC
  show gG X (wC q) _ 5 M 0 [(0, .ref (q.2.2 0)), (1, .int (nI (10 * (j / 6) + j % 6))), (2, .int (nI f)), (3, .int (nI s))] []
  refine g_aload_n hC (gDec_at DX6_form_0 0 rfl) rfl ?_
  refine g_get (w := wC q) hC 0 (v := .ref (q.2.2 9)) fl_X6_19 (show 0 < 63 from by decide) rfl rfl (gDec_at DX6_form_0 1 rfl) ?_
  refine g_iload_n hC (gDec_at DX6_form_0 2 rfl) rfl ?_
  refine g_callVd (w := wC q) hC 9 (c_X0_placeTold q hI hj ht) vf_X0_placeTold ml_X6_79 (by decide) (show 9 < 63 from by decide) rfl rfl rfl rfl rfl (Nat.le_of_ble_eq_true rfl) (gDec_at DX6_form_0 3 rfl) ?_
  refine g_astore hC (gDec_at DX6_form_0 4 rfl) (by decide) (L' := [(4, .ref (q.2.2 (15 + j))), (0, .ref (q.2.2 0)), (1, .int (nI (10 * (j / 6) + j % 6))), (2, .int (nI f)), (3, .int (nI s))]) rfl ?_
  refine g_aload hC (gDec_at DX6_form_0 5 rfl) rfl ?_
  refine g_ifnonnull hC (gDec_at DX6_form_0 6 rfl) 17 (by decide) ?_
  refine g_iload_n hC (gDec_at DX6_form_0 9 rfl) rfl ?_
  refine g_iload_n hC (gDec_at DX6_form_0 10 rfl) rfl ?_
  refine g_callSd (w := wC q) hC (c_X6_isBadForm_2 q (by omega) (by omega) (by omega) (by omega)) sf_X6_isBadForm ml_X6_177 (by decide) rfl rfl (Nat.le_of_ble_eq_true rfl) (gDec_at DX6_form_0 11 rfl) ?_
  refine g_if_eqN hC (by decide) (gDec_at DX6_form_0 12 rfl) 30 (by decide) (fun h => ?_) (fun h => absurd h (by decide))
  refine g_aload_n hC (gDec_at DX6_form_0 15 rfl) rfl ?_
  refine g_get (w := wC q) hC 0 (v := .ref (q.2.2 9)) fl_X6_19 (show 0 < 63 from by decide) rfl rfl (gDec_at DX6_form_0 16 rfl) ?_
  refine g_aload hC (gDec_at DX6_form_0 17 rfl) rfl ?_
  refine g_iload_n hC (gDec_at DX6_form_0 18 rfl) rfl ?_
  refine g_iload_n hC (gDec_at DX6_form_0 19 rfl) rfl ?_
  refine g_callVd (w := wC q) hC 9 (c_X0_formDepth q hI hj ht (f := f) (s := s) (by omega) (by omega)) vf_X0_formDepth ml_X6_181 (by decide) (show 9 < 63 from by decide) rfl rfl rfl rfl rfl (Nat.le_of_ble_eq_true rfl) (gDec_at DX6_form_0 20 rfl) ?_
  refine g_iret hC (gDec_at DX6_form_0 21 rfl) ?_
  exact ⟨rfl, rfl⟩

set_option maxRecDepth 100000 in
set_option maxHeartbeats 4000000 in
theorem c_X6_pace_badm (q : gQ3) {M : gM} {B : gB} (hI : cI M B) {m : Int32} (hm : ¬ gin m 1 99) {x0 : Int32} {u : Nat} (hu : u ≤ 1) : gCt (wC q) yX6_pace cX6_pace 4 (some .long) 8 [.ref (q.2.2 0), .int m, .int x0, .int (nI u)] M (gR (some (.long (-2))) M) := by
  refine gMet RX6 (by decide +kernel) rfl (Nat.le_of_ble_eq_true rfl) (fun X hC => ?_)
  have hC : gC X (wC q) cX6_pace 4 RX6 (some .long) 8 := hC
  show gG X (wC q) _ 4 M 0 [(0, .ref (q.2.2 0)), (1, .int m), (2, .int x0), (3, .int (nI u))] []
  refine g_iload_n hC (gDec_at DX6_pace_0 0 rfl) rfl ?_
  refine g_iconst hC (gDec_at DX6_pace_0 1 rfl) (v := nI 1) (by decide) ?_
  refine g_bipush hC (gDec_at DX6_pace_0 2 rfl) (v := nI 99) (by decide) ?_
  refine g_callSd (w := wC q) hC (c_X6_isOutside_out q (by omega) (by omega) hm) sf_X6_isOutside ml_X6_60 (by decide) rfl rfl (Nat.le_of_ble_eq_true rfl) (gDec_at DX6_pace_0 3 rfl) ?_
  refine g_if_neN hC (by decide) (gDec_at DX6_pace_0 4 rfl) 17 (by decide) (fun h => ?_) (fun h => absurd h (by decide))
  refine g_ldc2 hC cl_X6_121 (v' := -2) rfl (gDec_at DX6_pace_0 8 rfl) ?_
  refine g_lret hC (gDec_at DX6_pace_0 9 rfl) ?_
  exact ⟨rfl, rfl⟩

set_option maxRecDepth 100000 in
set_option maxHeartbeats 4000000 in
theorem c_X6_pace_badx (q : gQ3) {M : gM} {B : gB} (hI : cI M B) {m : Nat} (hma : 1 ≤ m) (hmb : m ≤ 99) {x0 : Int32} (hx0 : ¬ gin x0 0 40) {u : Nat} (hu : u ≤ 1) : gCt (wC q) yX6_pace cX6_pace 4 (some .long) 8 [.ref (q.2.2 0), .int (nI m), .int x0, .int (nI u)] M (gR (some (.long (-2))) M) := by
  refine gMet RX6 (by decide +kernel) rfl (Nat.le_of_ble_eq_true rfl) (fun X hC => ?_)
  have hC : gC X (wC q) cX6_pace 4 RX6 (some .long) 8 := hC
  show gG X (wC q) _ 4 M 0 [(0, .ref (q.2.2 0)), (1, .int (nI m)), (2, .int x0), (3, .int (nI u))] []
  refine g_iload_n hC (gDec_at DX6_pace_0 0 rfl) rfl ?_
  refine g_iconst hC (gDec_at DX6_pace_0 1 rfl) (v := nI 1) (by decide) ?_
  refine g_bipush hC (gDec_at DX6_pace_0 2 rfl) (v := nI 99) (by decide) ?_
  refine g_callSd (w := wC q) hC (c_X6_isOutside_in q (by omega) (by omega) (nI_gin (k := m) (a := 1) (b := 99) (by omega) (by omega) (by omega))) sf_X6_isOutside ml_X6_60 (by decide) rfl rfl (Nat.le_of_ble_eq_true rfl) (gDec_at DX6_pace_0 3 rfl) ?_
  refine g_if_neN hC (by decide) (gDec_at DX6_pace_0 4 rfl) 17 (by decide) (fun h => absurd h (by decide)) (fun h => ?_)
  refine g_iload_n hC (gDec_at DX6_pace_0 5 rfl) rfl ?_
  refine g_callSd (w := wC q) hC (c_X6_isBadDraw_out q hx0) sf_X6_isBadDraw ml_X6_117 (by decide) rfl rfl (Nat.le_of_ble_eq_true rfl) (gDec_at DX6_pace_0 6 rfl) ?_
  refine g_if_eqN hC (by decide) (gDec_at DX6_pace_0 7 rfl) 21 (by decide) (fun h => absurd h (by decide)) (fun h => ?_)
  refine g_ldc2 hC cl_X6_121 (v' := -2) rfl (gDec_at DX6_pace_0 8 rfl) ?_
  refine g_lret hC (gDec_at DX6_pace_0 9 rfl) ?_
  exact ⟨rfl, rfl⟩

set_option maxRecDepth 100000 in
set_option maxHeartbeats 4000000 in
theorem c_X6_pace_ok (q : gQ3) {M : gM} {B : gB} (hI : cI M B) {m : Nat} (hma : 1 ≤ m) (hmb : m ≤ 99) {x : Nat} (hx : x ≤ 40) {u : Nat} (hu : u ≤ 1) : gCt (wC q) yX6_pace cX6_pace 4 (some .long) 8 [.ref (q.2.2 0), .int (nI m), .int (nI x), .int (nI u)] M (gR (some (.long (lN (sTo (sPull B x * x) (sAll B * (m + sLd B / 100)) u)))) M) := by
  refine gMet RX6 (by decide +kernel) rfl (Nat.le_of_ble_eq_true rfl) (fun X hC => ?_)
  have hC : gC X (wC q) cX6_pace 4 RX6 (some .long) 8 := hC
  show gG X (wC q) _ 4 M 0 [(0, .ref (q.2.2 0)), (1, .int (nI m)), (2, .int (nI x)), (3, .int (nI u))] []
  have hpl := sPull_le B hx
  have hal := sAll_le B
  have has := sAll_ps hI.2.2
  have hld := sLd_le hI.2.2
  have hpx := mul_bd hpl hx
  have haq := mul_bd hal (show m + sLd B / 100 ≤ 400 by omega)
  refine g_iload_n hC (gDec_at DX6_pace_0 0 rfl) rfl ?_
  refine g_iconst hC (gDec_at DX6_pace_0 1 rfl) (v := nI 1) (by decide) ?_
  refine g_bipush hC (gDec_at DX6_pace_0 2 rfl) (v := nI 99) (by decide) ?_
  refine g_callSd (w := wC q) hC (c_X6_isOutside_in q (by omega) (by omega) (nI_gin (k := m) (a := 1) (b := 99) (by omega) (by omega) (by omega))) sf_X6_isOutside ml_X6_60 (by decide) rfl rfl (Nat.le_of_ble_eq_true rfl) (gDec_at DX6_pace_0 3 rfl) ?_
  refine g_if_neN hC (by decide) (gDec_at DX6_pace_0 4 rfl) 17 (by decide) (fun h => absurd h (by decide)) (fun h => ?_)
  refine g_iload_n hC (gDec_at DX6_pace_0 5 rfl) rfl ?_
  refine g_callSd (w := wC q) hC (c_X6_isBadDraw_in q (k := x) (by omega)) sf_X6_isBadDraw ml_X6_117 (by decide) rfl rfl (Nat.le_of_ble_eq_true rfl) (gDec_at DX6_pace_0 6 rfl) ?_
  refine g_if_eqN hC (by decide) (gDec_at DX6_pace_0 7 rfl) 21 (by decide) (fun h => ?_) (fun h => absurd h (by decide))
  refine g_aload_n hC (gDec_at DX6_pace_0 10 rfl) rfl ?_
  refine g_get (w := wC q) hC 0 (v := .ref (q.2.2 9)) fl_X6_19 (show 0 < 63 from by decide) rfl rfl (gDec_at DX6_pace_0 11 rfl) ?_
  refine g_iload_n hC (gDec_at DX6_pace_0 12 rfl) rfl ?_
  refine g_callVd (w := wC q) hC 9 (c_X0_pullAt q hI (x := x) (by omega)) vf_X0_pullAt ml_X6_123 (by decide) (show 9 < 63 from by decide) rfl rfl rfl rfl rfl (Nat.le_of_ble_eq_true rfl) (gDec_at DX6_pace_0 13 rfl) ?_
  refine g_iload_n hC (gDec_at DX6_pace_0 14 rfl) rfl ?_
  refine g_i2lN hC (by omega) (gDec_at DX6_pace_0 15 rfl) ?_
  refine g_lmulN hC (gDec_at DX6_pace_0 16 rfl) ?_
  refine g_aload_n hC (gDec_at DX6_pace_0 17 rfl) rfl ?_
  refine g_get (w := wC q) hC 0 (v := .ref (q.2.2 9)) fl_X6_19 (show 0 < 63 from by decide) rfl rfl (gDec_at DX6_pace_0 18 rfl) ?_
  refine g_callVd (w := wC q) hC 9 (c_X0_allGives q hI) vf_X0_allGives ml_X6_126 (by decide) (show 9 < 63 from by decide) rfl rfl rfl rfl rfl (Nat.le_of_ble_eq_true rfl) (gDec_at DX6_pace_0 19 rfl) ?_
  refine g_iload_n hC (gDec_at DX6_pace_0 20 rfl) rfl ?_
  refine g_i2lN hC (by omega) (gDec_at DX6_pace_0 21 rfl) ?_
  refine g_aload_n hC (gDec_at DX6_pace_0 22 rfl) rfl ?_
  refine g_get (w := wC q) hC 0 (v := .ref (q.2.2 9)) fl_X6_19 (show 0 < 63 from by decide) rfl rfl (gDec_at DX6_pace_0 23 rfl) ?_
  refine g_callVd (w := wC q) hC 9 (c_X0_load q hI) vf_X0_load ml_X6_192 (by decide) (show 9 < 63 from by decide) rfl rfl rfl rfl rfl (Nat.le_of_ble_eq_true rfl) (gDec_at DX6_pace_0 24 rfl) ?_
  refine g_laddN hC (gDec_at DX6_pace_0 25 rfl) ?_
  refine g_lmulN hC (gDec_at DX6_pace_0 26 rfl) ?_
  refine g_iload_n hC (gDec_at DX6_pace_0 27 rfl) rfl ?_
  refine g_callSd (w := wC q) hC (c_X6_fractionPart q (a := ((sPull B x) * x)) (b := ((sAll B) * (m + (sLd B / 100)))) (u := u) (by omega) (by omega) (by omega)) sf_X6_fractionPart ml_X6_130 (by decide) rfl rfl (Nat.le_of_ble_eq_true rfl) (gDec_at DX6_pace_0 28 rfl) ?_
  refine g_lret hC (gDec_at DX6_pace_0 29 rfl) ?_
  exact ⟨rfl, rfl⟩

set_option maxRecDepth 100000 in
set_option maxHeartbeats 4000000 in
theorem c_X6_wet_badm (q : gQ3) {M : gM} {B : gB} (hI : cI M B) {m : Int32} (hm : ¬ gin m 0 50) {x0 : Int32} {u : Nat} (hu : u ≤ 1) : gCt (wC q) yX6_wet cX6_wet 4 (some .long) 8 [.ref (q.2.2 0), .int m, .int x0, .int (nI u)] M (gR (some (.long (-2))) M) := by
  refine gMet RX6 (by decide +kernel) rfl (Nat.le_of_ble_eq_true rfl) (fun X hC => ?_)
  have hC : gC X (wC q) cX6_wet 4 RX6 (some .long) 8 := hC
  show gG X (wC q) _ 4 M 0 [(0, .ref (q.2.2 0)), (1, .int m), (2, .int x0), (3, .int (nI u))] []
  refine g_iload_n hC (gDec_at DX6_wet_0 0 rfl) rfl ?_
  refine g_iconst hC (gDec_at DX6_wet_0 1 rfl) (v := nI 0) (by decide) ?_
  refine g_bipush hC (gDec_at DX6_wet_0 2 rfl) (v := nI 50) (by decide) ?_
  refine g_callSd (w := wC q) hC (c_X6_isOutside_out q (by omega) (by omega) hm) sf_X6_isOutside ml_X6_60 (by decide) rfl rfl (Nat.le_of_ble_eq_true rfl) (gDec_at DX6_wet_0 3 rfl) ?_
  refine g_if_neN hC (by decide) (gDec_at DX6_wet_0 4 rfl) 17 (by decide) (fun h => ?_) (fun h => absurd h (by decide))
  refine g_ldc2 hC cl_X6_121 (v' := -2) rfl (gDec_at DX6_wet_0 8 rfl) ?_
  refine g_lret hC (gDec_at DX6_wet_0 9 rfl) ?_
  exact ⟨rfl, rfl⟩

set_option maxRecDepth 100000 in
set_option maxHeartbeats 4000000 in
theorem c_X6_wet_badx (q : gQ3) {M : gM} {B : gB} (hI : cI M B) {m : Nat} (hma : 0 ≤ m) (hmb : m ≤ 50) {x0 : Int32} (hx0 : ¬ gin x0 0 40) {u : Nat} (hu : u ≤ 1) : gCt (wC q) yX6_wet cX6_wet 4 (some .long) 8 [.ref (q.2.2 0), .int (nI m), .int x0, .int (nI u)] M (gR (some (.long (-2))) M) := by
  refine gMet RX6 (by decide +kernel) rfl (Nat.le_of_ble_eq_true rfl) (fun X hC => ?_)
  have hC : gC X (wC q) cX6_wet 4 RX6 (some .long) 8 := hC
  show gG X (wC q) _ 4 M 0 [(0, .ref (q.2.2 0)), (1, .int (nI m)), (2, .int x0), (3, .int (nI u))] []
  refine g_iload_n hC (gDec_at DX6_wet_0 0 rfl) rfl ?_
  refine g_iconst hC (gDec_at DX6_wet_0 1 rfl) (v := nI 0) (by decide) ?_
  refine g_bipush hC (gDec_at DX6_wet_0 2 rfl) (v := nI 50) (by decide) ?_
  refine g_callSd (w := wC q) hC (c_X6_isOutside_in q (by omega) (by omega) (nI_gin (k := m) (a := 0) (b := 50) (by omega) (by omega) (by omega))) sf_X6_isOutside ml_X6_60 (by decide) rfl rfl (Nat.le_of_ble_eq_true rfl) (gDec_at DX6_wet_0 3 rfl) ?_
  refine g_if_neN hC (by decide) (gDec_at DX6_wet_0 4 rfl) 17 (by decide) (fun h => absurd h (by decide)) (fun h => ?_)
  refine g_iload_n hC (gDec_at DX6_wet_0 5 rfl) rfl ?_
  refine g_callSd (w := wC q) hC (c_X6_isBadDraw_out q hx0) sf_X6_isBadDraw ml_X6_117 (by decide) rfl rfl (Nat.le_of_ble_eq_true rfl) (gDec_at DX6_wet_0 6 rfl) ?_
  refine g_if_eqN hC (by decide) (gDec_at DX6_wet_0 7 rfl) 21 (by decide) (fun h => absurd h (by decide)) (fun h => ?_)
  refine g_ldc2 hC cl_X6_121 (v' := -2) rfl (gDec_at DX6_wet_0 8 rfl) ?_
  refine g_lret hC (gDec_at DX6_wet_0 9 rfl) ?_
  exact ⟨rfl, rfl⟩

set_option maxRecDepth 100000 in
set_option maxHeartbeats 4000000 in
theorem c_X6_wet_ok (q : gQ3) {M : gM} {B : gB} (hI : cI M B) {m : Nat} (hma : 0 ≤ m) (hmb : m ≤ 50) {x : Nat} (hx : x ≤ 40) {u : Nat} (hu : u ≤ 1) : gCt (wC q) yX6_wet cX6_wet 4 (some .long) 8 [.ref (q.2.2 0), .int (nI m), .int (nI x), .int (nI u)] M (gR (some (.long (lN (sTo (sPull B x * (100 - m)) (sAll B * 100) u)))) M) := by
  refine gMet RX6 (by decide +kernel) rfl (Nat.le_of_ble_eq_true rfl) (fun X hC => ?_)
  have hC : gC X (wC q) cX6_wet 4 RX6 (some .long) 8 := hC
  show gG X (wC q) _ 4 M 0 [(0, .ref (q.2.2 0)), (1, .int (nI m)), (2, .int (nI x)), (3, .int (nI u))] []
  have hpl := sPull_le B hx
  have hal := sAll_le B
  have has := sAll_ps hI.2.2
  have hpx := mul_bd hpl (show 100 - m ≤ 100 by omega)
  refine g_iload_n hC (gDec_at DX6_wet_0 0 rfl) rfl ?_
  refine g_iconst hC (gDec_at DX6_wet_0 1 rfl) (v := nI 0) (by decide) ?_
  refine g_bipush hC (gDec_at DX6_wet_0 2 rfl) (v := nI 50) (by decide) ?_
  refine g_callSd (w := wC q) hC (c_X6_isOutside_in q (by omega) (by omega) (nI_gin (k := m) (a := 0) (b := 50) (by omega) (by omega) (by omega))) sf_X6_isOutside ml_X6_60 (by decide) rfl rfl (Nat.le_of_ble_eq_true rfl) (gDec_at DX6_wet_0 3 rfl) ?_
  refine g_if_neN hC (by decide) (gDec_at DX6_wet_0 4 rfl) 17 (by decide) (fun h => absurd h (by decide)) (fun h => ?_)
  refine g_iload_n hC (gDec_at DX6_wet_0 5 rfl) rfl ?_
  refine g_callSd (w := wC q) hC (c_X6_isBadDraw_in q (k := x) (by omega)) sf_X6_isBadDraw ml_X6_117 (by decide) rfl rfl (Nat.le_of_ble_eq_true rfl) (gDec_at DX6_wet_0 6 rfl) ?_
  refine g_if_eqN hC (by decide) (gDec_at DX6_wet_0 7 rfl) 21 (by decide) (fun h => ?_) (fun h => absurd h (by decide))
  refine g_aload_n hC (gDec_at DX6_wet_0 10 rfl) rfl ?_
  refine g_get (w := wC q) hC 0 (v := .ref (q.2.2 9)) fl_X6_19 (show 0 < 63 from by decide) rfl rfl (gDec_at DX6_wet_0 11 rfl) ?_
  refine g_iload_n hC (gDec_at DX6_wet_0 12 rfl) rfl ?_
  refine g_callVd (w := wC q) hC 9 (c_X0_pullAt q hI (x := x) (by omega)) vf_X0_pullAt ml_X6_123 (by decide) (show 9 < 63 from by decide) rfl rfl rfl rfl rfl (Nat.le_of_ble_eq_true rfl) (gDec_at DX6_wet_0 13 rfl) ?_
  refine g_bipush hC (gDec_at DX6_wet_0 14 rfl) (v := nI 100) (by decide) ?_
  refine g_iload_n hC (gDec_at DX6_wet_0 15 rfl) rfl ?_
  refine g_isubN hC (by omega) (gDec_at DX6_wet_0 16 rfl) ?_
  refine g_i2lN hC (by omega) (gDec_at DX6_wet_0 17 rfl) ?_
  refine g_lmulN hC (gDec_at DX6_wet_0 18 rfl) ?_
  refine g_aload_n hC (gDec_at DX6_wet_0 19 rfl) rfl ?_
  refine g_get (w := wC q) hC 0 (v := .ref (q.2.2 9)) fl_X6_19 (show 0 < 63 from by decide) rfl rfl (gDec_at DX6_wet_0 20 rfl) ?_
  refine g_callVd (w := wC q) hC 9 (c_X0_allGives q hI) vf_X0_allGives ml_X6_126 (by decide) (show 9 < 63 from by decide) rfl rfl rfl rfl rfl (Nat.le_of_ble_eq_true rfl) (gDec_at DX6_wet_0 21 rfl) ?_
  refine g_ldc2 hC cl_X6_195 (v' := lN 100) (by decide) (gDec_at DX6_wet_0 22 rfl) ?_
  refine g_lmulN hC (gDec_at DX6_wet_0 23 rfl) ?_
  refine g_iload_n hC (gDec_at DX6_wet_0 24 rfl) rfl ?_
  refine g_callSd (w := wC q) hC (c_X6_fractionPart q (a := ((sPull B x) * (100 - m))) (b := ((sAll B) * 100)) (u := u) (by omega) (by omega) (by omega)) sf_X6_fractionPart ml_X6_130 (by decide) rfl rfl (Nat.le_of_ble_eq_true rfl) (gDec_at DX6_wet_0 25 rfl) ?_
  refine g_lret hC (gDec_at DX6_wet_0 26 rfl) ?_
  exact ⟨rfl, rfl⟩

set_option maxRecDepth 100000 in
set_option maxHeartbeats 4000000 in
theorem c_X6_lost_out (q : gQ3) {M : gM} {B : gB} (hI : cI M B) {x0 : Int32} (hx0 : ¬ isPl B x0) {a b x1 : Int32} {mo u : Nat} (hmo : mo ≤ 1) (hu : u ≤ 1) : gCt (wC q) yX6_lost cX6_lost 8 (some .long) 8 [.ref (q.2.2 0), .int x0, .int a, .int b, .int x1, .int (nI mo), .int (nI u)] M (gR (some (.long (-1))) M) := by
  refine gMet RX6 (by decide +kernel) rfl (Nat.le_of_ble_eq_true rfl) (fun X hC => ?_)
  have hC : gC X (wC q) cX6_lost 8 RX6 (some .long) 8 := hC
  show gG X (wC q) _ 8 M 0 [(0, .ref (q.2.2 0)), (1, .int x0), (2, .int a), (3, .int b), (4, .int x1), (5, .int (nI mo)), (6, .int (nI u))] []
  refine g_aload_n hC (gDec_at DX6_lost_0 0 rfl) rfl ?_
  refine g_get (w := wC q) hC 0 (v := .ref (q.2.2 9)) fl_X6_19 (show 0 < 63 from by decide) rfl rfl (gDec_at DX6_lost_0 1 rfl) ?_
  refine g_iload_n hC (gDec_at DX6_lost_0 2 rfl) rfl ?_
  refine g_callVd (w := wC q) hC 9 (c_X0_placeTold_out q hI hx0) vf_X0_placeTold ml_X6_79 (by decide) (show 9 < 63 from by decide) rfl rfl rfl rfl rfl (Nat.le_of_ble_eq_true rfl) (gDec_at DX6_lost_0 3 rfl) ?_
  refine g_astoreN hC (gDec_at DX6_lost_0 4 rfl) (by decide) (L' := [(7, .null), (0, .ref (q.2.2 0)), (1, .int x0), (2, .int a), (3, .int b), (4, .int x1), (5, .int (nI mo)), (6, .int (nI u))]) rfl ?_
  refine g_aloadN hC (gDec_at DX6_lost_0 5 rfl) rfl ?_
  refine g_ifnonnullN hC (gDec_at DX6_lost_0 6 rfl) ?_ 19 (by decide)
  refine g_ldc2 hC cl_X6_104 (v' := -1) rfl (gDec_at DX6_lost_0 7 rfl) ?_
  refine g_lret hC (gDec_at DX6_lost_0 8 rfl) ?_
  exact ⟨rfl, rfl⟩

set_option maxRecDepth 100000 in
set_option maxHeartbeats 4000000 in
theorem c_X6_lost_bada (q : gQ3) {M : gM} {B : gB} (hI : cI M B) {j : Nat} (hj : j < 12) (ht : j % 6 < B 9 0) {a : Int32} (ha : ¬ gin a 4 40) {b x1 : Int32} {mo u : Nat} (hmo : mo ≤ 1) (hu : u ≤ 1) : gCt (wC q) yX6_lost cX6_lost 8 (some .long) 8 [.ref (q.2.2 0), .int (nI (10 * (j / 6) + j % 6)), .int a, .int b, .int x1, .int (nI mo), .int (nI u)] M (gR (some (.long (-2))) M) := by
  refine gMet RX6 (by decide +kernel) rfl (Nat.le_of_ble_eq_true rfl) (fun X hC => ?_)
  have hC : gC X (wC q) cX6_lost 8 RX6 (some .long) 8 := hC
  show gG X (wC q) _ 8 M 0 [(0, .ref (q.2.2 0)), (1, .int (nI (10 * (j / 6) + j % 6))), (2, .int a), (3, .int b), (4, .int x1), (5, .int (nI mo)), (6, .int (nI u))] []
  refine g_aload_n hC (gDec_at DX6_lost_0 0 rfl) rfl ?_
  refine g_get (w := wC q) hC 0 (v := .ref (q.2.2 9)) fl_X6_19 (show 0 < 63 from by decide) rfl rfl (gDec_at DX6_lost_0 1 rfl) ?_
  refine g_iload_n hC (gDec_at DX6_lost_0 2 rfl) rfl ?_
  refine g_callVd (w := wC q) hC 9 (c_X0_placeTold q hI hj ht) vf_X0_placeTold ml_X6_79 (by decide) (show 9 < 63 from by decide) rfl rfl rfl rfl rfl (Nat.le_of_ble_eq_true rfl) (gDec_at DX6_lost_0 3 rfl) ?_
  refine g_astore hC (gDec_at DX6_lost_0 4 rfl) (by decide) (L' := [(7, .ref (q.2.2 (15 + j))), (0, .ref (q.2.2 0)), (1, .int (nI (10 * (j / 6) + j % 6))), (2, .int a), (3, .int b), (4, .int x1), (5, .int (nI mo)), (6, .int (nI u))]) rfl ?_
  refine g_aload hC (gDec_at DX6_lost_0 5 rfl) rfl ?_
  refine g_ifnonnull hC (gDec_at DX6_lost_0 6 rfl) 19 (by decide) ?_
  refine g_iload_n hC (gDec_at DX6_lost_0 9 rfl) rfl ?_
  refine g_iconst hC (gDec_at DX6_lost_0 10 rfl) (v := nI 4) (by decide) ?_
  refine g_bipush hC (gDec_at DX6_lost_0 11 rfl) (v := nI 40) (by decide) ?_
  refine g_callSd (w := wC q) hC (c_X6_isOutside_out q (by omega) (by omega) ha) sf_X6_isOutside ml_X6_60 (by decide) rfl rfl (Nat.le_of_ble_eq_true rfl) (gDec_at DX6_lost_0 12 rfl) ?_
  refine g_if_neN hC (by decide) (gDec_at DX6_lost_0 13 rfl) 47 (by decide) (fun h => ?_) (fun h => absurd h (by decide))
  refine g_ldc2 hC cl_X6_121 (v' := -2) rfl (gDec_at DX6_lost_0 22 rfl) ?_
  refine g_lret hC (gDec_at DX6_lost_0 23 rfl) ?_
  exact ⟨rfl, rfl⟩

set_option maxRecDepth 100000 in
set_option maxHeartbeats 4000000 in
theorem c_X6_lost_badb (q : gQ3) {M : gM} {B : gB} (hI : cI M B) {j : Nat} (hj : j < 12) (ht : j % 6 < B 9 0) {a : Nat} (haa : 4 ≤ a) (hab : a ≤ 40) {b : Int32} (hb : ¬ gin b a 40) {x1 : Int32} {mo u : Nat} (hmo : mo ≤ 1) (hu : u ≤ 1) : gCt (wC q) yX6_lost cX6_lost 8 (some .long) 8 [.ref (q.2.2 0), .int (nI (10 * (j / 6) + j % 6)), .int (nI a), .int b, .int x1, .int (nI mo), .int (nI u)] M (gR (some (.long (-2))) M) := by
  refine gMet RX6 (by decide +kernel) rfl (Nat.le_of_ble_eq_true rfl) (fun X hC => ?_)
  have hC : gC X (wC q) cX6_lost 8 RX6 (some .long) 8 := hC
  show gG X (wC q) _ 8 M 0 [(0, .ref (q.2.2 0)), (1, .int (nI (10 * (j / 6) + j % 6))), (2, .int (nI a)), (3, .int b), (4, .int x1), (5, .int (nI mo)), (6, .int (nI u))] []
  refine g_aload_n hC (gDec_at DX6_lost_0 0 rfl) rfl ?_
  refine g_get (w := wC q) hC 0 (v := .ref (q.2.2 9)) fl_X6_19 (show 0 < 63 from by decide) rfl rfl (gDec_at DX6_lost_0 1 rfl) ?_
  refine g_iload_n hC (gDec_at DX6_lost_0 2 rfl) rfl ?_
  refine g_callVd (w := wC q) hC 9 (c_X0_placeTold q hI hj ht) vf_X0_placeTold ml_X6_79 (by decide) (show 9 < 63 from by decide) rfl rfl rfl rfl rfl (Nat.le_of_ble_eq_true rfl) (gDec_at DX6_lost_0 3 rfl) ?_
  refine g_astore hC (gDec_at DX6_lost_0 4 rfl) (by decide) (L' := [(7, .ref (q.2.2 (15 + j))), (0, .ref (q.2.2 0)), (1, .int (nI (10 * (j / 6) + j % 6))), (2, .int (nI a)), (3, .int b), (4, .int x1), (5, .int (nI mo)), (6, .int (nI u))]) rfl ?_
  refine g_aload hC (gDec_at DX6_lost_0 5 rfl) rfl ?_
  refine g_ifnonnull hC (gDec_at DX6_lost_0 6 rfl) 19 (by decide) ?_
  refine g_iload_n hC (gDec_at DX6_lost_0 9 rfl) rfl ?_
  refine g_iconst hC (gDec_at DX6_lost_0 10 rfl) (v := nI 4) (by decide) ?_
  refine g_bipush hC (gDec_at DX6_lost_0 11 rfl) (v := nI 40) (by decide) ?_
  refine g_callSd (w := wC q) hC (c_X6_isOutside_in q (by omega) (by omega) (nI_gin (k := a) (a := 4) (b := 40) (by omega) (by omega) (by omega))) sf_X6_isOutside ml_X6_60 (by decide) rfl rfl (Nat.le_of_ble_eq_true rfl) (gDec_at DX6_lost_0 12 rfl) ?_
  refine g_if_neN hC (by decide) (gDec_at DX6_lost_0 13 rfl) 47 (by decide) (fun h => absurd h (by decide)) (fun h => ?_)
  refine g_iload_n hC (gDec_at DX6_lost_0 14 rfl) rfl ?_
  refine g_iload_n hC (gDec_at DX6_lost_0 15 rfl) rfl ?_
  refine g_bipush hC (gDec_at DX6_lost_0 16 rfl) (v := nI 40) (by decide) ?_
  refine g_callSd (w := wC q) hC (c_X6_isOutside_out q (by omega) (by omega) hb) sf_X6_isOutside ml_X6_60 (by decide) rfl rfl (Nat.le_of_ble_eq_true rfl) (gDec_at DX6_lost_0 17 rfl) ?_
  refine g_if_neN hC (by decide) (gDec_at DX6_lost_0 18 rfl) 47 (by decide) (fun h => ?_) (fun h => absurd h (by decide))
  refine g_ldc2 hC cl_X6_121 (v' := -2) rfl (gDec_at DX6_lost_0 22 rfl) ?_
  refine g_lret hC (gDec_at DX6_lost_0 23 rfl) ?_
  exact ⟨rfl, rfl⟩

set_option maxRecDepth 100000 in
set_option maxHeartbeats 4000000 in
theorem c_X6_lost_badx (q : gQ3) {M : gM} {B : gB} (hI : cI M B) {j : Nat} (hj : j < 12) (ht : j % 6 < B 9 0) {a : Nat} (haa : 4 ≤ a) (hab : a ≤ 40) {b : Nat} (hba : a ≤ b) (hbb : b ≤ 40) {x1 : Int32} (hx1 : ¬ gin x1 0 40) {mo u : Nat} (hmo : mo ≤ 1) (hu : u ≤ 1) : gCt (wC q) yX6_lost cX6_lost 8 (some .long) 8 [.ref (q.2.2 0), .int (nI (10 * (j / 6) + j % 6)), .int (nI a), .int (nI b), .int x1, .int (nI mo), .int (nI u)] M (gR (some (.long (-2))) M) := by
  refine gMet RX6 (by decide +kernel) rfl (Nat.le_of_ble_eq_true rfl) (fun X hC => ?_)
  have hC : gC X (wC q) cX6_lost 8 RX6 (some .long) 8 := hC
  show gG X (wC q) _ 8 M 0 [(0, .ref (q.2.2 0)), (1, .int (nI (10 * (j / 6) + j % 6))), (2, .int (nI a)), (3, .int (nI b)), (4, .int x1), (5, .int (nI mo)), (6, .int (nI u))] []
  refine g_aload_n hC (gDec_at DX6_lost_0 0 rfl) rfl ?_
  refine g_get (w := wC q) hC 0 (v := .ref (q.2.2 9)) fl_X6_19 (show 0 < 63 from by decide) rfl rfl (gDec_at DX6_lost_0 1 rfl) ?_
  refine g_iload_n hC (gDec_at DX6_lost_0 2 rfl) rfl ?_
  refine g_callVd (w := wC q) hC 9 (c_X0_placeTold q hI hj ht) vf_X0_placeTold ml_X6_79 (by decide) (show 9 < 63 from by decide) rfl rfl rfl rfl rfl (Nat.le_of_ble_eq_true rfl) (gDec_at DX6_lost_0 3 rfl) ?_
  refine g_astore hC (gDec_at DX6_lost_0 4 rfl) (by decide) (L' := [(7, .ref (q.2.2 (15 + j))), (0, .ref (q.2.2 0)), (1, .int (nI (10 * (j / 6) + j % 6))), (2, .int (nI a)), (3, .int (nI b)), (4, .int x1), (5, .int (nI mo)), (6, .int (nI u))]) rfl ?_
  refine g_aload hC (gDec_at DX6_lost_0 5 rfl) rfl ?_
  refine g_ifnonnull hC (gDec_at DX6_lost_0 6 rfl) 19 (by decide) ?_
  refine g_iload_n hC (gDec_at DX6_lost_0 9 rfl) rfl ?_
  refine g_iconst hC (gDec_at DX6_lost_0 10 rfl) (v := nI 4) (by decide) ?_
  refine g_bipush hC (gDec_at DX6_lost_0 11 rfl) (v := nI 40) (by decide) ?_
  refine g_callSd (w := wC q) hC (c_X6_isOutside_in q (by omega) (by omega) (nI_gin (k := a) (a := 4) (b := 40) (by omega) (by omega) (by omega))) sf_X6_isOutside ml_X6_60 (by decide) rfl rfl (Nat.le_of_ble_eq_true rfl) (gDec_at DX6_lost_0 12 rfl) ?_
  refine g_if_neN hC (by decide) (gDec_at DX6_lost_0 13 rfl) 47 (by decide) (fun h => absurd h (by decide)) (fun h => ?_)
  refine g_iload_n hC (gDec_at DX6_lost_0 14 rfl) rfl ?_
  refine g_iload_n hC (gDec_at DX6_lost_0 15 rfl) rfl ?_
  refine g_bipush hC (gDec_at DX6_lost_0 16 rfl) (v := nI 40) (by decide) ?_
  refine g_callSd (w := wC q) hC (c_X6_isOutside_in q (by omega) (by omega) (nI_gin (k := b) (a := a) (b := 40) (by omega) (by omega) (by omega))) sf_X6_isOutside ml_X6_60 (by decide) rfl rfl (Nat.le_of_ble_eq_true rfl) (gDec_at DX6_lost_0 17 rfl) ?_
  refine g_if_neN hC (by decide) (gDec_at DX6_lost_0 18 rfl) 47 (by decide) (fun h => absurd h (by decide)) (fun h => ?_)
  refine g_iload hC (gDec_at DX6_lost_0 19 rfl) rfl ?_
  refine g_callSd (w := wC q) hC (c_X6_isBadDraw_out q hx1) sf_X6_isBadDraw ml_X6_117 (by decide) rfl rfl (Nat.le_of_ble_eq_true rfl) (gDec_at DX6_lost_0 20 rfl) ?_
  refine g_if_eqN hC (by decide) (gDec_at DX6_lost_0 21 rfl) 51 (by decide) (fun h => absurd h (by decide)) (fun h => ?_)
  refine g_ldc2 hC cl_X6_121 (v' := -2) rfl (gDec_at DX6_lost_0 22 rfl) ?_
  refine g_lret hC (gDec_at DX6_lost_0 23 rfl) ?_
  exact ⟨rfl, rfl⟩

set_option maxRecDepth 100000 in
set_option maxHeartbeats 4000000 in
theorem c_X6_lost_ok (q : gQ3) {M : gM} {B : gB} (hI : cI M B) {j : Nat} (hj : j < 12) (ht : j % 6 < B 9 0) {a : Nat} (haa : 4 ≤ a) (hab : a ≤ 40) {b : Nat} (hba : a ≤ b) (hbb : b ≤ 40) {x : Nat} (hx : x ≤ 40) {mo u : Nat} (hmo : mo ≤ 1) (hu : u ≤ 1) : gCt (wC q) yX6_lost cX6_lost 8 (some .long) 8 [.ref (q.2.2 0), .int (nI (10 * (j / 6) + j % 6)), .int (nI a), .int (nI b), .int (nI x), .int (nI mo), .int (nI u)] M (gR (some (.long (lN (sTo (sPull B x) (sLost B j (if mo = 0 then a else b)) u)))) M) := by
  refine gMet RX6 (by decide +kernel) rfl (Nat.le_of_ble_eq_true rfl) (fun X hC => ?_)
  have hC : gC X (wC q) cX6_lost 8 RX6 (some .long) 8 := hC
  show gG X (wC q) _ 8 M 0 [(0, .ref (q.2.2 0)), (1, .int (nI (10 * (j / 6) + j % 6))), (2, .int (nI a)), (3, .int (nI b)), (4, .int (nI x)), (5, .int (nI mo)), (6, .int (nI u))] []
  have hpl := sPull_le B hx
  have hla := sLost_le B j a
  have hlb := sLost_le B j b
  refine g_aload_n hC (gDec_at DX6_lost_0 0 rfl) rfl ?_
  refine g_get (w := wC q) hC 0 (v := .ref (q.2.2 9)) fl_X6_19 (show 0 < 63 from by decide) rfl rfl (gDec_at DX6_lost_0 1 rfl) ?_
  refine g_iload_n hC (gDec_at DX6_lost_0 2 rfl) rfl ?_
  refine g_callVd (w := wC q) hC 9 (c_X0_placeTold q hI hj ht) vf_X0_placeTold ml_X6_79 (by decide) (show 9 < 63 from by decide) rfl rfl rfl rfl rfl (Nat.le_of_ble_eq_true rfl) (gDec_at DX6_lost_0 3 rfl) ?_
  refine g_astore hC (gDec_at DX6_lost_0 4 rfl) (by decide) (L' := [(7, .ref (q.2.2 (15 + j))), (0, .ref (q.2.2 0)), (1, .int (nI (10 * (j / 6) + j % 6))), (2, .int (nI a)), (3, .int (nI b)), (4, .int (nI x)), (5, .int (nI mo)), (6, .int (nI u))]) rfl ?_
  refine g_aload hC (gDec_at DX6_lost_0 5 rfl) rfl ?_
  refine g_ifnonnull hC (gDec_at DX6_lost_0 6 rfl) 19 (by decide) ?_
  refine g_iload_n hC (gDec_at DX6_lost_0 9 rfl) rfl ?_
  refine g_iconst hC (gDec_at DX6_lost_0 10 rfl) (v := nI 4) (by decide) ?_
  refine g_bipush hC (gDec_at DX6_lost_0 11 rfl) (v := nI 40) (by decide) ?_
  refine g_callSd (w := wC q) hC (c_X6_isOutside_in q (by omega) (by omega) (nI_gin (k := a) (a := 4) (b := 40) (by omega) (by omega) (by omega))) sf_X6_isOutside ml_X6_60 (by decide) rfl rfl (Nat.le_of_ble_eq_true rfl) (gDec_at DX6_lost_0 12 rfl) ?_
  refine g_if_neN hC (by decide) (gDec_at DX6_lost_0 13 rfl) 47 (by decide) (fun h => absurd h (by decide)) (fun h => ?_)
  refine g_iload_n hC (gDec_at DX6_lost_0 14 rfl) rfl ?_
  refine g_iload_n hC (gDec_at DX6_lost_0 15 rfl) rfl ?_
  refine g_bipush hC (gDec_at DX6_lost_0 16 rfl) (v := nI 40) (by decide) ?_
  refine g_callSd (w := wC q) hC (c_X6_isOutside_in q (by omega) (by omega) (nI_gin (k := b) (a := a) (b := 40) (by omega) (by omega) (by omega))) sf_X6_isOutside ml_X6_60 (by decide) rfl rfl (Nat.le_of_ble_eq_true rfl) (gDec_at DX6_lost_0 17 rfl) ?_
  refine g_if_neN hC (by decide) (gDec_at DX6_lost_0 18 rfl) 47 (by decide) (fun h => absurd h (by decide)) (fun h => ?_)
  refine g_iload hC (gDec_at DX6_lost_0 19 rfl) rfl ?_
  refine g_callSd (w := wC q) hC (c_X6_isBadDraw_in q (k := x) (by omega)) sf_X6_isBadDraw ml_X6_117 (by decide) rfl rfl (Nat.le_of_ble_eq_true rfl) (gDec_at DX6_lost_0 20 rfl) ?_
  refine g_if_eqN hC (by decide) (gDec_at DX6_lost_0 21 rfl) 51 (by decide) (fun h => ?_) (fun h => absurd h (by decide))
  refine g_aload_n hC (gDec_at DX6_lost_0 24 rfl) rfl ?_
  refine g_get (w := wC q) hC 0 (v := .ref (q.2.2 9)) fl_X6_19 (show 0 < 63 from by decide) rfl rfl (gDec_at DX6_lost_0 25 rfl) ?_
  refine g_iload hC (gDec_at DX6_lost_0 26 rfl) rfl ?_
  refine g_callVd (w := wC q) hC 9 (c_X0_pullAt q hI (x := x) (by omega)) vf_X0_pullAt ml_X6_123 (by decide) (show 9 < 63 from by decide) rfl rfl rfl rfl rfl (Nat.le_of_ble_eq_true rfl) (gDec_at DX6_lost_0 27 rfl) ?_
  refine g_aload_n hC (gDec_at DX6_lost_0 28 rfl) rfl ?_
  refine g_get (w := wC q) hC 0 (v := .ref (q.2.2 9)) fl_X6_19 (show 0 < 63 from by decide) rfl rfl (gDec_at DX6_lost_0 29 rfl) ?_
  refine g_aload hC (gDec_at DX6_lost_0 30 rfl) rfl ?_
  refine g_iload hC (gDec_at DX6_lost_0 31 rfl) rfl ?_
  refine g_if_eqN hC (by omega) (gDec_at DX6_lost_0 32 rfl) 75 (by decide) (fun h68 => ?_) (fun h68 => ?_)
  · skip
    refine g_iload_n hC (gDec_at DX6_lost_0 35 rfl) rfl ?_
    refine g_callVd (w := wC q) hC 9 (c_X0_givesIfLost q hI hj ht (d := a) (by omega)) vf_X0_givesIfLost ml_X6_197 (by decide) (show 9 < 63 from by decide) rfl rfl rfl rfl rfl (Nat.le_of_ble_eq_true rfl) (gDec_at DX6_lost_0 36 rfl) ?_
    refine g_iload hC (gDec_at DX6_lost_0 37 rfl) rfl ?_
    refine g_callSd (w := wC q) hC (c_X6_fractionPart q (a := (sPull B x)) (b := (sLost B j a)) (u := u) (by omega) (by omega) (by omega)) sf_X6_fractionPart ml_X6_130 (by decide) rfl rfl (Nat.le_of_ble_eq_true rfl) (gDec_at DX6_lost_0 38 rfl) ?_
    refine g_lret hC (gDec_at DX6_lost_0 39 rfl) ?_
    exact ⟨by rw [if_pos (by omega)], rfl⟩
  · skip
    refine g_iload_n hC (gDec_at DX6_lost_0 33 rfl) rfl ?_
    refine g_goto hC (gDec_at DX6_lost_0 34 rfl) 76 (by decide) ?_
    refine g_callVd (w := wC q) hC 9 (c_X0_givesIfLost q hI hj ht (d := b) (by omega)) vf_X0_givesIfLost ml_X6_197 (by decide) (show 9 < 63 from by decide) rfl rfl rfl rfl rfl (Nat.le_of_ble_eq_true rfl) (gDec_at DX6_lost_0 36 rfl) ?_
    refine g_iload hC (gDec_at DX6_lost_0 37 rfl) rfl ?_
    refine g_callSd (w := wC q) hC (c_X6_fractionPart q (a := (sPull B x)) (b := (sLost B j b)) (u := u) (by omega) (by omega) (by omega)) sf_X6_fractionPart ml_X6_130 (by decide) rfl rfl (Nat.le_of_ble_eq_true rfl) (gDec_at DX6_lost_0 38 rfl) ?_
    refine g_lret hC (gDec_at DX6_lost_0 39 rfl) ?_
    exact ⟨by rw [if_neg (by omega)], rfl⟩

theorem oI_add (n : Nat) : oI n + nI 1000 = nI n := by
  unfold oI
  rw [Int32.sub_eq_add_neg, Int32.add_assoc, Int32.add_left_neg, Int32.add_zero]
set_option maxRecDepth 100000 in
set_option maxHeartbeats 4000000 in
theorem c_X6_off_out (q : gQ3) {M : gM} {B : gB} (hI : cI M B) {x0 : Int32} (hx0 : ¬ isPl B x0) : gCt (wC q) yX6_off cX6_off 4 (some .int) 8 [.ref (q.2.2 0), .int x0] M (gR (some (.int (-1))) M) := by
  refine gMet RX6 (by decide +kernel) rfl (Nat.le_of_ble_eq_true rfl) (fun X hC => ?_)
  have hC : gC X (wC q) cX6_off 4 RX6 (some .int) 8 := hC
  show gG X (wC q) _ 4 M 0 [(0, .ref (q.2.2 0)), (1, .int x0)] []
  refine g_aload_n hC (gDec_at DX6_off_0 0 rfl) rfl ?_
  refine g_get (w := wC q) hC 0 (v := .ref (q.2.2 9)) fl_X6_19 (show 0 < 63 from by decide) rfl rfl (gDec_at DX6_off_0 1 rfl) ?_
  refine g_iload_n hC (gDec_at DX6_off_0 2 rfl) rfl ?_
  refine g_callVd (w := wC q) hC 9 (c_X0_placeTold_out q hI hx0) vf_X0_placeTold ml_X6_79 (by decide) (show 9 < 63 from by decide) rfl rfl rfl rfl rfl (Nat.le_of_ble_eq_true rfl) (gDec_at DX6_off_0 3 rfl) ?_
  refine g_astore_nN hC (gDec_at DX6_off_0 4 rfl) (by decide) (L' := [(2, .null), (0, .ref (q.2.2 0)), (1, .int x0)]) rfl ?_
  refine g_aload_nN hC (gDec_at DX6_off_0 5 rfl) rfl ?_
  refine g_ifnonnullN hC (gDec_at DX6_off_0 6 rfl) ?_ 15 (by decide)
  refine g_iconst hC (gDec_at DX6_off_0 7 rfl) (v := -1) (by decide) ?_
  refine g_iret hC (gDec_at DX6_off_0 8 rfl) ?_
  exact ⟨rfl, rfl⟩

set_option maxRecDepth 100000 in
set_option maxHeartbeats 4000000 in
theorem c_X6_off_no (q : gQ3) {M : gM} {B : gB} (hI : cI M B) {j : Nat} (hj : j < 12) (ht : j % 6 < B 9 0) (hz : sSeen B = 0) : gCt (wC q) yX6_off cX6_off 4 (some .int) 8 [.ref (q.2.2 0), .int (nI (10 * (j / 6) + j % 6))] M (gR (some (.int (-3))) M) := by
  refine gMet RX6 (by decide +kernel) rfl (Nat.le_of_ble_eq_true rfl) (fun X hC => ?_)
  have hC : gC X (wC q) cX6_off 4 RX6 (some .int) 8 := hC
  show gG X (wC q) _ 4 M 0 [(0, .ref (q.2.2 0)), (1, .int (nI (10 * (j / 6) + j % 6)))] []
  have hsl := sSeen_le hI.2.2
  refine g_aload_n hC (gDec_at DX6_off_0 0 rfl) rfl ?_
  refine g_get (w := wC q) hC 0 (v := .ref (q.2.2 9)) fl_X6_19 (show 0 < 63 from by decide) rfl rfl (gDec_at DX6_off_0 1 rfl) ?_
  refine g_iload_n hC (gDec_at DX6_off_0 2 rfl) rfl ?_
  refine g_callVd (w := wC q) hC 9 (c_X0_placeTold q hI hj ht) vf_X0_placeTold ml_X6_79 (by decide) (show 9 < 63 from by decide) rfl rfl rfl rfl rfl (Nat.le_of_ble_eq_true rfl) (gDec_at DX6_off_0 3 rfl) ?_
  refine g_astore_n hC (gDec_at DX6_off_0 4 rfl) (by decide) (L' := [(2, .ref (q.2.2 (15 + j))), (0, .ref (q.2.2 0)), (1, .int (nI (10 * (j / 6) + j % 6)))]) rfl ?_
  refine g_aload_n hC (gDec_at DX6_off_0 5 rfl) rfl ?_
  refine g_ifnonnull hC (gDec_at DX6_off_0 6 rfl) 15 (by decide) ?_
  refine g_aload_n hC (gDec_at DX6_off_0 9 rfl) rfl ?_
  refine g_get (w := wC q) hC 0 (v := .ref (q.2.2 9)) fl_X6_19 (show 0 < 63 from by decide) rfl rfl (gDec_at DX6_off_0 10 rfl) ?_
  refine g_callVd (w := wC q) hC 9 (c_X0_allSeen q hI) vf_X0_allSeen ml_X6_201 (by decide) (show 9 < 63 from by decide) rfl rfl rfl rfl rfl (Nat.le_of_ble_eq_true rfl) (gDec_at DX6_off_0 11 rfl) ?_
  refine g_istore_n hC (gDec_at DX6_off_0 12 rfl) (by decide) (L' := [(3, .int (nI (sSeen B))), (2, .ref (q.2.2 (15 + j))), (0, .ref (q.2.2 0)), (1, .int (nI (10 * (j / 6) + j % 6)))]) rfl ?_
  refine g_iload_n hC (gDec_at DX6_off_0 13 rfl) rfl ?_
  refine g_if_neN hC (by omega) (gDec_at DX6_off_0 14 rfl) 32 (by decide) (fun h24 => ?_) (fun h24 => ?_)
  · skip
    exact absurd hz (by omega)
  · skip
    refine g_bipush hC (gDec_at DX6_off_0 15 rfl) (v := -3) (by decide) ?_
    refine g_goto hC (gDec_at DX6_off_0 16 rfl) 52 (by decide) ?_
    refine g_iret hC (gDec_at DX6_off_0 27 rfl) ?_
    exact ⟨rfl, rfl⟩

set_option maxRecDepth 100000 in
set_option maxHeartbeats 4000000 in
theorem c_X6_off_ok (q : gQ3) {M : gM} {B : gB} (hI : cI M B) {j : Nat} (hj : j < 12) (ht : j % 6 < B 9 0) (hz : 0 < sSeen B) : gCt (wC q) yX6_off cX6_off 4 (some .int) 8 [.ref (q.2.2 0), .int (nI (10 * (j / 6) + j % 6))] M (gR (some (.int (nI (sOf B j)))) M) := by
  refine gMet RX6 (by decide +kernel) rfl (Nat.le_of_ble_eq_true rfl) (fun X hC => ?_)
  have hC : gC X (wC q) cX6_off 4 RX6 (some .int) 8 := hC
  show gG X (wC q) _ 4 M 0 [(0, .ref (q.2.2 0)), (1, .int (nI (10 * (j / 6) + j % 6)))] []
  have hsl := sSeen_le hI.2.2
  refine g_aload_n hC (gDec_at DX6_off_0 0 rfl) rfl ?_
  refine g_get (w := wC q) hC 0 (v := .ref (q.2.2 9)) fl_X6_19 (show 0 < 63 from by decide) rfl rfl (gDec_at DX6_off_0 1 rfl) ?_
  refine g_iload_n hC (gDec_at DX6_off_0 2 rfl) rfl ?_
  refine g_callVd (w := wC q) hC 9 (c_X0_placeTold q hI hj ht) vf_X0_placeTold ml_X6_79 (by decide) (show 9 < 63 from by decide) rfl rfl rfl rfl rfl (Nat.le_of_ble_eq_true rfl) (gDec_at DX6_off_0 3 rfl) ?_
  refine g_astore_n hC (gDec_at DX6_off_0 4 rfl) (by decide) (L' := [(2, .ref (q.2.2 (15 + j))), (0, .ref (q.2.2 0)), (1, .int (nI (10 * (j / 6) + j % 6)))]) rfl ?_
  refine g_aload_n hC (gDec_at DX6_off_0 5 rfl) rfl ?_
  refine g_ifnonnull hC (gDec_at DX6_off_0 6 rfl) 15 (by decide) ?_
  refine g_aload_n hC (gDec_at DX6_off_0 9 rfl) rfl ?_
  refine g_get (w := wC q) hC 0 (v := .ref (q.2.2 9)) fl_X6_19 (show 0 < 63 from by decide) rfl rfl (gDec_at DX6_off_0 10 rfl) ?_
  refine g_callVd (w := wC q) hC 9 (c_X0_allSeen q hI) vf_X0_allSeen ml_X6_201 (by decide) (show 9 < 63 from by decide) rfl rfl rfl rfl rfl (Nat.le_of_ble_eq_true rfl) (gDec_at DX6_off_0 11 rfl) ?_
  refine g_istore_n hC (gDec_at DX6_off_0 12 rfl) (by decide) (L' := [(3, .int (nI (sSeen B))), (2, .ref (q.2.2 (15 + j))), (0, .ref (q.2.2 0)), (1, .int (nI (10 * (j / 6) + j % 6)))]) rfl ?_
  refine g_iload_n hC (gDec_at DX6_off_0 13 rfl) rfl ?_
  refine g_if_neN hC (by omega) (gDec_at DX6_off_0 14 rfl) 32 (by decide) (fun h24 => ?_) (fun h24 => ?_)
  · skip
    refine g_aload_n hC (gDec_at DX6_off_0 17 rfl) rfl ?_
    refine g_get (w := wC q) hC 0 (v := .ref (q.2.2 9)) fl_X6_19 (show 0 < 63 from by decide) rfl rfl (gDec_at DX6_off_0 18 rfl) ?_
    refine g_aload_n hC (gDec_at DX6_off_0 19 rfl) rfl ?_
    refine g_iload_n hC (gDec_at DX6_off_0 20 rfl) rfl ?_
    refine g_aload_n hC (gDec_at DX6_off_0 21 rfl) rfl ?_
    refine g_get (w := wC q) hC 0 (v := .ref (q.2.2 9)) fl_X6_19 (show 0 < 63 from by decide) rfl rfl (gDec_at DX6_off_0 22 rfl) ?_
    refine g_callVd (w := wC q) hC 9 (c_X0_allGives q hI) vf_X0_allGives ml_X6_126 (by decide) (show 9 < 63 from by decide) rfl rfl rfl rfl rfl (Nat.le_of_ble_eq_true rfl) (gDec_at DX6_off_0 23 rfl) ?_
    refine g_callVd (w := wC q) hC 9 (c_X0_offBy q hI hj ht) vf_X0_offBy ml_X6_204 (by decide) (show 9 < 63 from by decide) rfl rfl rfl rfl rfl (Nat.le_of_ble_eq_true rfl) (gDec_at DX6_off_0 24 rfl) ?_
    refine g_sipush hC (gDec_at DX6_off_0 25 rfl) (v := nI 1000) (by decide) ?_
    refine g_iadd hC (gDec_at DX6_off_0 26 rfl) (v := (nI (sOf B j))) (oI_add _) ?_
    refine g_iret hC (gDec_at DX6_off_0 27 rfl) ?_
    exact ⟨rfl, rfl⟩
  · skip
    exact absurd hz (by omega)

set_option maxRecDepth 100000 in
set_option maxHeartbeats 4000000 in
theorem c_X6_tooStiff_no (q : gQ3) {M : gM} {B : gB} (hI : cI M B) (hz : sSeen B = 0) : gCt (wC q) yX6_tooStiff cX6_tooStiff 1 (some .int) 8 [.ref (q.2.2 0)] M (gR (some (.int (-9))) M) := by
  refine gMet RX6 (by decide +kernel) rfl (Nat.le_of_ble_eq_true rfl) (fun X hC => ?_)
  have hC : gC X (wC q) cX6_tooStiff 1 RX6 (some .int) 8 := hC
  show gG X (wC q) _ 1 M 0 [(0, .ref (q.2.2 0))] []
  refine g_aload_n hC (gDec_at DX6_tooStiff_0 0 rfl) rfl ?_
  refine g_get (w := wC q) hC 0 (v := .ref (q.2.2 9)) fl_X6_19 (show 0 < 63 from by decide) rfl rfl (gDec_at DX6_tooStiff_0 1 rfl) ?_
  refine g_callVd (w := wC q) hC 9 (c_X0_leastOffPlace_no q hI hz) vf_X0_leastOffPlace ml_X6_208 (by decide) (show 9 < 63 from by decide) rfl rfl rfl rfl rfl (Nat.le_of_ble_eq_true rfl) (gDec_at DX6_tooStiff_0 2 rfl) ?_
  refine g_iret hC (gDec_at DX6_tooStiff_0 3 rfl) ?_
  exact ⟨rfl, rfl⟩

set_option maxRecDepth 100000 in
set_option maxHeartbeats 4000000 in
theorem c_X6_tooStiff_ok (q : gQ3) {M : gM} {B : gB} (hI : cI M B) (hz : 0 < sSeen B) : gCt (wC q) yX6_tooStiff cX6_tooStiff 1 (some .int) 8 [.ref (q.2.2 0)] M (gR (some (.int (nI (sTold (sExt B (sOf B) 0 12))))) M) := by
  refine gMet RX6 (by decide +kernel) rfl (Nat.le_of_ble_eq_true rfl) (fun X hC => ?_)
  have hC : gC X (wC q) cX6_tooStiff 1 RX6 (some .int) 8 := hC
  show gG X (wC q) _ 1 M 0 [(0, .ref (q.2.2 0))] []
  refine g_aload_n hC (gDec_at DX6_tooStiff_0 0 rfl) rfl ?_
  refine g_get (w := wC q) hC 0 (v := .ref (q.2.2 9)) fl_X6_19 (show 0 < 63 from by decide) rfl rfl (gDec_at DX6_tooStiff_0 1 rfl) ?_
  refine g_callVd (w := wC q) hC 9 (c_X0_leastOffPlace q hI hz) vf_X0_leastOffPlace ml_X6_208 (by decide) (show 9 < 63 from by decide) rfl rfl rfl rfl rfl (Nat.le_of_ble_eq_true rfl) (gDec_at DX6_tooStiff_0 2 rfl) ?_
  refine g_iret hC (gDec_at DX6_tooStiff_0 3 rfl) ?_
  exact ⟨rfl, rfl⟩

set_option maxRecDepth 100000 in
set_option maxHeartbeats 4000000 in
theorem c_X6_grown_out (q : gQ3) {M : gM} {B : gB} (hI : cI M B) {x0 : Int32} (hx0 : ¬ gin x0 0 2) {y : Int32} : gCt (wC q) yX6_grown cX6_grown 4 (some .int) 8 [.ref (q.2.2 0), .int x0, .int y] M (gR (some (.int (-1))) M) := by
  refine gMet RX6 (by decide +kernel) rfl (Nat.le_of_ble_eq_true rfl) (fun X hC => ?_)
  have hC : gC X (wC q) cX6_grown 4 RX6 (some .int) 8 := hC
  show gG X (wC q) _ 4 M 0 [(0, .ref (q.2.2 0)), (1, .int x0), (2, .int y)] []
  refine g_aload_n hC (gDec_at DX6_grown_0 0 rfl) rfl ?_
  refine g_get (w := wC q) hC 0 (v := .ref (q.2.2 9)) fl_X6_19 (show 0 < 63 from by decide) rfl rfl (gDec_at DX6_grown_0 1 rfl) ?_
  refine g_iload_n hC (gDec_at DX6_grown_0 2 rfl) rfl ?_
  refine g_callVd (w := wC q) hC 9 (c_X0_woodNumbered_out q hx0) vf_X0_woodNumbered ml_X6_56 (by decide) (show 9 < 63 from by decide) rfl rfl rfl rfl rfl (Nat.le_of_ble_eq_true rfl) (gDec_at DX6_grown_0 3 rfl) ?_
  refine g_astore_nN hC (gDec_at DX6_grown_0 4 rfl) (by decide) (L' := [(3, .null), (0, .ref (q.2.2 0)), (1, .int x0), (2, .int y)]) rfl ?_
  refine g_aload_nN hC (gDec_at DX6_grown_0 5 rfl) rfl ?_
  refine g_ifnonnullN hC (gDec_at DX6_grown_0 6 rfl) ?_ 15 (by decide)
  refine g_iconst hC (gDec_at DX6_grown_0 7 rfl) (v := -1) (by decide) ?_
  refine g_iret hC (gDec_at DX6_grown_0 8 rfl) ?_
  exact ⟨rfl, rfl⟩

set_option maxRecDepth 100000 in
set_option maxHeartbeats 4000000 in
theorem c_X6_grown_0 (q : gQ3) {M : gM} {B : gB} (hI : cI M B) {k : Nat} (hk : k < 3) : gCt (wC q) yX6_grown cX6_grown 4 (some .int) 8 [.ref (q.2.2 0), .int (nI k), .int (nI 0)] M (gR (some (.int (nI (B 6 k)))) M) := by
  refine gMet RX6 (by decide +kernel) rfl (Nat.le_of_ble_eq_true rfl) (fun X hC => ?_)
  have hC : gC X (wC q) cX6_grown 4 RX6 (some .int) 8 := hC
  show gG X (wC q) _ 4 M 0 [(0, .ref (q.2.2 0)), (1, .int (nI k)), (2, .int (nI 0))] []
  refine g_aload_n hC (gDec_at DX6_grown_0 0 rfl) rfl ?_
  refine g_get (w := wC q) hC 0 (v := .ref (q.2.2 9)) fl_X6_19 (show 0 < 63 from by decide) rfl rfl (gDec_at DX6_grown_0 1 rfl) ?_
  refine g_iload_n hC (gDec_at DX6_grown_0 2 rfl) rfl ?_
  refine g_callVd (w := wC q) hC 9 (c_X0_woodNumbered q hk) vf_X0_woodNumbered ml_X6_56 (by decide) (show 9 < 63 from by decide) rfl rfl rfl rfl rfl (Nat.le_of_ble_eq_true rfl) (gDec_at DX6_grown_0 3 rfl) ?_
  refine g_astore_n hC (gDec_at DX6_grown_0 4 rfl) (by decide) (L' := [(3, .ref (q.2.2 (12 + k))), (0, .ref (q.2.2 0)), (1, .int (nI k)), (2, .int (nI 0))]) rfl ?_
  refine g_aload_n hC (gDec_at DX6_grown_0 5 rfl) rfl ?_
  refine g_ifnonnull hC (gDec_at DX6_grown_0 6 rfl) 15 (by decide) ?_
  refine g_iload_n hC (gDec_at DX6_grown_0 9 rfl) rfl ?_
  refine g_tableIn hC (gDec_at DX6_grown_0 10 rfl) 44 (by decide) (by decide) rfl (by decide) ?_
  refine g_aload_n hC (gDec_at DX6_grown_0 11 rfl) rfl ?_
  refine g_get (w := wC q) hC (12 + k) (v := .int (nI (B 6 k))) fl_X6_64 (show 12 + k < 63 from by have := hk; omega) (cC_w0 q _ _ hk) (g_sv (ci_e hI hk)) (gDec_at DX6_grown_0 12 rfl) ?_
  refine g_iret hC (gDec_at DX6_grown_0 13 rfl) ?_
  exact ⟨rfl, rfl⟩

set_option maxRecDepth 100000 in
set_option maxHeartbeats 4000000 in
theorem c_X6_grown_1 (q : gQ3) {M : gM} {B : gB} (hI : cI M B) {k : Nat} (hk : k < 3) : gCt (wC q) yX6_grown cX6_grown 4 (some .int) 8 [.ref (q.2.2 0), .int (nI k), .int (nI 1)] M (gR (some (.int (nI (B 7 k)))) M) := by
  refine gMet RX6 (by decide +kernel) rfl (Nat.le_of_ble_eq_true rfl) (fun X hC => ?_)
  have hC : gC X (wC q) cX6_grown 4 RX6 (some .int) 8 := hC
  show gG X (wC q) _ 4 M 0 [(0, .ref (q.2.2 0)), (1, .int (nI k)), (2, .int (nI 1))] []
  refine g_aload_n hC (gDec_at DX6_grown_0 0 rfl) rfl ?_
  refine g_get (w := wC q) hC 0 (v := .ref (q.2.2 9)) fl_X6_19 (show 0 < 63 from by decide) rfl rfl (gDec_at DX6_grown_0 1 rfl) ?_
  refine g_iload_n hC (gDec_at DX6_grown_0 2 rfl) rfl ?_
  refine g_callVd (w := wC q) hC 9 (c_X0_woodNumbered q hk) vf_X0_woodNumbered ml_X6_56 (by decide) (show 9 < 63 from by decide) rfl rfl rfl rfl rfl (Nat.le_of_ble_eq_true rfl) (gDec_at DX6_grown_0 3 rfl) ?_
  refine g_astore_n hC (gDec_at DX6_grown_0 4 rfl) (by decide) (L' := [(3, .ref (q.2.2 (12 + k))), (0, .ref (q.2.2 0)), (1, .int (nI k)), (2, .int (nI 1))]) rfl ?_
  refine g_aload_n hC (gDec_at DX6_grown_0 5 rfl) rfl ?_
  refine g_ifnonnull hC (gDec_at DX6_grown_0 6 rfl) 15 (by decide) ?_
  refine g_iload_n hC (gDec_at DX6_grown_0 9 rfl) rfl ?_
  refine g_tableIn hC (gDec_at DX6_grown_0 10 rfl) 49 (by decide) (by decide) rfl (by decide) ?_
  refine g_aload_n hC (gDec_at DX6_grown_0 14 rfl) rfl ?_
  refine g_get (w := wC q) hC (12 + k) (v := .int (nI (B 7 k))) fl_X6_73 (show 12 + k < 63 from by have := hk; omega) (cC_w0 q _ _ hk) (g_sv (ci_pull hI hk)) (gDec_at DX6_grown_0 15 rfl) ?_
  refine g_iret hC (gDec_at DX6_grown_0 16 rfl) ?_
  exact ⟨rfl, rfl⟩

set_option maxRecDepth 100000 in
set_option maxHeartbeats 4000000 in
theorem c_X6_grown_2 (q : gQ3) {M : gM} {B : gB} (hI : cI M B) {k : Nat} (hk : k < 3) : gCt (wC q) yX6_grown cX6_grown 4 (some .int) 8 [.ref (q.2.2 0), .int (nI k), .int (nI 2)] M (gR (some (.int (nI (B 8 k)))) M) := by
  refine gMet RX6 (by decide +kernel) rfl (Nat.le_of_ble_eq_true rfl) (fun X hC => ?_)
  have hC : gC X (wC q) cX6_grown 4 RX6 (some .int) 8 := hC
  show gG X (wC q) _ 4 M 0 [(0, .ref (q.2.2 0)), (1, .int (nI k)), (2, .int (nI 2))] []
  refine g_aload_n hC (gDec_at DX6_grown_0 0 rfl) rfl ?_
  refine g_get (w := wC q) hC 0 (v := .ref (q.2.2 9)) fl_X6_19 (show 0 < 63 from by decide) rfl rfl (gDec_at DX6_grown_0 1 rfl) ?_
  refine g_iload_n hC (gDec_at DX6_grown_0 2 rfl) rfl ?_
  refine g_callVd (w := wC q) hC 9 (c_X0_woodNumbered q hk) vf_X0_woodNumbered ml_X6_56 (by decide) (show 9 < 63 from by decide) rfl rfl rfl rfl rfl (Nat.le_of_ble_eq_true rfl) (gDec_at DX6_grown_0 3 rfl) ?_
  refine g_astore_n hC (gDec_at DX6_grown_0 4 rfl) (by decide) (L' := [(3, .ref (q.2.2 (12 + k))), (0, .ref (q.2.2 0)), (1, .int (nI k)), (2, .int (nI 2))]) rfl ?_
  refine g_aload_n hC (gDec_at DX6_grown_0 5 rfl) rfl ?_
  refine g_ifnonnull hC (gDec_at DX6_grown_0 6 rfl) 15 (by decide) ?_
  refine g_iload_n hC (gDec_at DX6_grown_0 9 rfl) rfl ?_
  refine g_tableIn hC (gDec_at DX6_grown_0 10 rfl) 54 (by decide) (by decide) rfl (by decide) ?_
  refine g_aload_n hC (gDec_at DX6_grown_0 17 rfl) rfl ?_
  refine g_get (w := wC q) hC (12 + k) (v := .int (nI (B 8 k))) fl_X6_76 (show 12 + k < 63 from by have := hk; omega) (cC_w0 q _ _ hk) (g_sv (ci_press hI hk)) (gDec_at DX6_grown_0 18 rfl) ?_
  refine g_iret hC (gDec_at DX6_grown_0 19 rfl) ?_
  exact ⟨rfl, rfl⟩

set_option maxRecDepth 100000 in
set_option maxHeartbeats 4000000 in
theorem c_X6_grown_bad (q : gQ3) {M : gM} {B : gB} (hI : cI M B) {k : Nat} (hk : k < 3) {y : Int32} (hy : ¬ gin y 0 2) : gCt (wC q) yX6_grown cX6_grown 4 (some .int) 8 [.ref (q.2.2 0), .int (nI k), .int y] M (gR (some (.int (-2))) M) := by
  refine gMet RX6 (by decide +kernel) rfl (Nat.le_of_ble_eq_true rfl) (fun X hC => ?_)
  have hC : gC X (wC q) cX6_grown 4 RX6 (some .int) 8 := hC
  show gG X (wC q) _ 4 M 0 [(0, .ref (q.2.2 0)), (1, .int (nI k)), (2, .int y)] []
  refine g_aload_n hC (gDec_at DX6_grown_0 0 rfl) rfl ?_
  refine g_get (w := wC q) hC 0 (v := .ref (q.2.2 9)) fl_X6_19 (show 0 < 63 from by decide) rfl rfl (gDec_at DX6_grown_0 1 rfl) ?_
  refine g_iload_n hC (gDec_at DX6_grown_0 2 rfl) rfl ?_
  refine g_callVd (w := wC q) hC 9 (c_X0_woodNumbered q hk) vf_X0_woodNumbered ml_X6_56 (by decide) (show 9 < 63 from by decide) rfl rfl rfl rfl rfl (Nat.le_of_ble_eq_true rfl) (gDec_at DX6_grown_0 3 rfl) ?_
  refine g_astore_n hC (gDec_at DX6_grown_0 4 rfl) (by decide) (L' := [(3, .ref (q.2.2 (12 + k))), (0, .ref (q.2.2 0)), (1, .int (nI k)), (2, .int y)]) rfl ?_
  refine g_aload_n hC (gDec_at DX6_grown_0 5 rfl) rfl ?_
  refine g_ifnonnull hC (gDec_at DX6_grown_0 6 rfl) 15 (by decide) ?_
  refine g_iload_n hC (gDec_at DX6_grown_0 9 rfl) rfl ?_
  refine g_tableOut hC (gDec_at DX6_grown_0 10 rfl) 59 (by unfold gin at hy; omega) (by decide) ?_
  refine g_bipush hC (gDec_at DX6_grown_0 20 rfl) (v := -2) (by decide) ?_
  refine g_iret hC (gDec_at DX6_grown_0 21 rfl) ?_
  exact ⟨rfl, rfl⟩

set_option maxRecDepth 100000 in
set_option maxHeartbeats 4000000 in
theorem c_X6_about_out (q : gQ3) {M : gM} {B : gB} (hI : cI M B) {x0 : Int32} (hx0 : ¬ isPl B x0) {y : Int32} : gCt (wC q) yX6_about cX6_about 4 (some .int) 8 [.ref (q.2.2 0), .int x0, .int y] M (gR (some (.int (-1))) M) := by
  refine gMet RX6 (by decide +kernel) rfl (Nat.le_of_ble_eq_true rfl) (fun X hC => ?_)
  have hC : gC X (wC q) cX6_about 4 RX6 (some .int) 8 := hC
  show gG X (wC q) _ 4 M 0 [(0, .ref (q.2.2 0)), (1, .int x0), (2, .int y)] []
  refine g_aload_n hC (gDec_at DX6_about_0 0 rfl) rfl ?_
  refine g_get (w := wC q) hC 0 (v := .ref (q.2.2 9)) fl_X6_19 (show 0 < 63 from by decide) rfl rfl (gDec_at DX6_about_0 1 rfl) ?_
  refine g_iload_n hC (gDec_at DX6_about_0 2 rfl) rfl ?_
  refine g_callVd (w := wC q) hC 9 (c_X0_placeTold_out q hI hx0) vf_X0_placeTold ml_X6_79 (by decide) (show 9 < 63 from by decide) rfl rfl rfl rfl rfl (Nat.le_of_ble_eq_true rfl) (gDec_at DX6_about_0 3 rfl) ?_
  refine g_astore_nN hC (gDec_at DX6_about_0 4 rfl) (by decide) (L' := [(3, .null), (0, .ref (q.2.2 0)), (1, .int x0), (2, .int y)]) rfl ?_
  refine g_aload_nN hC (gDec_at DX6_about_0 5 rfl) rfl ?_
  refine g_ifnonnullN hC (gDec_at DX6_about_0 6 rfl) ?_ 15 (by decide)
  refine g_iconst hC (gDec_at DX6_about_0 7 rfl) (v := -1) (by decide) ?_
  refine g_iret hC (gDec_at DX6_about_0 8 rfl) ?_
  exact ⟨rfl, rfl⟩

set_option maxRecDepth 100000 in
set_option maxHeartbeats 4000000 in
theorem c_X6_about_0 (q : gQ3) {M : gM} {B : gB} (hI : cI M B) {j : Nat} (hj : j < 12) (ht : j % 6 < B 9 0) : gCt (wC q) yX6_about cX6_about 4 (some .int) 8 [.ref (q.2.2 0), .int (nI (10 * (j / 6) + j % 6)), .int (nI 0)] M (gR (some (.int (nI (B 0 j)))) M) := by
  refine gMet RX6 (by decide +kernel) rfl (Nat.le_of_ble_eq_true rfl) (fun X hC => ?_)
  have hC : gC X (wC q) cX6_about 4 RX6 (some .int) 8 := hC
  show gG X (wC q) _ 4 M 0 [(0, .ref (q.2.2 0)), (1, .int (nI (10 * (j / 6) + j % 6))), (2, .int (nI 0))] []
  have h4 := bv_f4 hI.2.2 hj ht
  refine g_aload_n hC (gDec_at DX6_about_0 0 rfl) rfl ?_
  refine g_get (w := wC q) hC 0 (v := .ref (q.2.2 9)) fl_X6_19 (show 0 < 63 from by decide) rfl rfl (gDec_at DX6_about_0 1 rfl) ?_
  refine g_iload_n hC (gDec_at DX6_about_0 2 rfl) rfl ?_
  refine g_callVd (w := wC q) hC 9 (c_X0_placeTold q hI hj ht) vf_X0_placeTold ml_X6_79 (by decide) (show 9 < 63 from by decide) rfl rfl rfl rfl rfl (Nat.le_of_ble_eq_true rfl) (gDec_at DX6_about_0 3 rfl) ?_
  refine g_astore_n hC (gDec_at DX6_about_0 4 rfl) (by decide) (L' := [(3, .ref (q.2.2 (15 + j))), (0, .ref (q.2.2 0)), (1, .int (nI (10 * (j / 6) + j % 6))), (2, .int (nI 0))]) rfl ?_
  refine g_aload_n hC (gDec_at DX6_about_0 5 rfl) rfl ?_
  refine g_ifnonnull hC (gDec_at DX6_about_0 6 rfl) 15 (by decide) ?_
  refine g_iload_n hC (gDec_at DX6_about_0 9 rfl) rfl ?_
  refine g_tableIn hC (gDec_at DX6_about_0 10 rfl) 56 (by decide) (by decide) rfl (by decide) ?_
  refine g_aload_n hC (gDec_at DX6_about_0 11 rfl) rfl ?_
  refine g_get (w := wC q) hC (15 + j) (v := .int (nI (B 0 j))) fl_X6_89 (show 15 + j < 63 from by have := hj; omega) (cC_p0 q _ _ hj) (g_sv (ci_f0 hI hj ht)) (gDec_at DX6_about_0 12 rfl) ?_
  refine g_iret hC (gDec_at DX6_about_0 13 rfl) ?_
  exact ⟨rfl, rfl⟩

set_option maxRecDepth 100000 in
set_option maxHeartbeats 4000000 in
theorem c_X6_about_1 (q : gQ3) {M : gM} {B : gB} (hI : cI M B) {j : Nat} (hj : j < 12) (ht : j % 6 < B 9 0) : gCt (wC q) yX6_about cX6_about 4 (some .int) 8 [.ref (q.2.2 0), .int (nI (10 * (j / 6) + j % 6)), .int (nI 1)] M (gR (some (.int (nI (B 1 j)))) M) := by
  refine gMet RX6 (by decide +kernel) rfl (Nat.le_of_ble_eq_true rfl) (fun X hC => ?_)
  have hC : gC X (wC q) cX6_about 4 RX6 (some .int) 8 := hC
  show gG X (wC q) _ 4 M 0 [(0, .ref (q.2.2 0)), (1, .int (nI (10 * (j / 6) + j % 6))), (2, .int (nI 1))] []
  have h4 := bv_f4 hI.2.2 hj ht
  refine g_aload_n hC (gDec_at DX6_about_0 0 rfl) rfl ?_
  refine g_get (w := wC q) hC 0 (v := .ref (q.2.2 9)) fl_X6_19 (show 0 < 63 from by decide) rfl rfl (gDec_at DX6_about_0 1 rfl) ?_
  refine g_iload_n hC (gDec_at DX6_about_0 2 rfl) rfl ?_
  refine g_callVd (w := wC q) hC 9 (c_X0_placeTold q hI hj ht) vf_X0_placeTold ml_X6_79 (by decide) (show 9 < 63 from by decide) rfl rfl rfl rfl rfl (Nat.le_of_ble_eq_true rfl) (gDec_at DX6_about_0 3 rfl) ?_
  refine g_astore_n hC (gDec_at DX6_about_0 4 rfl) (by decide) (L' := [(3, .ref (q.2.2 (15 + j))), (0, .ref (q.2.2 0)), (1, .int (nI (10 * (j / 6) + j % 6))), (2, .int (nI 1))]) rfl ?_
  refine g_aload_n hC (gDec_at DX6_about_0 5 rfl) rfl ?_
  refine g_ifnonnull hC (gDec_at DX6_about_0 6 rfl) 15 (by decide) ?_
  refine g_iload_n hC (gDec_at DX6_about_0 9 rfl) rfl ?_
  refine g_tableIn hC (gDec_at DX6_about_0 10 rfl) 61 (by decide) (by decide) rfl (by decide) ?_
  refine g_aload_n hC (gDec_at DX6_about_0 14 rfl) rfl ?_
  refine g_get (w := wC q) hC (15 + j) (v := .int (nI (B 1 j))) fl_X6_92 (show 15 + j < 63 from by have := hj; omega) (cC_p0 q _ _ hj) (g_sv (ci_f1 hI hj ht)) (gDec_at DX6_about_0 15 rfl) ?_
  refine g_iret hC (gDec_at DX6_about_0 16 rfl) ?_
  exact ⟨rfl, rfl⟩

set_option maxRecDepth 100000 in
set_option maxHeartbeats 4000000 in
theorem c_X6_about_2 (q : gQ3) {M : gM} {B : gB} (hI : cI M B) {j : Nat} (hj : j < 12) (ht : j % 6 < B 9 0) : gCt (wC q) yX6_about cX6_about 4 (some .int) 8 [.ref (q.2.2 0), .int (nI (10 * (j / 6) + j % 6)), .int (nI 2)] M (gR (some (.int (nI (B 2 j)))) M) := by
  refine gMet RX6 (by decide +kernel) rfl (Nat.le_of_ble_eq_true rfl) (fun X hC => ?_)
  have hC : gC X (wC q) cX6_about 4 RX6 (some .int) 8 := hC
  show gG X (wC q) _ 4 M 0 [(0, .ref (q.2.2 0)), (1, .int (nI (10 * (j / 6) + j % 6))), (2, .int (nI 2))] []
  have h4 := bv_f4 hI.2.2 hj ht
  refine g_aload_n hC (gDec_at DX6_about_0 0 rfl) rfl ?_
  refine g_get (w := wC q) hC 0 (v := .ref (q.2.2 9)) fl_X6_19 (show 0 < 63 from by decide) rfl rfl (gDec_at DX6_about_0 1 rfl) ?_
  refine g_iload_n hC (gDec_at DX6_about_0 2 rfl) rfl ?_
  refine g_callVd (w := wC q) hC 9 (c_X0_placeTold q hI hj ht) vf_X0_placeTold ml_X6_79 (by decide) (show 9 < 63 from by decide) rfl rfl rfl rfl rfl (Nat.le_of_ble_eq_true rfl) (gDec_at DX6_about_0 3 rfl) ?_
  refine g_astore_n hC (gDec_at DX6_about_0 4 rfl) (by decide) (L' := [(3, .ref (q.2.2 (15 + j))), (0, .ref (q.2.2 0)), (1, .int (nI (10 * (j / 6) + j % 6))), (2, .int (nI 2))]) rfl ?_
  refine g_aload_n hC (gDec_at DX6_about_0 5 rfl) rfl ?_
  refine g_ifnonnull hC (gDec_at DX6_about_0 6 rfl) 15 (by decide) ?_
  refine g_iload_n hC (gDec_at DX6_about_0 9 rfl) rfl ?_
  refine g_tableIn hC (gDec_at DX6_about_0 10 rfl) 66 (by decide) (by decide) rfl (by decide) ?_
  refine g_aload_n hC (gDec_at DX6_about_0 17 rfl) rfl ?_
  refine g_get (w := wC q) hC (15 + j) (v := .int (nI (B 2 j))) fl_X6_95 (show 15 + j < 63 from by have := hj; omega) (cC_p0 q _ _ hj) (g_sv (ci_f2 hI hj ht)) (gDec_at DX6_about_0 18 rfl) ?_
  refine g_iret hC (gDec_at DX6_about_0 19 rfl) ?_
  exact ⟨rfl, rfl⟩

set_option maxRecDepth 100000 in
set_option maxHeartbeats 4000000 in
theorem c_X6_about_3 (q : gQ3) {M : gM} {B : gB} (hI : cI M B) {j : Nat} (hj : j < 12) (ht : j % 6 < B 9 0) : gCt (wC q) yX6_about cX6_about 4 (some .int) 8 [.ref (q.2.2 0), .int (nI (10 * (j / 6) + j % 6)), .int (nI 3)] M (gR (some (.int (nI (B 3 j)))) M) := by
  refine gMet RX6 (by decide +kernel) rfl (Nat.le_of_ble_eq_true rfl) (fun X hC => ?_)
  have hC : gC X (wC q) cX6_about 4 RX6 (some .int) 8 := hC
  show gG X (wC q) _ 4 M 0 [(0, .ref (q.2.2 0)), (1, .int (nI (10 * (j / 6) + j % 6))), (2, .int (nI 3))] []
  have h4 := bv_f4 hI.2.2 hj ht
  refine g_aload_n hC (gDec_at DX6_about_0 0 rfl) rfl ?_
  refine g_get (w := wC q) hC 0 (v := .ref (q.2.2 9)) fl_X6_19 (show 0 < 63 from by decide) rfl rfl (gDec_at DX6_about_0 1 rfl) ?_
  refine g_iload_n hC (gDec_at DX6_about_0 2 rfl) rfl ?_
  refine g_callVd (w := wC q) hC 9 (c_X0_placeTold q hI hj ht) vf_X0_placeTold ml_X6_79 (by decide) (show 9 < 63 from by decide) rfl rfl rfl rfl rfl (Nat.le_of_ble_eq_true rfl) (gDec_at DX6_about_0 3 rfl) ?_
  refine g_astore_n hC (gDec_at DX6_about_0 4 rfl) (by decide) (L' := [(3, .ref (q.2.2 (15 + j))), (0, .ref (q.2.2 0)), (1, .int (nI (10 * (j / 6) + j % 6))), (2, .int (nI 3))]) rfl ?_
  refine g_aload_n hC (gDec_at DX6_about_0 5 rfl) rfl ?_
  refine g_ifnonnull hC (gDec_at DX6_about_0 6 rfl) 15 (by decide) ?_
  refine g_iload_n hC (gDec_at DX6_about_0 9 rfl) rfl ?_
  refine g_tableIn hC (gDec_at DX6_about_0 10 rfl) 71 (by decide) (by decide) rfl (by decide) ?_
  refine g_aload_n hC (gDec_at DX6_about_0 20 rfl) rfl ?_
  refine g_get (w := wC q) hC (15 + j) (v := .int (nI (B 3 j))) fl_X6_98 (show 15 + j < 63 from by have := hj; omega) (cC_p0 q _ _ hj) (g_sv (ci_f3 hI hj ht)) (gDec_at DX6_about_0 21 rfl) ?_
  refine g_iret hC (gDec_at DX6_about_0 22 rfl) ?_
  exact ⟨rfl, rfl⟩

set_option maxRecDepth 100000 in
set_option maxHeartbeats 4000000 in
theorem c_X6_about_4 (q : gQ3) {M : gM} {B : gB} (hI : cI M B) {j : Nat} (hj : j < 12) (ht : j % 6 < B 9 0) : gCt (wC q) yX6_about cX6_about 4 (some .int) 8 [.ref (q.2.2 0), .int (nI (10 * (j / 6) + j % 6)), .int (nI 4)] M (gR (some (.int (nI (B 4 j)))) M) := by
  refine gMet RX6 (by decide +kernel) rfl (Nat.le_of_ble_eq_true rfl) (fun X hC => ?_)
  have hC : gC X (wC q) cX6_about 4 RX6 (some .int) 8 := hC
  show gG X (wC q) _ 4 M 0 [(0, .ref (q.2.2 0)), (1, .int (nI (10 * (j / 6) + j % 6))), (2, .int (nI 4))] []
  have h4 := bv_f4 hI.2.2 hj ht
  refine g_aload_n hC (gDec_at DX6_about_0 0 rfl) rfl ?_
  refine g_get (w := wC q) hC 0 (v := .ref (q.2.2 9)) fl_X6_19 (show 0 < 63 from by decide) rfl rfl (gDec_at DX6_about_0 1 rfl) ?_
  refine g_iload_n hC (gDec_at DX6_about_0 2 rfl) rfl ?_
  refine g_callVd (w := wC q) hC 9 (c_X0_placeTold q hI hj ht) vf_X0_placeTold ml_X6_79 (by decide) (show 9 < 63 from by decide) rfl rfl rfl rfl rfl (Nat.le_of_ble_eq_true rfl) (gDec_at DX6_about_0 3 rfl) ?_
  refine g_astore_n hC (gDec_at DX6_about_0 4 rfl) (by decide) (L' := [(3, .ref (q.2.2 (15 + j))), (0, .ref (q.2.2 0)), (1, .int (nI (10 * (j / 6) + j % 6))), (2, .int (nI 4))]) rfl ?_
  refine g_aload_n hC (gDec_at DX6_about_0 5 rfl) rfl ?_
  refine g_ifnonnull hC (gDec_at DX6_about_0 6 rfl) 15 (by decide) ?_
  refine g_iload_n hC (gDec_at DX6_about_0 9 rfl) rfl ?_
  refine g_tableIn hC (gDec_at DX6_about_0 10 rfl) 76 (by decide) (by decide) rfl (by decide) ?_
  refine g_aload_n hC (gDec_at DX6_about_0 23 rfl) rfl ?_
  refine g_get (w := wC q) hC (15 + j) (v := .int (nI (B 4 j))) fl_X6_83 (show 15 + j < 63 from by have := hj; omega) (cC_p0 q _ _ hj) (g_sv (ci_f4 hI hj ht)) (gDec_at DX6_about_0 24 rfl) ?_
  refine g_if_eqN hC (by omega) (gDec_at DX6_about_0 25 rfl) 87 (by decide) (fun h80 => ?_) (fun h80 => ?_)
  · skip
    refine g_iconst hC (gDec_at DX6_about_0 28 rfl) (v := nI 0) (by decide) ?_
    refine g_iret hC (gDec_at DX6_about_0 29 rfl) ?_
    exact ⟨by rw [show B 4 j = 0 by omega], rfl⟩
  · skip
    refine g_iconst hC (gDec_at DX6_about_0 26 rfl) (v := nI 1) (by decide) ?_
    refine g_goto hC (gDec_at DX6_about_0 27 rfl) 88 (by decide) ?_
    refine g_iret hC (gDec_at DX6_about_0 29 rfl) ?_
    exact ⟨by rw [show B 4 j = 1 by omega], rfl⟩

set_option maxRecDepth 100000 in
set_option maxHeartbeats 4000000 in
theorem c_X6_about_5 (q : gQ3) {M : gM} {B : gB} (hI : cI M B) {j : Nat} (hj : j < 12) (ht : j % 6 < B 9 0) : gCt (wC q) yX6_about cX6_about 4 (some .int) 8 [.ref (q.2.2 0), .int (nI (10 * (j / 6) + j % 6)), .int (nI 5)] M (gR (some (.int (nI (B 5 j)))) M) := by
  refine gMet RX6 (by decide +kernel) rfl (Nat.le_of_ble_eq_true rfl) (fun X hC => ?_)
  have hC : gC X (wC q) cX6_about 4 RX6 (some .int) 8 := hC
  show gG X (wC q) _ 4 M 0 [(0, .ref (q.2.2 0)), (1, .int (nI (10 * (j / 6) + j % 6))), (2, .int (nI 5))] []
  have h4 := bv_f4 hI.2.2 hj ht
  refine g_aload_n hC (gDec_at DX6_about_0 0 rfl) rfl ?_
  refine g_get (w := wC q) hC 0 (v := .ref (q.2.2 9)) fl_X6_19 (show 0 < 63 from by decide) rfl rfl (gDec_at DX6_about_0 1 rfl) ?_
  refine g_iload_n hC (gDec_at DX6_about_0 2 rfl) rfl ?_
  refine g_callVd (w := wC q) hC 9 (c_X0_placeTold q hI hj ht) vf_X0_placeTold ml_X6_79 (by decide) (show 9 < 63 from by decide) rfl rfl rfl rfl rfl (Nat.le_of_ble_eq_true rfl) (gDec_at DX6_about_0 3 rfl) ?_
  refine g_astore_n hC (gDec_at DX6_about_0 4 rfl) (by decide) (L' := [(3, .ref (q.2.2 (15 + j))), (0, .ref (q.2.2 0)), (1, .int (nI (10 * (j / 6) + j % 6))), (2, .int (nI 5))]) rfl ?_
  refine g_aload_n hC (gDec_at DX6_about_0 5 rfl) rfl ?_
  refine g_ifnonnull hC (gDec_at DX6_about_0 6 rfl) 15 (by decide) ?_
  refine g_iload_n hC (gDec_at DX6_about_0 9 rfl) rfl ?_
  refine g_tableIn hC (gDec_at DX6_about_0 10 rfl) 89 (by decide) (by decide) rfl (by decide) ?_
  refine g_aload_n hC (gDec_at DX6_about_0 30 rfl) rfl ?_
  refine g_get (w := wC q) hC (15 + j) (v := .int (nI (B 5 j))) fl_X6_101 (show 15 + j < 63 from by have := hj; omega) (cC_p0 q _ _ hj) (g_sv (ci_f5 hI hj ht)) (gDec_at DX6_about_0 31 rfl) ?_
  refine g_iret hC (gDec_at DX6_about_0 32 rfl) ?_
  exact ⟨rfl, rfl⟩

set_option maxRecDepth 100000 in
set_option maxHeartbeats 4000000 in
theorem c_X6_about_bad (q : gQ3) {M : gM} {B : gB} (hI : cI M B) {j : Nat} (hj : j < 12) (ht : j % 6 < B 9 0) {y : Int32} (hy : ¬ gin y 0 5) : gCt (wC q) yX6_about cX6_about 4 (some .int) 8 [.ref (q.2.2 0), .int (nI (10 * (j / 6) + j % 6)), .int y] M (gR (some (.int (-2))) M) := by
  refine gMet RX6 (by decide +kernel) rfl (Nat.le_of_ble_eq_true rfl) (fun X hC => ?_)
  have hC : gC X (wC q) cX6_about 4 RX6 (some .int) 8 := hC
  show gG X (wC q) _ 4 M 0 [(0, .ref (q.2.2 0)), (1, .int (nI (10 * (j / 6) + j % 6))), (2, .int y)] []
  refine g_aload_n hC (gDec_at DX6_about_0 0 rfl) rfl ?_
  refine g_get (w := wC q) hC 0 (v := .ref (q.2.2 9)) fl_X6_19 (show 0 < 63 from by decide) rfl rfl (gDec_at DX6_about_0 1 rfl) ?_
  refine g_iload_n hC (gDec_at DX6_about_0 2 rfl) rfl ?_
  refine g_callVd (w := wC q) hC 9 (c_X0_placeTold q hI hj ht) vf_X0_placeTold ml_X6_79 (by decide) (show 9 < 63 from by decide) rfl rfl rfl rfl rfl (Nat.le_of_ble_eq_true rfl) (gDec_at DX6_about_0 3 rfl) ?_
  refine g_astore_n hC (gDec_at DX6_about_0 4 rfl) (by decide) (L' := [(3, .ref (q.2.2 (15 + j))), (0, .ref (q.2.2 0)), (1, .int (nI (10 * (j / 6) + j % 6))), (2, .int y)]) rfl ?_
  refine g_aload_n hC (gDec_at DX6_about_0 5 rfl) rfl ?_
  refine g_ifnonnull hC (gDec_at DX6_about_0 6 rfl) 15 (by decide) ?_
  refine g_iload_n hC (gDec_at DX6_about_0 9 rfl) rfl ?_
  refine g_tableOut hC (gDec_at DX6_about_0 10 rfl) 94 (by unfold gin at hy; omega) (by decide) ?_
  refine g_bipush hC (gDec_at DX6_about_0 33 rfl) (v := -2) (by decide) ?_
  refine g_iret hC (gDec_at DX6_about_0 34 rfl) ?_
  exact ⟨rfl, rfl⟩
end
