/-- fields of our objects: own class, pool entry, the object's class, slot -/
def FTB : List (Nat × Nat × Nat × Nat) := [(0, 9, 0, 0), (0, 15, 0, 1), (0, 18, 0, 2), (0, 22, 0, 3), (0, 25, 0, 4), (0, 28, 0, 5), (0, 32, 0, 6), (0, 35, 0, 7), (0, 38, 0, 8), (0, 41, 0, 9), (1, 11, 1, 0), (1, 15, 1, 1), (2, 7, 2, 0), (2, 13, 2, 1), (2, 16, 0, 8), (2, 50, 4, 1), (3, 11, 3, 0), (3, 15, 3, 1), (4, 9, 4, 0), (4, 15, 4, 1), (4, 18, 4, 2), (5, 10, 5, 0), (5, 16, 5, 1), (5, 19, 5, 2), (5, 22, 5, 3), (5, 29, 5, 4), (5, 36, 5, 5), (5, 43, 5, 6), (5, 50, 5, 7), (5, 54, 5, 8), (5, 74, 1, 1), (5, 116, 0, 2), (5, 139, 0, 7), (5, 142, 0, 8), (5, 145, 0, 9), (5, 179, 4, 0), (5, 182, 4, 1), (5, 185, 4, 2), (5, 215, 2, 0), (5, 241, 3, 1), (5, 284, 2, 1), (6, 9, 6, 0), (6, 13, 6, 1), (6, 16, 6, 2), (6, 19, 6, 3), (6, 22, 6, 5), (6, 25, 6, 6), (6, 28, 6, 7), (6, 31, 6, 10), (6, 34, 6, 13), (6, 90, 6, 11), (6, 108, 6, 8), (6, 111, 6, 12), (6, 176, 6, 14), (6, 182, 6, 9), (6, 188, 6, 15), (6, 197, 6, 4)]
def NWs : List Cond := [(Jvm.Cond.fieldLinkNest "GoneIntoItsTunnel" (116 : Nat) "GoneIntoItsTunnel$Hem" "length" "I" "GoneIntoItsTunnel"), (Jvm.Cond.fieldLinkNest "GoneIntoItsTunnel" (139 : Nat) "GoneIntoItsTunnel$Hem" "sewn" "Z" "GoneIntoItsTunnel"), (Jvm.Cond.fieldLinkNest "GoneIntoItsTunnel$Mending" (16 : Nat) "GoneIntoItsTunnel$Hem" "pin" "I" "GoneIntoItsTunnel"), (Jvm.Cond.fieldLinkNest "GoneIntoItsTunnel" (142 : Nat) "GoneIntoItsTunnel$Hem" "pin" "I" "GoneIntoItsTunnel"), (Jvm.Cond.fieldLinkNest "GoneIntoItsTunnel" (145 : Nat) "GoneIntoItsTunnel$Hem" "strength" "I" "GoneIntoItsTunnel"), (Jvm.Cond.fieldLinkNest "GoneIntoItsTunnel" (179 : Nat) "GoneIntoItsTunnel$Way" "bunches" "I" "GoneIntoItsTunnel"), (Jvm.Cond.fieldLinkNest "GoneIntoItsTunnel$Mending" (50 : Nat) "GoneIntoItsTunnel$Way" "seconds" "I" "GoneIntoItsTunnel"), (Jvm.Cond.fieldLinkNest "GoneIntoItsTunnel" (182 : Nat) "GoneIntoItsTunnel$Way" "seconds" "I" "GoneIntoItsTunnel"), (Jvm.Cond.fieldLinkNest "GoneIntoItsTunnel" (185 : Nat) "GoneIntoItsTunnel$Way" "dearest" "I" "GoneIntoItsTunnel"), (Jvm.Cond.fieldLinkNest "GoneIntoItsTunnel" (215 : Nat) "GoneIntoItsTunnel$Mending" "times" "I" "GoneIntoItsTunnel"), (Jvm.Cond.fieldLinkNest "GoneIntoItsTunnel" (284 : Nat) "GoneIntoItsTunnel$Mending" "seconds" "I" "GoneIntoItsTunnel"), (Jvm.Cond.fieldLinkNest "GoneIntoItsTunnel" (74 : Nat) "GoneIntoItsTunnel$Letters" "size" "I" "GoneIntoItsTunnel"), (Jvm.Cond.fieldLinkNest "GoneIntoItsTunnel" (241 : Nat) "GoneIntoItsTunnel$Row" "size" "I" "GoneIntoItsTunnel")]
def FldOK (q : Nat × Nat × Nat × Nat) : Prop := ∃ r : vw_C, clz[q.2.2.1]? = some r ∧ q.2.2.2 < r.2.2 ∧ (Cond.fieldLink (cn q.1) q.2.1 (r.2.1 q.2.2.2).1 (r.2.1 q.2.2.2).2.1 (r.2.1 q.2.2.2).2.2.1 ∈ TBg ∨ ∃ host : String, Cond.fieldLinkNest (cn q.1) q.2.1 (r.2.1 q.2.2.2).1 (r.2.1 q.2.2.2).2.1 (r.2.1 q.2.2.2).2.2.1 host ∈ NWs)
set_option maxRecDepth 100000 in
theorem fld_ok : ∀ q ∈ FTB, FldOK q := List.forall_mem_cons.mpr ⟨⟨_, rfl, by decide, Or.inl wd_29⟩, List.forall_mem_cons.mpr ⟨⟨_, rfl, by decide, Or.inl wd_30⟩, List.forall_mem_cons.mpr ⟨⟨_, rfl, by decide, Or.inl wd_31⟩, List.forall_mem_cons.mpr ⟨⟨_, rfl, by decide, Or.inl wd_33⟩, List.forall_mem_cons.mpr ⟨⟨_, rfl, by decide, Or.inl wd_34⟩, List.forall_mem_cons.mpr ⟨⟨_, rfl, by decide, Or.inl wd_35⟩, List.forall_mem_cons.mpr ⟨⟨_, rfl, by decide, Or.inl wd_36⟩, List.forall_mem_cons.mpr ⟨⟨_, rfl, by decide, Or.inl wd_37⟩, List.forall_mem_cons.mpr ⟨⟨_, rfl, by decide, Or.inl wd_39⟩, List.forall_mem_cons.mpr ⟨⟨_, rfl, by decide, Or.inl wd_42⟩, List.forall_mem_cons.mpr ⟨⟨_, rfl, by decide, Or.inl wd_107⟩, List.forall_mem_cons.mpr ⟨⟨_, rfl, by decide, Or.inl wd_108⟩, List.forall_mem_cons.mpr ⟨⟨_, rfl, by decide, Or.inl wd_92⟩, List.forall_mem_cons.mpr ⟨⟨_, rfl, by decide, Or.inl wd_94⟩, List.forall_mem_cons.mpr ⟨⟨_, rfl, by decide, Or.inr ⟨_, List.mem_of_getElem? (i := 2) rfl⟩⟩, List.forall_mem_cons.mpr ⟨⟨_, rfl, by decide, Or.inr ⟨_, List.mem_of_getElem? (i := 6) rfl⟩⟩, List.forall_mem_cons.mpr ⟨⟨_, rfl, by decide, Or.inl wd_121⟩, List.forall_mem_cons.mpr ⟨⟨_, rfl, by decide, Or.inl wd_122⟩, List.forall_mem_cons.mpr ⟨⟨_, rfl, by decide, Or.inl wd_72⟩, List.forall_mem_cons.mpr ⟨⟨_, rfl, by decide, Or.inl wd_74⟩, List.forall_mem_cons.mpr ⟨⟨_, rfl, by decide, Or.inl wd_77⟩, List.forall_mem_cons.mpr ⟨⟨_, rfl, by decide, Or.inl wd_129⟩, List.forall_mem_cons.mpr ⟨⟨_, rfl, by decide, Or.inl wd_130⟩, List.forall_mem_cons.mpr ⟨⟨_, rfl, by decide, Or.inl wd_131⟩, List.forall_mem_cons.mpr ⟨⟨_, rfl, by decide, Or.inl wd_132⟩, List.forall_mem_cons.mpr ⟨⟨_, rfl, by decide, Or.inl wd_133⟩, List.forall_mem_cons.mpr ⟨⟨_, rfl, by decide, Or.inl wd_134⟩, List.forall_mem_cons.mpr ⟨⟨_, rfl, by decide, Or.inl wd_135⟩, List.forall_mem_cons.mpr ⟨⟨_, rfl, by decide, Or.inl wd_136⟩, List.forall_mem_cons.mpr ⟨⟨_, rfl, by decide, Or.inl wd_137⟩, List.forall_mem_cons.mpr ⟨⟨_, rfl, by decide, Or.inr ⟨_, List.mem_of_getElem? (i := 11) rfl⟩⟩, List.forall_mem_cons.mpr ⟨⟨_, rfl, by decide, Or.inr ⟨_, List.mem_of_getElem? (i := 0) rfl⟩⟩, List.forall_mem_cons.mpr ⟨⟨_, rfl, by decide, Or.inr ⟨_, List.mem_of_getElem? (i := 1) rfl⟩⟩, List.forall_mem_cons.mpr ⟨⟨_, rfl, by decide, Or.inr ⟨_, List.mem_of_getElem? (i := 3) rfl⟩⟩, List.forall_mem_cons.mpr ⟨⟨_, rfl, by decide, Or.inr ⟨_, List.mem_of_getElem? (i := 4) rfl⟩⟩, List.forall_mem_cons.mpr ⟨⟨_, rfl, by decide, Or.inr ⟨_, List.mem_of_getElem? (i := 5) rfl⟩⟩, List.forall_mem_cons.mpr ⟨⟨_, rfl, by decide, Or.inr ⟨_, List.mem_of_getElem? (i := 7) rfl⟩⟩, List.forall_mem_cons.mpr ⟨⟨_, rfl, by decide, Or.inr ⟨_, List.mem_of_getElem? (i := 8) rfl⟩⟩, List.forall_mem_cons.mpr ⟨⟨_, rfl, by decide, Or.inr ⟨_, List.mem_of_getElem? (i := 9) rfl⟩⟩, List.forall_mem_cons.mpr ⟨⟨_, rfl, by decide, Or.inr ⟨_, List.mem_of_getElem? (i := 12) rfl⟩⟩, List.forall_mem_cons.mpr ⟨⟨_, rfl, by decide, Or.inr ⟨_, List.mem_of_getElem? (i := 10) rfl⟩⟩, List.forall_mem_cons.mpr ⟨⟨_, rfl, by decide, Or.inl wd_731⟩, List.forall_mem_cons.mpr ⟨⟨_, rfl, by decide, Or.inl wd_732⟩, List.forall_mem_cons.mpr ⟨⟨_, rfl, by decide, Or.inl wd_733⟩, List.forall_mem_cons.mpr ⟨⟨_, rfl, by decide, Or.inl wd_734⟩, List.forall_mem_cons.mpr ⟨⟨_, rfl, by decide, Or.inl wd_736⟩, List.forall_mem_cons.mpr ⟨⟨_, rfl, by decide, Or.inl wd_737⟩, List.forall_mem_cons.mpr ⟨⟨_, rfl, by decide, Or.inl wd_738⟩, List.forall_mem_cons.mpr ⟨⟨_, rfl, by decide, Or.inl wd_741⟩, List.forall_mem_cons.mpr ⟨⟨_, rfl, by decide, Or.inl wd_744⟩, List.forall_mem_cons.mpr ⟨⟨_, rfl, by decide, Or.inl wd_742⟩, List.forall_mem_cons.mpr ⟨⟨_, rfl, by decide, Or.inl wd_739⟩, List.forall_mem_cons.mpr ⟨⟨_, rfl, by decide, Or.inl wd_743⟩, List.forall_mem_cons.mpr ⟨⟨_, rfl, by decide, Or.inl wd_745⟩, List.forall_mem_cons.mpr ⟨⟨_, rfl, by decide, Or.inl wd_740⟩, List.forall_mem_cons.mpr ⟨⟨_, rfl, by decide, Or.inl wd_746⟩, List.forall_mem_cons.mpr ⟨⟨_, rfl, by decide, Or.inl wd_735⟩, fun _ h => absurd h List.not_mem_nil⟩⟩⟩⟩⟩⟩⟩⟩⟩⟩⟩⟩⟩⟩⟩⟩⟩⟩⟩⟩⟩⟩⟩⟩⟩⟩⟩⟩⟩⟩⟩⟩⟩⟩⟩⟩⟩⟩⟩⟩⟩⟩⟩⟩⟩⟩⟩⟩⟩⟩⟩⟩⟩⟩⟩⟩⟩
/-- constants of ints: own class, pool entry, value -/
def LTB : List (Nat × Nat × Int32) := [(4, 41, 1000000), (5, 247, 1664525), (5, 248, 1013904223), (5, 249, 2147483647), (5, 259, 1000000000), (6, 37, 1000000000), (6, 191, 1664525), (6, 192, 1013904223), (6, 193, 2147483647)]
set_option maxRecDepth 100000 in
theorem ld_ok : ∀ q ∈ LTB, Cond.constant (cn q.1) q.2.1 q.2.2 ∈ TBg := List.forall_mem_cons.mpr ⟨wd_630, List.forall_mem_cons.mpr ⟨wd_698, List.forall_mem_cons.mpr ⟨wd_699, List.forall_mem_cons.mpr ⟨wd_700, List.forall_mem_cons.mpr ⟨wd_469, List.forall_mem_cons.mpr ⟨wd_894, List.forall_mem_cons.mpr ⟨wd_1051, List.forall_mem_cons.mpr ⟨wd_1052, List.forall_mem_cons.mpr ⟨wd_1053, fun _ h => absurd h List.not_mem_nil⟩⟩⟩⟩⟩⟩⟩⟩⟩
/-- constants of texts: own class, pool entry, text -/
def STB : List (Nat × Nat × String) := [(1, 51, "##;"), (1, 53, "k###;"), (1, 55, "#+##;"), (1, 57, "#;"), (1, 59, ";"), (1, 61, ""), (7, 9, "cselvb")]
def sLen : List Nat := [3, 5, 5, 2, 1, 0, 6]
def sByt : List (List Int32) := [[35, 35, 59], [107, 35, 35, 35, 59], [35, 43, 35, 35, 59], [35, 59], [59], [], [99, 115, 101, 108, 118, 98]]
set_option maxRecDepth 100000 in
theorem sv_value : Cond.fieldLink "java/lang/String" 9 "java/lang/String" "value" "[B" ∈ TBg := wd_1066
set_option maxRecDepth 100000 in
theorem sv_coder : Cond.fieldLink "java/lang/String" 15 "java/lang/String" "coder" "B" ∈ TBg := wd_1067
set_option maxRecDepth 100000 in
theorem gs_J0_38 : Cond.fieldLink "java/lang/String" 38 "java/lang/String" "COMPACT_STRINGS" "Z" ∈ TBg := wd_209
set_option maxRecDepth 100000 in
theorem gs_J0_1053 : Cond.fieldLink "java/lang/String" 1053 "jdk/internal/util/Preconditions" "SIOOBE_FORMATTER" "Ljava/util/function/BiFunction;" ∈ TBg := wd_225
/-- calls: own class, pool entry, 0 virtual or 1 static, the method called, how many parameters -/
def CTB0 : List (Nat × Nat × Nat × MD × Nat) := [(0, 44, 0, mX0_kindAt, 1), (0, 48, 0, mX0_figureAt, 1), (0, 51, 0, mX0_make, 3), (0, 57, 1, mX1_bunchMove, 1), (0, 60, 1, mX1_bunchSeconds, 2), (0, 64, 1, mX1_threadSeconds, 2), (0, 67, 1, mX1_washDraw, 2), (0, 70, 1, mX1_isSeam, 1), (0, 74, 0, mX0_threadSeconds, 1), (0, 76, 0, mX0_secondsAnewOf, 2), (0, 79, 0, mX0_depth, 1), (0, 82, 0, mX0_isLost, 1), (0, 93, 0, mX0_canDraw, 2), (0, 96, 0, mX0_place, 2), (0, 100, 0, mX0_inchAt, 2), (0, 103, 0, mX0_washDraw, 1), (0, 105, 0, mX0_draw, 2), (0, 108, 0, mX0_washOnce, 0), (1, 19, 0, mX2_signAt, 1), (1, 23, 0, mX2_digit, 1), (1, 26, 0, mX2_number, 1), (1, 29, 1, mX2_formBehind, 1), (1, 33, 0, mJ0_length_8abf5, 0), (1, 39, 0, mJ0_isEmpty_aae02, 0), (1, 43, 0, mJ0_charAt_5068e, 1), (1, 47, 1, mX2_fits, 2), (1, 63, 1, mX1_isSign, 1), (2, 21, 0, mX0_secondsAnew, 1), (2, 25, 0, mX0_washOnce, 0), (2, 29, 0, mX3_mend, 4), (2, 33, 0, mX0_isLost, 1), (2, 37, 0, mX0_depth, 1), (2, 40, 0, mX5_measure, 3), (2, 46, 0, mX5_isAWay, 0), (2, 51, 0, mX0_threadAnew, 0), (2, 54, 0, mX0_place, 2), (3, 19, 0, mX0_depth, 1), (3, 25, 0, mX0_washOnce, 0), (4, 21, 0, mX0_inchAt, 2), (4, 27, 0, mX0_bunchMove, 1)]
def CTB1 : List (Nat × Nat × Nat × MD × Nat) := [(4, 31, 0, mX5_neverIsOut, 0), (4, 34, 0, mX0_bunchSeconds, 1), (4, 37, 0, mX5_isAWay, 0), (4, 42, 0, mX0_depth, 1), (4, 45, 0, mX5_measure, 3), (5, 58, 1, mX6_outside, 3), (5, 62, 0, mX6_refuse, 1), (5, 66, 0, mX2_isFull, 0), (5, 70, 0, mX2_add, 1), (5, 78, 0, mX2_firstUnfit, 0), (5, 82, 0, mX6_statementsCome, 0), (5, 85, 0, mX2_clear, 0), (5, 88, 0, mX0_hasInch, 1), (5, 92, 0, mX0_kindAt, 1), (5, 95, 0, mX0_figureAt, 1), (5, 98, 0, mX0_bunchMove, 1), (5, 101, 0, mX0_bunchSeconds, 1), (5, 104, 0, mX0_threadSeconds, 1), (5, 107, 0, mX0_washDraw, 1), (5, 112, 0, mX0_make, 3), (5, 119, 1, mX6_isEnd, 1), (5, 122, 0, mX6_refuseAsTold, 1), (5, 125, 0, mX0_depth, 1), (5, 128, 0, mX0_place, 2), (5, 132, 0, mX0_isKnotted, 1), (5, 135, 0, mX0_knot, 2), (5, 148, 0, mX0_draw, 2), (5, 152, 0, mX0_isLost, 1), (5, 155, 0, mX0_inchAt, 2), (5, 163, 0, mX0_threadAnew, 0), (5, 166, 0, mX0_secondsAnew, 1), (5, 169, 0, mX0_washTimes, 1), (5, 172, 0, mX0_lostEnds, 0), (5, 175, 0, mX5_measure, 3), (5, 188, 0, mX6_secondsIfLost, 1), (5, 191, 0, mX5_secondsOfAll, 1), (5, 195, 0, mX0_copyFrom, 1), (5, 199, 0, mX6_washesTillLost, 0), (5, 202, 0, mX0_washOnce, 0), (5, 205, 0, mX5_isAWay, 0)]
def CTB2 : List (Nat × Nat × Nat × MD × Nat) := [(5, 208, 0, mX6_secondsWithStop, 2), (5, 211, 0, mX3_goOn, 3), (5, 218, 0, mX5_rank, 0), (5, 221, 0, mX6_rankWithCloth, 2), (5, 227, 0, mX0_canDraw, 2), (5, 230, 0, mX0_secondsAnewOf, 2), (5, 233, 0, mX6_kindsByRow, 1), (5, 236, 0, mX6_strengthsByRow, 0), (5, 239, 0, mX4_isFull, 0), (5, 240, 0, mX4_add, 1), (5, 242, 0, mX4_firstNotSo, 2), (5, 246, 0, mX4_clear, 0), (5, 250, 0, mX6_lotSeconds, 1), (5, 253, 0, mX0_seams, 0), (5, 256, 0, mX6_refusalsAt, 1), (5, 260, 0, mX6_isAsItMustBe, 1), (5, 263, 0, mX6_comes, 1), (5, 266, 0, mX2_lengthBehind, 1), (5, 269, 0, mX2_signAt, 1), (5, 272, 0, mX2_number, 1), (5, 275, 0, mX2_digit, 1), (5, 278, 0, mX2_signed, 1), (5, 281, 1, mX1_ofSign, 1), (6, 38, 0, mX7_no, 1), (6, 42, 1, mX7_isIn, 3), (6, 46, 1, mX7_kindOf, 2), (6, 50, 1, mX7_isSeam, 1), (6, 54, 1, mX7_figureOf, 2), (6, 57, 1, mX7_least, 2), (6, 61, 1, mX7_most, 2), (6, 64, 1, mX7_canPull, 3), (6, 68, 1, mX7_inchOf, 2), (6, 71, 1, mX7_drawsAt, 2), (6, 74, 1, mX7_pulls, 3), (6, 77, 1, mX7_washes, 1), (6, 81, 1, mX7_movesAt, 2), (6, 84, 1, mX7_threadBy, 2), (6, 87, 1, mX7_threadAt, 2), (6, 94, 1, mX7_isLost, 2), (6, 98, 1, mX7_bunchAt, 2)]
def CTB3 : List (Nat × Nat × Nat × MD × Nat) := [(6, 101, 1, mX7_bunches, 2), (6, 105, 0, mX7_outSeconds, 2), (6, 114, 0, mX7_here, 0), (6, 118, 1, mX7_kindBy, 1), (6, 121, 0, mX7_readsNumber, 2), (6, 125, 0, mX7_readsKind, 0), (6, 129, 0, mX7_readsSigned, 0), (6, 132, 0, mX7_isInch, 1), (6, 135, 1, mX7_isEnd, 1), (6, 138, 1, mX7_washesOn, 2), (6, 141, 0, mX7_readsStatement, 0), (6, 144, 1, mX7_lays, 2), (6, 148, 0, mX7_isDone, 1), (6, 151, 0, mX7_noFar, 1), (6, 154, 1, mX7_threads, 1), (6, 158, 1, mX7_anewSeconds, 1), (6, 161, 1, mX7_lostMany, 1), (6, 164, 0, mX7_costliest, 1), (6, 167, 0, mX7_allSeconds, 1), (6, 170, 1, mX7_wrongWashes, 1), (6, 173, 1, mX7_wrongSeconds, 1), (6, 179, 0, mX7_mended, 1), (6, 185, 0, mX7_firstWrong, 2), (6, 194, 0, mX7_drawn, 1), (7, 11, 0, mJ0_indexOf_0f7a4, 1), (10, 335, 0, mJ0_coder_7d493, 0), (10, 492, 0, mJ0_isLatin1_aae02, 0), (10, 495, 1, mJ1_charAt_3b067, 2), (10, 505, 0, mJ0_length_8abf5, 0), (10, 633, 0, mJ0_indexOf_7cf53, 2), (10, 637, 1, mJ1_indexOf_4cfef, 4), (10, 1059, 1, mJ3_checkIndex_8e157, 3), (11, 9, 1, mJ0_checkIndex_df160, 2), (11, 88, 1, mJ1_canEncode_9a6ad, 1), (11, 95, 1, mJ1_indexOfChar_4cfef, 4), (30, 13, 0, mX6_letter, 1), (30, 17, 0, mX7_letter, 1), (30, 18, 0, mX6_hem, 0), (30, 22, 0, mX7_hem, 0), (30, 23, 0, mX6_inch, 2)]
def CTB4 : List (Nat × Nat × Nat × MD × Nat) := [(30, 27, 0, mX7_inch, 2), (30, 28, 0, mX6_turn, 3), (30, 32, 0, mX7_turn, 3), (30, 33, 0, mX6_inches, 1), (30, 36, 0, mX7_inches, 1), (30, 37, 0, mX6_end, 2), (30, 40, 0, mX7_end, 2), (30, 41, 0, mX6_tie, 1), (30, 44, 0, mX7_tie, 1), (30, 45, 0, mX6_sew, 0), (30, 48, 0, mX7_sew, 0), (30, 49, 0, mX6_set, 2), (30, 52, 0, mX7_set, 2), (30, 53, 0, mX6_pull, 2), (30, 56, 0, mX7_pull, 2), (30, 57, 0, mX6_bunch, 1), (30, 60, 0, mX7_bunch, 1), (30, 61, 0, mX6_anew, 0), (30, 64, 0, mX7_anew, 0), (30, 65, 0, mX6_wash, 1), (30, 68, 0, mX7_wash, 1), (30, 69, 0, mX6_of, 2), (30, 72, 0, mX7_of, 2), (30, 73, 0, mX6_out, 2), (30, 76, 0, mX7_out, 2), (30, 77, 0, mX6_soonest, 0), (30, 80, 0, mX7_soonest, 0), (30, 81, 0, mX6_better, 1), (30, 84, 0, mX7_better, 1), (30, 85, 0, mX6_inIn, 2), (30, 88, 0, mX7_inIn, 2), (30, 89, 0, mX6_lost, 1), (30, 92, 0, mX7_lost, 1), (30, 93, 0, mX6_still, 0), (30, 96, 0, mX7_still, 0), (30, 97, 0, mX6_keep, 1), (30, 100, 0, mX7_keep, 1), (30, 101, 0, mX6_deep, 2), (30, 104, 0, mX7_deep, 2), (30, 105, 0, mX6_stops, 2)]
def CTB5 : List (Nat × Nat × Nat × MD × Nat) := [(30, 108, 0, mX7_stops, 2), (30, 109, 0, mX6_care, 1), (30, 112, 0, mX7_care, 1), (30, 113, 0, mX6_holdsUp, 1), (30, 116, 0, mX7_holdsUp, 1), (30, 117, 0, mX6_middle, 0), (30, 120, 0, mX7_middle, 0), (30, 121, 0, mX6_cutOff, 0), (30, 124, 0, mX7_cutOff, 0), (30, 125, 0, mX6_bestPin, 1), (30, 128, 0, mX7_bestPin, 1), (30, 129, 0, mX6_worst, 0), (30, 132, 0, mX7_worst, 0), (30, 133, 0, mX6_which, 2), (30, 136, 0, mX7_which, 2), (30, 137, 0, mX6_row, 1), (30, 140, 0, mX7_row, 1), (30, 141, 0, mX6_judge, 1), (30, 144, 0, mX7_judge, 1), (30, 145, 0, mX6_lots, 3), (30, 148, 0, mX7_lots, 3), (30, 149, 0, mX6_image, 0), (30, 152, 0, mX7_image, 0), (30, 153, 0, mX6_on, 0), (30, 156, 0, mX7_on, 0), (30, 157, 0, mX6_count, 1), (30, 160, 0, mX7_count, 1)]
def CTB : List (Nat × Nat × Nat × MD × Nat) := CTB0 ++ (CTB1 ++ (CTB2 ++ (CTB3 ++ (CTB4 ++ (CTB5)))))
def CalOK (q : Nat × Nat × Nat × MD × Nat) : Prop := Cond.methodLink (cn q.1) q.2.1 q.2.2.2.1.2.1 ∈ TBg ∧ Cond.code q.2.2.2.1.2.1 q.2.2.2.1.2.2.1 q.2.2.2.1.2.2.2.1 q.2.2.2.1.2.2.2.2.1 ∈ TBg ∧ Cond.initialized q.2.2.2.1.2.1.cls ∈ TBg ∧ ((q.2.2.1 = 0 ∧ Cond.instanceMethod q.2.2.2.1.2.1 ∈ TBg ∧ Cond.selects q.2.2.2.1.2.1.cls q.2.2.2.1.2.1 q.2.2.2.1.2.1 ∈ TBg) ∨ (q.2.2.1 = 1 ∧ Cond.static q.2.2.2.1.2.1 ∈ TBg)) ∧ (q.2.2.2.1.2.1.cls ≠ "java/lang/invoke/MethodHandle" ∧ q.2.2.2.1.2.1.cls ≠ "java/lang/invoke/VarHandle" ∧ (parseMethodDescriptor q.2.2.2.1.2.1.desc).map (fun d => d.parameters.length) = some q.2.2.2.2) ∧ q.2.2.2.1.2.1.cls = cn q.2.2.2.1.1 ∧ plainName q.2.2.2.1.2.1.cls = true
set_option maxRecDepth 100000 in
theorem md_J0_charAt_5068e : (mJ0_charAt_5068e.2.1.cls ≠ "java/lang/invoke/MethodHandle" ∧ mJ0_charAt_5068e.2.1.cls ≠ "java/lang/invoke/VarHandle" ∧ (parseMethodDescriptor mJ0_charAt_5068e.2.1.desc).map (fun d => d.parameters.length) = some 1) ∧ mJ0_charAt_5068e.2.1.cls = cn mJ0_charAt_5068e.1 ∧ plainName mJ0_charAt_5068e.2.1.cls = true := by decide +kernel
set_option maxRecDepth 100000 in
theorem md_J0_checkIndex_df160 : (mJ0_checkIndex_df160.2.1.cls ≠ "java/lang/invoke/MethodHandle" ∧ mJ0_checkIndex_df160.2.1.cls ≠ "java/lang/invoke/VarHandle" ∧ (parseMethodDescriptor mJ0_checkIndex_df160.2.1.desc).map (fun d => d.parameters.length) = some 2) ∧ mJ0_checkIndex_df160.2.1.cls = cn mJ0_checkIndex_df160.1 ∧ plainName mJ0_checkIndex_df160.2.1.cls = true := by decide +kernel
set_option maxRecDepth 100000 in
theorem md_J0_coder_7d493 : (mJ0_coder_7d493.2.1.cls ≠ "java/lang/invoke/MethodHandle" ∧ mJ0_coder_7d493.2.1.cls ≠ "java/lang/invoke/VarHandle" ∧ (parseMethodDescriptor mJ0_coder_7d493.2.1.desc).map (fun d => d.parameters.length) = some 0) ∧ mJ0_coder_7d493.2.1.cls = cn mJ0_coder_7d493.1 ∧ plainName mJ0_coder_7d493.2.1.cls = true := by decide +kernel
set_option maxRecDepth 100000 in
theorem md_J0_indexOf_0f7a4 : (mJ0_indexOf_0f7a4.2.1.cls ≠ "java/lang/invoke/MethodHandle" ∧ mJ0_indexOf_0f7a4.2.1.cls ≠ "java/lang/invoke/VarHandle" ∧ (parseMethodDescriptor mJ0_indexOf_0f7a4.2.1.desc).map (fun d => d.parameters.length) = some 1) ∧ mJ0_indexOf_0f7a4.2.1.cls = cn mJ0_indexOf_0f7a4.1 ∧ plainName mJ0_indexOf_0f7a4.2.1.cls = true := by decide +kernel
set_option maxRecDepth 100000 in
theorem md_J0_indexOf_7cf53 : (mJ0_indexOf_7cf53.2.1.cls ≠ "java/lang/invoke/MethodHandle" ∧ mJ0_indexOf_7cf53.2.1.cls ≠ "java/lang/invoke/VarHandle" ∧ (parseMethodDescriptor mJ0_indexOf_7cf53.2.1.desc).map (fun d => d.parameters.length) = some 2) ∧ mJ0_indexOf_7cf53.2.1.cls = cn mJ0_indexOf_7cf53.1 ∧ plainName mJ0_indexOf_7cf53.2.1.cls = true := by decide +kernel
set_option maxRecDepth 100000 in
theorem md_J0_isEmpty_aae02 : (mJ0_isEmpty_aae02.2.1.cls ≠ "java/lang/invoke/MethodHandle" ∧ mJ0_isEmpty_aae02.2.1.cls ≠ "java/lang/invoke/VarHandle" ∧ (parseMethodDescriptor mJ0_isEmpty_aae02.2.1.desc).map (fun d => d.parameters.length) = some 0) ∧ mJ0_isEmpty_aae02.2.1.cls = cn mJ0_isEmpty_aae02.1 ∧ plainName mJ0_isEmpty_aae02.2.1.cls = true := by decide +kernel
set_option maxRecDepth 100000 in
theorem md_J0_isLatin1_aae02 : (mJ0_isLatin1_aae02.2.1.cls ≠ "java/lang/invoke/MethodHandle" ∧ mJ0_isLatin1_aae02.2.1.cls ≠ "java/lang/invoke/VarHandle" ∧ (parseMethodDescriptor mJ0_isLatin1_aae02.2.1.desc).map (fun d => d.parameters.length) = some 0) ∧ mJ0_isLatin1_aae02.2.1.cls = cn mJ0_isLatin1_aae02.1 ∧ plainName mJ0_isLatin1_aae02.2.1.cls = true := by decide +kernel
set_option maxRecDepth 100000 in
theorem md_J0_length_8abf5 : (mJ0_length_8abf5.2.1.cls ≠ "java/lang/invoke/MethodHandle" ∧ mJ0_length_8abf5.2.1.cls ≠ "java/lang/invoke/VarHandle" ∧ (parseMethodDescriptor mJ0_length_8abf5.2.1.desc).map (fun d => d.parameters.length) = some 0) ∧ mJ0_length_8abf5.2.1.cls = cn mJ0_length_8abf5.1 ∧ plainName mJ0_length_8abf5.2.1.cls = true := by decide +kernel
set_option maxRecDepth 100000 in
theorem md_J1_canEncode_9a6ad : (mJ1_canEncode_9a6ad.2.1.cls ≠ "java/lang/invoke/MethodHandle" ∧ mJ1_canEncode_9a6ad.2.1.cls ≠ "java/lang/invoke/VarHandle" ∧ (parseMethodDescriptor mJ1_canEncode_9a6ad.2.1.desc).map (fun d => d.parameters.length) = some 1) ∧ mJ1_canEncode_9a6ad.2.1.cls = cn mJ1_canEncode_9a6ad.1 ∧ plainName mJ1_canEncode_9a6ad.2.1.cls = true := by decide +kernel
set_option maxRecDepth 100000 in
theorem md_J1_charAt_3b067 : (mJ1_charAt_3b067.2.1.cls ≠ "java/lang/invoke/MethodHandle" ∧ mJ1_charAt_3b067.2.1.cls ≠ "java/lang/invoke/VarHandle" ∧ (parseMethodDescriptor mJ1_charAt_3b067.2.1.desc).map (fun d => d.parameters.length) = some 2) ∧ mJ1_charAt_3b067.2.1.cls = cn mJ1_charAt_3b067.1 ∧ plainName mJ1_charAt_3b067.2.1.cls = true := by decide +kernel
set_option maxRecDepth 100000 in
theorem md_J1_indexOfChar_4cfef : (mJ1_indexOfChar_4cfef.2.1.cls ≠ "java/lang/invoke/MethodHandle" ∧ mJ1_indexOfChar_4cfef.2.1.cls ≠ "java/lang/invoke/VarHandle" ∧ (parseMethodDescriptor mJ1_indexOfChar_4cfef.2.1.desc).map (fun d => d.parameters.length) = some 4) ∧ mJ1_indexOfChar_4cfef.2.1.cls = cn mJ1_indexOfChar_4cfef.1 ∧ plainName mJ1_indexOfChar_4cfef.2.1.cls = true := by decide +kernel
set_option maxRecDepth 100000 in
theorem md_J1_indexOf_4cfef : (mJ1_indexOf_4cfef.2.1.cls ≠ "java/lang/invoke/MethodHandle" ∧ mJ1_indexOf_4cfef.2.1.cls ≠ "java/lang/invoke/VarHandle" ∧ (parseMethodDescriptor mJ1_indexOf_4cfef.2.1.desc).map (fun d => d.parameters.length) = some 4) ∧ mJ1_indexOf_4cfef.2.1.cls = cn mJ1_indexOf_4cfef.1 ∧ plainName mJ1_indexOf_4cfef.2.1.cls = true := by decide +kernel
set_option maxRecDepth 100000 in
theorem md_J3_checkIndex_8e157 : (mJ3_checkIndex_8e157.2.1.cls ≠ "java/lang/invoke/MethodHandle" ∧ mJ3_checkIndex_8e157.2.1.cls ≠ "java/lang/invoke/VarHandle" ∧ (parseMethodDescriptor mJ3_checkIndex_8e157.2.1.desc).map (fun d => d.parameters.length) = some 3) ∧ mJ3_checkIndex_8e157.2.1.cls = cn mJ3_checkIndex_8e157.1 ∧ plainName mJ3_checkIndex_8e157.2.1.cls = true := by decide +kernel
set_option maxRecDepth 100000 in
theorem md_X0_bunchMove : (mX0_bunchMove.2.1.cls ≠ "java/lang/invoke/MethodHandle" ∧ mX0_bunchMove.2.1.cls ≠ "java/lang/invoke/VarHandle" ∧ (parseMethodDescriptor mX0_bunchMove.2.1.desc).map (fun d => d.parameters.length) = some 1) ∧ mX0_bunchMove.2.1.cls = cn mX0_bunchMove.1 ∧ plainName mX0_bunchMove.2.1.cls = true := by decide +kernel
set_option maxRecDepth 100000 in
theorem md_X0_bunchSeconds : (mX0_bunchSeconds.2.1.cls ≠ "java/lang/invoke/MethodHandle" ∧ mX0_bunchSeconds.2.1.cls ≠ "java/lang/invoke/VarHandle" ∧ (parseMethodDescriptor mX0_bunchSeconds.2.1.desc).map (fun d => d.parameters.length) = some 1) ∧ mX0_bunchSeconds.2.1.cls = cn mX0_bunchSeconds.1 ∧ plainName mX0_bunchSeconds.2.1.cls = true := by decide +kernel
set_option maxRecDepth 100000 in
theorem md_X0_canDraw : (mX0_canDraw.2.1.cls ≠ "java/lang/invoke/MethodHandle" ∧ mX0_canDraw.2.1.cls ≠ "java/lang/invoke/VarHandle" ∧ (parseMethodDescriptor mX0_canDraw.2.1.desc).map (fun d => d.parameters.length) = some 2) ∧ mX0_canDraw.2.1.cls = cn mX0_canDraw.1 ∧ plainName mX0_canDraw.2.1.cls = true := by decide +kernel
set_option maxRecDepth 100000 in
theorem md_X0_copyFrom : (mX0_copyFrom.2.1.cls ≠ "java/lang/invoke/MethodHandle" ∧ mX0_copyFrom.2.1.cls ≠ "java/lang/invoke/VarHandle" ∧ (parseMethodDescriptor mX0_copyFrom.2.1.desc).map (fun d => d.parameters.length) = some 1) ∧ mX0_copyFrom.2.1.cls = cn mX0_copyFrom.1 ∧ plainName mX0_copyFrom.2.1.cls = true := by decide +kernel
set_option maxRecDepth 100000 in
theorem md_X0_depth : (mX0_depth.2.1.cls ≠ "java/lang/invoke/MethodHandle" ∧ mX0_depth.2.1.cls ≠ "java/lang/invoke/VarHandle" ∧ (parseMethodDescriptor mX0_depth.2.1.desc).map (fun d => d.parameters.length) = some 1) ∧ mX0_depth.2.1.cls = cn mX0_depth.1 ∧ plainName mX0_depth.2.1.cls = true := by decide +kernel
set_option maxRecDepth 100000 in
theorem md_X0_draw : (mX0_draw.2.1.cls ≠ "java/lang/invoke/MethodHandle" ∧ mX0_draw.2.1.cls ≠ "java/lang/invoke/VarHandle" ∧ (parseMethodDescriptor mX0_draw.2.1.desc).map (fun d => d.parameters.length) = some 2) ∧ mX0_draw.2.1.cls = cn mX0_draw.1 ∧ plainName mX0_draw.2.1.cls = true := by decide +kernel
set_option maxRecDepth 100000 in
theorem md_X0_figureAt : (mX0_figureAt.2.1.cls ≠ "java/lang/invoke/MethodHandle" ∧ mX0_figureAt.2.1.cls ≠ "java/lang/invoke/VarHandle" ∧ (parseMethodDescriptor mX0_figureAt.2.1.desc).map (fun d => d.parameters.length) = some 1) ∧ mX0_figureAt.2.1.cls = cn mX0_figureAt.1 ∧ plainName mX0_figureAt.2.1.cls = true := by decide +kernel
set_option maxRecDepth 100000 in
theorem md_X0_hasInch : (mX0_hasInch.2.1.cls ≠ "java/lang/invoke/MethodHandle" ∧ mX0_hasInch.2.1.cls ≠ "java/lang/invoke/VarHandle" ∧ (parseMethodDescriptor mX0_hasInch.2.1.desc).map (fun d => d.parameters.length) = some 1) ∧ mX0_hasInch.2.1.cls = cn mX0_hasInch.1 ∧ plainName mX0_hasInch.2.1.cls = true := by decide +kernel
set_option maxRecDepth 100000 in
theorem md_X0_inchAt : (mX0_inchAt.2.1.cls ≠ "java/lang/invoke/MethodHandle" ∧ mX0_inchAt.2.1.cls ≠ "java/lang/invoke/VarHandle" ∧ (parseMethodDescriptor mX0_inchAt.2.1.desc).map (fun d => d.parameters.length) = some 2) ∧ mX0_inchAt.2.1.cls = cn mX0_inchAt.1 ∧ plainName mX0_inchAt.2.1.cls = true := by decide +kernel
set_option maxRecDepth 100000 in
theorem md_X0_isKnotted : (mX0_isKnotted.2.1.cls ≠ "java/lang/invoke/MethodHandle" ∧ mX0_isKnotted.2.1.cls ≠ "java/lang/invoke/VarHandle" ∧ (parseMethodDescriptor mX0_isKnotted.2.1.desc).map (fun d => d.parameters.length) = some 1) ∧ mX0_isKnotted.2.1.cls = cn mX0_isKnotted.1 ∧ plainName mX0_isKnotted.2.1.cls = true := by decide +kernel
set_option maxRecDepth 100000 in
theorem md_X0_isLost : (mX0_isLost.2.1.cls ≠ "java/lang/invoke/MethodHandle" ∧ mX0_isLost.2.1.cls ≠ "java/lang/invoke/VarHandle" ∧ (parseMethodDescriptor mX0_isLost.2.1.desc).map (fun d => d.parameters.length) = some 1) ∧ mX0_isLost.2.1.cls = cn mX0_isLost.1 ∧ plainName mX0_isLost.2.1.cls = true := by decide +kernel
set_option maxRecDepth 100000 in
theorem md_X0_kindAt : (mX0_kindAt.2.1.cls ≠ "java/lang/invoke/MethodHandle" ∧ mX0_kindAt.2.1.cls ≠ "java/lang/invoke/VarHandle" ∧ (parseMethodDescriptor mX0_kindAt.2.1.desc).map (fun d => d.parameters.length) = some 1) ∧ mX0_kindAt.2.1.cls = cn mX0_kindAt.1 ∧ plainName mX0_kindAt.2.1.cls = true := by decide +kernel
set_option maxRecDepth 100000 in
theorem md_X0_knot : (mX0_knot.2.1.cls ≠ "java/lang/invoke/MethodHandle" ∧ mX0_knot.2.1.cls ≠ "java/lang/invoke/VarHandle" ∧ (parseMethodDescriptor mX0_knot.2.1.desc).map (fun d => d.parameters.length) = some 2) ∧ mX0_knot.2.1.cls = cn mX0_knot.1 ∧ plainName mX0_knot.2.1.cls = true := by decide +kernel
set_option maxRecDepth 100000 in
theorem md_X0_lostEnds : (mX0_lostEnds.2.1.cls ≠ "java/lang/invoke/MethodHandle" ∧ mX0_lostEnds.2.1.cls ≠ "java/lang/invoke/VarHandle" ∧ (parseMethodDescriptor mX0_lostEnds.2.1.desc).map (fun d => d.parameters.length) = some 0) ∧ mX0_lostEnds.2.1.cls = cn mX0_lostEnds.1 ∧ plainName mX0_lostEnds.2.1.cls = true := by decide +kernel
set_option maxRecDepth 100000 in
theorem md_X0_make : (mX0_make.2.1.cls ≠ "java/lang/invoke/MethodHandle" ∧ mX0_make.2.1.cls ≠ "java/lang/invoke/VarHandle" ∧ (parseMethodDescriptor mX0_make.2.1.desc).map (fun d => d.parameters.length) = some 3) ∧ mX0_make.2.1.cls = cn mX0_make.1 ∧ plainName mX0_make.2.1.cls = true := by decide +kernel
set_option maxRecDepth 100000 in
theorem md_X0_place : (mX0_place.2.1.cls ≠ "java/lang/invoke/MethodHandle" ∧ mX0_place.2.1.cls ≠ "java/lang/invoke/VarHandle" ∧ (parseMethodDescriptor mX0_place.2.1.desc).map (fun d => d.parameters.length) = some 2) ∧ mX0_place.2.1.cls = cn mX0_place.1 ∧ plainName mX0_place.2.1.cls = true := by decide +kernel
set_option maxRecDepth 100000 in
theorem md_X0_seams : (mX0_seams.2.1.cls ≠ "java/lang/invoke/MethodHandle" ∧ mX0_seams.2.1.cls ≠ "java/lang/invoke/VarHandle" ∧ (parseMethodDescriptor mX0_seams.2.1.desc).map (fun d => d.parameters.length) = some 0) ∧ mX0_seams.2.1.cls = cn mX0_seams.1 ∧ plainName mX0_seams.2.1.cls = true := by decide +kernel
set_option maxRecDepth 100000 in
theorem md_X0_secondsAnew : (mX0_secondsAnew.2.1.cls ≠ "java/lang/invoke/MethodHandle" ∧ mX0_secondsAnew.2.1.cls ≠ "java/lang/invoke/VarHandle" ∧ (parseMethodDescriptor mX0_secondsAnew.2.1.desc).map (fun d => d.parameters.length) = some 1) ∧ mX0_secondsAnew.2.1.cls = cn mX0_secondsAnew.1 ∧ plainName mX0_secondsAnew.2.1.cls = true := by decide +kernel
set_option maxRecDepth 100000 in
theorem md_X0_secondsAnewOf : (mX0_secondsAnewOf.2.1.cls ≠ "java/lang/invoke/MethodHandle" ∧ mX0_secondsAnewOf.2.1.cls ≠ "java/lang/invoke/VarHandle" ∧ (parseMethodDescriptor mX0_secondsAnewOf.2.1.desc).map (fun d => d.parameters.length) = some 2) ∧ mX0_secondsAnewOf.2.1.cls = cn mX0_secondsAnewOf.1 ∧ plainName mX0_secondsAnewOf.2.1.cls = true := by decide +kernel
set_option maxRecDepth 100000 in
theorem md_X0_threadAnew : (mX0_threadAnew.2.1.cls ≠ "java/lang/invoke/MethodHandle" ∧ mX0_threadAnew.2.1.cls ≠ "java/lang/invoke/VarHandle" ∧ (parseMethodDescriptor mX0_threadAnew.2.1.desc).map (fun d => d.parameters.length) = some 0) ∧ mX0_threadAnew.2.1.cls = cn mX0_threadAnew.1 ∧ plainName mX0_threadAnew.2.1.cls = true := by decide +kernel
set_option maxRecDepth 100000 in
theorem md_X0_threadSeconds : (mX0_threadSeconds.2.1.cls ≠ "java/lang/invoke/MethodHandle" ∧ mX0_threadSeconds.2.1.cls ≠ "java/lang/invoke/VarHandle" ∧ (parseMethodDescriptor mX0_threadSeconds.2.1.desc).map (fun d => d.parameters.length) = some 1) ∧ mX0_threadSeconds.2.1.cls = cn mX0_threadSeconds.1 ∧ plainName mX0_threadSeconds.2.1.cls = true := by decide +kernel
set_option maxRecDepth 100000 in
theorem md_X0_washDraw : (mX0_washDraw.2.1.cls ≠ "java/lang/invoke/MethodHandle" ∧ mX0_washDraw.2.1.cls ≠ "java/lang/invoke/VarHandle" ∧ (parseMethodDescriptor mX0_washDraw.2.1.desc).map (fun d => d.parameters.length) = some 1) ∧ mX0_washDraw.2.1.cls = cn mX0_washDraw.1 ∧ plainName mX0_washDraw.2.1.cls = true := by decide +kernel
set_option maxRecDepth 100000 in
theorem md_X0_washOnce : (mX0_washOnce.2.1.cls ≠ "java/lang/invoke/MethodHandle" ∧ mX0_washOnce.2.1.cls ≠ "java/lang/invoke/VarHandle" ∧ (parseMethodDescriptor mX0_washOnce.2.1.desc).map (fun d => d.parameters.length) = some 0) ∧ mX0_washOnce.2.1.cls = cn mX0_washOnce.1 ∧ plainName mX0_washOnce.2.1.cls = true := by decide +kernel
set_option maxRecDepth 100000 in
theorem md_X0_washTimes : (mX0_washTimes.2.1.cls ≠ "java/lang/invoke/MethodHandle" ∧ mX0_washTimes.2.1.cls ≠ "java/lang/invoke/VarHandle" ∧ (parseMethodDescriptor mX0_washTimes.2.1.desc).map (fun d => d.parameters.length) = some 1) ∧ mX0_washTimes.2.1.cls = cn mX0_washTimes.1 ∧ plainName mX0_washTimes.2.1.cls = true := by decide +kernel
set_option maxRecDepth 100000 in
theorem md_X1_bunchMove : (mX1_bunchMove.2.1.cls ≠ "java/lang/invoke/MethodHandle" ∧ mX1_bunchMove.2.1.cls ≠ "java/lang/invoke/VarHandle" ∧ (parseMethodDescriptor mX1_bunchMove.2.1.desc).map (fun d => d.parameters.length) = some 1) ∧ mX1_bunchMove.2.1.cls = cn mX1_bunchMove.1 ∧ plainName mX1_bunchMove.2.1.cls = true := by decide +kernel
set_option maxRecDepth 100000 in
theorem md_X1_bunchSeconds : (mX1_bunchSeconds.2.1.cls ≠ "java/lang/invoke/MethodHandle" ∧ mX1_bunchSeconds.2.1.cls ≠ "java/lang/invoke/VarHandle" ∧ (parseMethodDescriptor mX1_bunchSeconds.2.1.desc).map (fun d => d.parameters.length) = some 2) ∧ mX1_bunchSeconds.2.1.cls = cn mX1_bunchSeconds.1 ∧ plainName mX1_bunchSeconds.2.1.cls = true := by decide +kernel
set_option maxRecDepth 100000 in
theorem md_X1_isSeam : (mX1_isSeam.2.1.cls ≠ "java/lang/invoke/MethodHandle" ∧ mX1_isSeam.2.1.cls ≠ "java/lang/invoke/VarHandle" ∧ (parseMethodDescriptor mX1_isSeam.2.1.desc).map (fun d => d.parameters.length) = some 1) ∧ mX1_isSeam.2.1.cls = cn mX1_isSeam.1 ∧ plainName mX1_isSeam.2.1.cls = true := by decide +kernel
set_option maxRecDepth 100000 in
theorem md_X1_isSign : (mX1_isSign.2.1.cls ≠ "java/lang/invoke/MethodHandle" ∧ mX1_isSign.2.1.cls ≠ "java/lang/invoke/VarHandle" ∧ (parseMethodDescriptor mX1_isSign.2.1.desc).map (fun d => d.parameters.length) = some 1) ∧ mX1_isSign.2.1.cls = cn mX1_isSign.1 ∧ plainName mX1_isSign.2.1.cls = true := by decide +kernel
set_option maxRecDepth 100000 in
theorem md_X1_ofSign : (mX1_ofSign.2.1.cls ≠ "java/lang/invoke/MethodHandle" ∧ mX1_ofSign.2.1.cls ≠ "java/lang/invoke/VarHandle" ∧ (parseMethodDescriptor mX1_ofSign.2.1.desc).map (fun d => d.parameters.length) = some 1) ∧ mX1_ofSign.2.1.cls = cn mX1_ofSign.1 ∧ plainName mX1_ofSign.2.1.cls = true := by decide +kernel
set_option maxRecDepth 100000 in
theorem md_X1_threadSeconds : (mX1_threadSeconds.2.1.cls ≠ "java/lang/invoke/MethodHandle" ∧ mX1_threadSeconds.2.1.cls ≠ "java/lang/invoke/VarHandle" ∧ (parseMethodDescriptor mX1_threadSeconds.2.1.desc).map (fun d => d.parameters.length) = some 2) ∧ mX1_threadSeconds.2.1.cls = cn mX1_threadSeconds.1 ∧ plainName mX1_threadSeconds.2.1.cls = true := by decide +kernel
set_option maxRecDepth 100000 in
theorem md_X1_washDraw : (mX1_washDraw.2.1.cls ≠ "java/lang/invoke/MethodHandle" ∧ mX1_washDraw.2.1.cls ≠ "java/lang/invoke/VarHandle" ∧ (parseMethodDescriptor mX1_washDraw.2.1.desc).map (fun d => d.parameters.length) = some 2) ∧ mX1_washDraw.2.1.cls = cn mX1_washDraw.1 ∧ plainName mX1_washDraw.2.1.cls = true := by decide +kernel
set_option maxRecDepth 100000 in
theorem md_X2_add : (mX2_add.2.1.cls ≠ "java/lang/invoke/MethodHandle" ∧ mX2_add.2.1.cls ≠ "java/lang/invoke/VarHandle" ∧ (parseMethodDescriptor mX2_add.2.1.desc).map (fun d => d.parameters.length) = some 1) ∧ mX2_add.2.1.cls = cn mX2_add.1 ∧ plainName mX2_add.2.1.cls = true := by decide +kernel
set_option maxRecDepth 100000 in
theorem md_X2_clear : (mX2_clear.2.1.cls ≠ "java/lang/invoke/MethodHandle" ∧ mX2_clear.2.1.cls ≠ "java/lang/invoke/VarHandle" ∧ (parseMethodDescriptor mX2_clear.2.1.desc).map (fun d => d.parameters.length) = some 0) ∧ mX2_clear.2.1.cls = cn mX2_clear.1 ∧ plainName mX2_clear.2.1.cls = true := by decide +kernel
set_option maxRecDepth 100000 in
theorem md_X2_digit : (mX2_digit.2.1.cls ≠ "java/lang/invoke/MethodHandle" ∧ mX2_digit.2.1.cls ≠ "java/lang/invoke/VarHandle" ∧ (parseMethodDescriptor mX2_digit.2.1.desc).map (fun d => d.parameters.length) = some 1) ∧ mX2_digit.2.1.cls = cn mX2_digit.1 ∧ plainName mX2_digit.2.1.cls = true := by decide +kernel
set_option maxRecDepth 100000 in
theorem md_X2_firstUnfit : (mX2_firstUnfit.2.1.cls ≠ "java/lang/invoke/MethodHandle" ∧ mX2_firstUnfit.2.1.cls ≠ "java/lang/invoke/VarHandle" ∧ (parseMethodDescriptor mX2_firstUnfit.2.1.desc).map (fun d => d.parameters.length) = some 0) ∧ mX2_firstUnfit.2.1.cls = cn mX2_firstUnfit.1 ∧ plainName mX2_firstUnfit.2.1.cls = true := by decide +kernel
set_option maxRecDepth 100000 in
theorem md_X2_fits : (mX2_fits.2.1.cls ≠ "java/lang/invoke/MethodHandle" ∧ mX2_fits.2.1.cls ≠ "java/lang/invoke/VarHandle" ∧ (parseMethodDescriptor mX2_fits.2.1.desc).map (fun d => d.parameters.length) = some 2) ∧ mX2_fits.2.1.cls = cn mX2_fits.1 ∧ plainName mX2_fits.2.1.cls = true := by decide +kernel
set_option maxRecDepth 100000 in
theorem md_X2_formBehind : (mX2_formBehind.2.1.cls ≠ "java/lang/invoke/MethodHandle" ∧ mX2_formBehind.2.1.cls ≠ "java/lang/invoke/VarHandle" ∧ (parseMethodDescriptor mX2_formBehind.2.1.desc).map (fun d => d.parameters.length) = some 1) ∧ mX2_formBehind.2.1.cls = cn mX2_formBehind.1 ∧ plainName mX2_formBehind.2.1.cls = true := by decide +kernel
set_option maxRecDepth 100000 in
theorem md_X2_isFull : (mX2_isFull.2.1.cls ≠ "java/lang/invoke/MethodHandle" ∧ mX2_isFull.2.1.cls ≠ "java/lang/invoke/VarHandle" ∧ (parseMethodDescriptor mX2_isFull.2.1.desc).map (fun d => d.parameters.length) = some 0) ∧ mX2_isFull.2.1.cls = cn mX2_isFull.1 ∧ plainName mX2_isFull.2.1.cls = true := by decide +kernel
set_option maxRecDepth 100000 in
theorem md_X2_lengthBehind : (mX2_lengthBehind.2.1.cls ≠ "java/lang/invoke/MethodHandle" ∧ mX2_lengthBehind.2.1.cls ≠ "java/lang/invoke/VarHandle" ∧ (parseMethodDescriptor mX2_lengthBehind.2.1.desc).map (fun d => d.parameters.length) = some 1) ∧ mX2_lengthBehind.2.1.cls = cn mX2_lengthBehind.1 ∧ plainName mX2_lengthBehind.2.1.cls = true := by decide +kernel
set_option maxRecDepth 100000 in
theorem md_X2_number : (mX2_number.2.1.cls ≠ "java/lang/invoke/MethodHandle" ∧ mX2_number.2.1.cls ≠ "java/lang/invoke/VarHandle" ∧ (parseMethodDescriptor mX2_number.2.1.desc).map (fun d => d.parameters.length) = some 1) ∧ mX2_number.2.1.cls = cn mX2_number.1 ∧ plainName mX2_number.2.1.cls = true := by decide +kernel
set_option maxRecDepth 100000 in
theorem md_X2_signAt : (mX2_signAt.2.1.cls ≠ "java/lang/invoke/MethodHandle" ∧ mX2_signAt.2.1.cls ≠ "java/lang/invoke/VarHandle" ∧ (parseMethodDescriptor mX2_signAt.2.1.desc).map (fun d => d.parameters.length) = some 1) ∧ mX2_signAt.2.1.cls = cn mX2_signAt.1 ∧ plainName mX2_signAt.2.1.cls = true := by decide +kernel
set_option maxRecDepth 100000 in
theorem md_X2_signed : (mX2_signed.2.1.cls ≠ "java/lang/invoke/MethodHandle" ∧ mX2_signed.2.1.cls ≠ "java/lang/invoke/VarHandle" ∧ (parseMethodDescriptor mX2_signed.2.1.desc).map (fun d => d.parameters.length) = some 1) ∧ mX2_signed.2.1.cls = cn mX2_signed.1 ∧ plainName mX2_signed.2.1.cls = true := by decide +kernel
set_option maxRecDepth 100000 in
theorem md_X3_goOn : (mX3_goOn.2.1.cls ≠ "java/lang/invoke/MethodHandle" ∧ mX3_goOn.2.1.cls ≠ "java/lang/invoke/VarHandle" ∧ (parseMethodDescriptor mX3_goOn.2.1.desc).map (fun d => d.parameters.length) = some 3) ∧ mX3_goOn.2.1.cls = cn mX3_goOn.1 ∧ plainName mX3_goOn.2.1.cls = true := by decide +kernel
set_option maxRecDepth 100000 in
theorem md_X3_mend : (mX3_mend.2.1.cls ≠ "java/lang/invoke/MethodHandle" ∧ mX3_mend.2.1.cls ≠ "java/lang/invoke/VarHandle" ∧ (parseMethodDescriptor mX3_mend.2.1.desc).map (fun d => d.parameters.length) = some 4) ∧ mX3_mend.2.1.cls = cn mX3_mend.1 ∧ plainName mX3_mend.2.1.cls = true := by decide +kernel
set_option maxRecDepth 100000 in
theorem md_X4_add : (mX4_add.2.1.cls ≠ "java/lang/invoke/MethodHandle" ∧ mX4_add.2.1.cls ≠ "java/lang/invoke/VarHandle" ∧ (parseMethodDescriptor mX4_add.2.1.desc).map (fun d => d.parameters.length) = some 1) ∧ mX4_add.2.1.cls = cn mX4_add.1 ∧ plainName mX4_add.2.1.cls = true := by decide +kernel
set_option maxRecDepth 100000 in
theorem md_X4_clear : (mX4_clear.2.1.cls ≠ "java/lang/invoke/MethodHandle" ∧ mX4_clear.2.1.cls ≠ "java/lang/invoke/VarHandle" ∧ (parseMethodDescriptor mX4_clear.2.1.desc).map (fun d => d.parameters.length) = some 0) ∧ mX4_clear.2.1.cls = cn mX4_clear.1 ∧ plainName mX4_clear.2.1.cls = true := by decide +kernel
set_option maxRecDepth 100000 in
theorem md_X4_firstNotSo : (mX4_firstNotSo.2.1.cls ≠ "java/lang/invoke/MethodHandle" ∧ mX4_firstNotSo.2.1.cls ≠ "java/lang/invoke/VarHandle" ∧ (parseMethodDescriptor mX4_firstNotSo.2.1.desc).map (fun d => d.parameters.length) = some 2) ∧ mX4_firstNotSo.2.1.cls = cn mX4_firstNotSo.1 ∧ plainName mX4_firstNotSo.2.1.cls = true := by decide +kernel
set_option maxRecDepth 100000 in
theorem md_X4_isFull : (mX4_isFull.2.1.cls ≠ "java/lang/invoke/MethodHandle" ∧ mX4_isFull.2.1.cls ≠ "java/lang/invoke/VarHandle" ∧ (parseMethodDescriptor mX4_isFull.2.1.desc).map (fun d => d.parameters.length) = some 0) ∧ mX4_isFull.2.1.cls = cn mX4_isFull.1 ∧ plainName mX4_isFull.2.1.cls = true := by decide +kernel
set_option maxRecDepth 100000 in
theorem md_X5_isAWay : (mX5_isAWay.2.1.cls ≠ "java/lang/invoke/MethodHandle" ∧ mX5_isAWay.2.1.cls ≠ "java/lang/invoke/VarHandle" ∧ (parseMethodDescriptor mX5_isAWay.2.1.desc).map (fun d => d.parameters.length) = some 0) ∧ mX5_isAWay.2.1.cls = cn mX5_isAWay.1 ∧ plainName mX5_isAWay.2.1.cls = true := by decide +kernel
set_option maxRecDepth 100000 in
theorem md_X5_measure : (mX5_measure.2.1.cls ≠ "java/lang/invoke/MethodHandle" ∧ mX5_measure.2.1.cls ≠ "java/lang/invoke/VarHandle" ∧ (parseMethodDescriptor mX5_measure.2.1.desc).map (fun d => d.parameters.length) = some 3) ∧ mX5_measure.2.1.cls = cn mX5_measure.1 ∧ plainName mX5_measure.2.1.cls = true := by decide +kernel
set_option maxRecDepth 100000 in
theorem md_X5_neverIsOut : (mX5_neverIsOut.2.1.cls ≠ "java/lang/invoke/MethodHandle" ∧ mX5_neverIsOut.2.1.cls ≠ "java/lang/invoke/VarHandle" ∧ (parseMethodDescriptor mX5_neverIsOut.2.1.desc).map (fun d => d.parameters.length) = some 0) ∧ mX5_neverIsOut.2.1.cls = cn mX5_neverIsOut.1 ∧ plainName mX5_neverIsOut.2.1.cls = true := by decide +kernel
set_option maxRecDepth 100000 in
theorem md_X5_rank : (mX5_rank.2.1.cls ≠ "java/lang/invoke/MethodHandle" ∧ mX5_rank.2.1.cls ≠ "java/lang/invoke/VarHandle" ∧ (parseMethodDescriptor mX5_rank.2.1.desc).map (fun d => d.parameters.length) = some 0) ∧ mX5_rank.2.1.cls = cn mX5_rank.1 ∧ plainName mX5_rank.2.1.cls = true := by decide +kernel
set_option maxRecDepth 100000 in
theorem md_X5_secondsOfAll : (mX5_secondsOfAll.2.1.cls ≠ "java/lang/invoke/MethodHandle" ∧ mX5_secondsOfAll.2.1.cls ≠ "java/lang/invoke/VarHandle" ∧ (parseMethodDescriptor mX5_secondsOfAll.2.1.desc).map (fun d => d.parameters.length) = some 1) ∧ mX5_secondsOfAll.2.1.cls = cn mX5_secondsOfAll.1 ∧ plainName mX5_secondsOfAll.2.1.cls = true := by decide +kernel
set_option maxRecDepth 100000 in
theorem md_X6_anew : (mX6_anew.2.1.cls ≠ "java/lang/invoke/MethodHandle" ∧ mX6_anew.2.1.cls ≠ "java/lang/invoke/VarHandle" ∧ (parseMethodDescriptor mX6_anew.2.1.desc).map (fun d => d.parameters.length) = some 0) ∧ mX6_anew.2.1.cls = cn mX6_anew.1 ∧ plainName mX6_anew.2.1.cls = true := by decide +kernel
set_option maxRecDepth 100000 in
theorem md_X6_bestPin : (mX6_bestPin.2.1.cls ≠ "java/lang/invoke/MethodHandle" ∧ mX6_bestPin.2.1.cls ≠ "java/lang/invoke/VarHandle" ∧ (parseMethodDescriptor mX6_bestPin.2.1.desc).map (fun d => d.parameters.length) = some 1) ∧ mX6_bestPin.2.1.cls = cn mX6_bestPin.1 ∧ plainName mX6_bestPin.2.1.cls = true := by decide +kernel
set_option maxRecDepth 100000 in
theorem md_X6_better : (mX6_better.2.1.cls ≠ "java/lang/invoke/MethodHandle" ∧ mX6_better.2.1.cls ≠ "java/lang/invoke/VarHandle" ∧ (parseMethodDescriptor mX6_better.2.1.desc).map (fun d => d.parameters.length) = some 1) ∧ mX6_better.2.1.cls = cn mX6_better.1 ∧ plainName mX6_better.2.1.cls = true := by decide +kernel
set_option maxRecDepth 100000 in
theorem md_X6_bunch : (mX6_bunch.2.1.cls ≠ "java/lang/invoke/MethodHandle" ∧ mX6_bunch.2.1.cls ≠ "java/lang/invoke/VarHandle" ∧ (parseMethodDescriptor mX6_bunch.2.1.desc).map (fun d => d.parameters.length) = some 1) ∧ mX6_bunch.2.1.cls = cn mX6_bunch.1 ∧ plainName mX6_bunch.2.1.cls = true := by decide +kernel
set_option maxRecDepth 100000 in
theorem md_X6_care : (mX6_care.2.1.cls ≠ "java/lang/invoke/MethodHandle" ∧ mX6_care.2.1.cls ≠ "java/lang/invoke/VarHandle" ∧ (parseMethodDescriptor mX6_care.2.1.desc).map (fun d => d.parameters.length) = some 1) ∧ mX6_care.2.1.cls = cn mX6_care.1 ∧ plainName mX6_care.2.1.cls = true := by decide +kernel
set_option maxRecDepth 100000 in
theorem md_X6_comes : (mX6_comes.2.1.cls ≠ "java/lang/invoke/MethodHandle" ∧ mX6_comes.2.1.cls ≠ "java/lang/invoke/VarHandle" ∧ (parseMethodDescriptor mX6_comes.2.1.desc).map (fun d => d.parameters.length) = some 1) ∧ mX6_comes.2.1.cls = cn mX6_comes.1 ∧ plainName mX6_comes.2.1.cls = true := by decide +kernel
set_option maxRecDepth 100000 in
theorem md_X6_count : (mX6_count.2.1.cls ≠ "java/lang/invoke/MethodHandle" ∧ mX6_count.2.1.cls ≠ "java/lang/invoke/VarHandle" ∧ (parseMethodDescriptor mX6_count.2.1.desc).map (fun d => d.parameters.length) = some 1) ∧ mX6_count.2.1.cls = cn mX6_count.1 ∧ plainName mX6_count.2.1.cls = true := by decide +kernel
set_option maxRecDepth 100000 in
theorem md_X6_cutOff : (mX6_cutOff.2.1.cls ≠ "java/lang/invoke/MethodHandle" ∧ mX6_cutOff.2.1.cls ≠ "java/lang/invoke/VarHandle" ∧ (parseMethodDescriptor mX6_cutOff.2.1.desc).map (fun d => d.parameters.length) = some 0) ∧ mX6_cutOff.2.1.cls = cn mX6_cutOff.1 ∧ plainName mX6_cutOff.2.1.cls = true := by decide +kernel
set_option maxRecDepth 100000 in
theorem md_X6_deep : (mX6_deep.2.1.cls ≠ "java/lang/invoke/MethodHandle" ∧ mX6_deep.2.1.cls ≠ "java/lang/invoke/VarHandle" ∧ (parseMethodDescriptor mX6_deep.2.1.desc).map (fun d => d.parameters.length) = some 2) ∧ mX6_deep.2.1.cls = cn mX6_deep.1 ∧ plainName mX6_deep.2.1.cls = true := by decide +kernel
set_option maxRecDepth 100000 in
theorem md_X6_end : (mX6_end.2.1.cls ≠ "java/lang/invoke/MethodHandle" ∧ mX6_end.2.1.cls ≠ "java/lang/invoke/VarHandle" ∧ (parseMethodDescriptor mX6_end.2.1.desc).map (fun d => d.parameters.length) = some 2) ∧ mX6_end.2.1.cls = cn mX6_end.1 ∧ plainName mX6_end.2.1.cls = true := by decide +kernel
set_option maxRecDepth 100000 in
theorem md_X6_hem : (mX6_hem.2.1.cls ≠ "java/lang/invoke/MethodHandle" ∧ mX6_hem.2.1.cls ≠ "java/lang/invoke/VarHandle" ∧ (parseMethodDescriptor mX6_hem.2.1.desc).map (fun d => d.parameters.length) = some 0) ∧ mX6_hem.2.1.cls = cn mX6_hem.1 ∧ plainName mX6_hem.2.1.cls = true := by decide +kernel
set_option maxRecDepth 100000 in
theorem md_X6_holdsUp : (mX6_holdsUp.2.1.cls ≠ "java/lang/invoke/MethodHandle" ∧ mX6_holdsUp.2.1.cls ≠ "java/lang/invoke/VarHandle" ∧ (parseMethodDescriptor mX6_holdsUp.2.1.desc).map (fun d => d.parameters.length) = some 1) ∧ mX6_holdsUp.2.1.cls = cn mX6_holdsUp.1 ∧ plainName mX6_holdsUp.2.1.cls = true := by decide +kernel
set_option maxRecDepth 100000 in
theorem md_X6_image : (mX6_image.2.1.cls ≠ "java/lang/invoke/MethodHandle" ∧ mX6_image.2.1.cls ≠ "java/lang/invoke/VarHandle" ∧ (parseMethodDescriptor mX6_image.2.1.desc).map (fun d => d.parameters.length) = some 0) ∧ mX6_image.2.1.cls = cn mX6_image.1 ∧ plainName mX6_image.2.1.cls = true := by decide +kernel
set_option maxRecDepth 100000 in
theorem md_X6_inIn : (mX6_inIn.2.1.cls ≠ "java/lang/invoke/MethodHandle" ∧ mX6_inIn.2.1.cls ≠ "java/lang/invoke/VarHandle" ∧ (parseMethodDescriptor mX6_inIn.2.1.desc).map (fun d => d.parameters.length) = some 2) ∧ mX6_inIn.2.1.cls = cn mX6_inIn.1 ∧ plainName mX6_inIn.2.1.cls = true := by decide +kernel
set_option maxRecDepth 100000 in
theorem md_X6_inch : (mX6_inch.2.1.cls ≠ "java/lang/invoke/MethodHandle" ∧ mX6_inch.2.1.cls ≠ "java/lang/invoke/VarHandle" ∧ (parseMethodDescriptor mX6_inch.2.1.desc).map (fun d => d.parameters.length) = some 2) ∧ mX6_inch.2.1.cls = cn mX6_inch.1 ∧ plainName mX6_inch.2.1.cls = true := by decide +kernel
set_option maxRecDepth 100000 in
theorem md_X6_inches : (mX6_inches.2.1.cls ≠ "java/lang/invoke/MethodHandle" ∧ mX6_inches.2.1.cls ≠ "java/lang/invoke/VarHandle" ∧ (parseMethodDescriptor mX6_inches.2.1.desc).map (fun d => d.parameters.length) = some 1) ∧ mX6_inches.2.1.cls = cn mX6_inches.1 ∧ plainName mX6_inches.2.1.cls = true := by decide +kernel
set_option maxRecDepth 100000 in
theorem md_X6_isAsItMustBe : (mX6_isAsItMustBe.2.1.cls ≠ "java/lang/invoke/MethodHandle" ∧ mX6_isAsItMustBe.2.1.cls ≠ "java/lang/invoke/VarHandle" ∧ (parseMethodDescriptor mX6_isAsItMustBe.2.1.desc).map (fun d => d.parameters.length) = some 1) ∧ mX6_isAsItMustBe.2.1.cls = cn mX6_isAsItMustBe.1 ∧ plainName mX6_isAsItMustBe.2.1.cls = true := by decide +kernel
set_option maxRecDepth 100000 in
theorem md_X6_isEnd : (mX6_isEnd.2.1.cls ≠ "java/lang/invoke/MethodHandle" ∧ mX6_isEnd.2.1.cls ≠ "java/lang/invoke/VarHandle" ∧ (parseMethodDescriptor mX6_isEnd.2.1.desc).map (fun d => d.parameters.length) = some 1) ∧ mX6_isEnd.2.1.cls = cn mX6_isEnd.1 ∧ plainName mX6_isEnd.2.1.cls = true := by decide +kernel
set_option maxRecDepth 100000 in
theorem md_X6_judge : (mX6_judge.2.1.cls ≠ "java/lang/invoke/MethodHandle" ∧ mX6_judge.2.1.cls ≠ "java/lang/invoke/VarHandle" ∧ (parseMethodDescriptor mX6_judge.2.1.desc).map (fun d => d.parameters.length) = some 1) ∧ mX6_judge.2.1.cls = cn mX6_judge.1 ∧ plainName mX6_judge.2.1.cls = true := by decide +kernel
set_option maxRecDepth 100000 in
theorem md_X6_keep : (mX6_keep.2.1.cls ≠ "java/lang/invoke/MethodHandle" ∧ mX6_keep.2.1.cls ≠ "java/lang/invoke/VarHandle" ∧ (parseMethodDescriptor mX6_keep.2.1.desc).map (fun d => d.parameters.length) = some 1) ∧ mX6_keep.2.1.cls = cn mX6_keep.1 ∧ plainName mX6_keep.2.1.cls = true := by decide +kernel
set_option maxRecDepth 100000 in
theorem md_X6_kindsByRow : (mX6_kindsByRow.2.1.cls ≠ "java/lang/invoke/MethodHandle" ∧ mX6_kindsByRow.2.1.cls ≠ "java/lang/invoke/VarHandle" ∧ (parseMethodDescriptor mX6_kindsByRow.2.1.desc).map (fun d => d.parameters.length) = some 1) ∧ mX6_kindsByRow.2.1.cls = cn mX6_kindsByRow.1 ∧ plainName mX6_kindsByRow.2.1.cls = true := by decide +kernel
set_option maxRecDepth 100000 in
theorem md_X6_letter : (mX6_letter.2.1.cls ≠ "java/lang/invoke/MethodHandle" ∧ mX6_letter.2.1.cls ≠ "java/lang/invoke/VarHandle" ∧ (parseMethodDescriptor mX6_letter.2.1.desc).map (fun d => d.parameters.length) = some 1) ∧ mX6_letter.2.1.cls = cn mX6_letter.1 ∧ plainName mX6_letter.2.1.cls = true := by decide +kernel
set_option maxRecDepth 100000 in
theorem md_X6_lost : (mX6_lost.2.1.cls ≠ "java/lang/invoke/MethodHandle" ∧ mX6_lost.2.1.cls ≠ "java/lang/invoke/VarHandle" ∧ (parseMethodDescriptor mX6_lost.2.1.desc).map (fun d => d.parameters.length) = some 1) ∧ mX6_lost.2.1.cls = cn mX6_lost.1 ∧ plainName mX6_lost.2.1.cls = true := by decide +kernel
set_option maxRecDepth 100000 in
theorem md_X6_lotSeconds : (mX6_lotSeconds.2.1.cls ≠ "java/lang/invoke/MethodHandle" ∧ mX6_lotSeconds.2.1.cls ≠ "java/lang/invoke/VarHandle" ∧ (parseMethodDescriptor mX6_lotSeconds.2.1.desc).map (fun d => d.parameters.length) = some 1) ∧ mX6_lotSeconds.2.1.cls = cn mX6_lotSeconds.1 ∧ plainName mX6_lotSeconds.2.1.cls = true := by decide +kernel
set_option maxRecDepth 100000 in
theorem md_X6_lots : (mX6_lots.2.1.cls ≠ "java/lang/invoke/MethodHandle" ∧ mX6_lots.2.1.cls ≠ "java/lang/invoke/VarHandle" ∧ (parseMethodDescriptor mX6_lots.2.1.desc).map (fun d => d.parameters.length) = some 3) ∧ mX6_lots.2.1.cls = cn mX6_lots.1 ∧ plainName mX6_lots.2.1.cls = true := by decide +kernel
set_option maxRecDepth 100000 in
theorem md_X6_middle : (mX6_middle.2.1.cls ≠ "java/lang/invoke/MethodHandle" ∧ mX6_middle.2.1.cls ≠ "java/lang/invoke/VarHandle" ∧ (parseMethodDescriptor mX6_middle.2.1.desc).map (fun d => d.parameters.length) = some 0) ∧ mX6_middle.2.1.cls = cn mX6_middle.1 ∧ plainName mX6_middle.2.1.cls = true := by decide +kernel
set_option maxRecDepth 100000 in
theorem md_X6_of : (mX6_of.2.1.cls ≠ "java/lang/invoke/MethodHandle" ∧ mX6_of.2.1.cls ≠ "java/lang/invoke/VarHandle" ∧ (parseMethodDescriptor mX6_of.2.1.desc).map (fun d => d.parameters.length) = some 2) ∧ mX6_of.2.1.cls = cn mX6_of.1 ∧ plainName mX6_of.2.1.cls = true := by decide +kernel
set_option maxRecDepth 100000 in
theorem md_X6_on : (mX6_on.2.1.cls ≠ "java/lang/invoke/MethodHandle" ∧ mX6_on.2.1.cls ≠ "java/lang/invoke/VarHandle" ∧ (parseMethodDescriptor mX6_on.2.1.desc).map (fun d => d.parameters.length) = some 0) ∧ mX6_on.2.1.cls = cn mX6_on.1 ∧ plainName mX6_on.2.1.cls = true := by decide +kernel
set_option maxRecDepth 100000 in
theorem md_X6_out : (mX6_out.2.1.cls ≠ "java/lang/invoke/MethodHandle" ∧ mX6_out.2.1.cls ≠ "java/lang/invoke/VarHandle" ∧ (parseMethodDescriptor mX6_out.2.1.desc).map (fun d => d.parameters.length) = some 2) ∧ mX6_out.2.1.cls = cn mX6_out.1 ∧ plainName mX6_out.2.1.cls = true := by decide +kernel
set_option maxRecDepth 100000 in
theorem md_X6_outside : (mX6_outside.2.1.cls ≠ "java/lang/invoke/MethodHandle" ∧ mX6_outside.2.1.cls ≠ "java/lang/invoke/VarHandle" ∧ (parseMethodDescriptor mX6_outside.2.1.desc).map (fun d => d.parameters.length) = some 3) ∧ mX6_outside.2.1.cls = cn mX6_outside.1 ∧ plainName mX6_outside.2.1.cls = true := by decide +kernel
set_option maxRecDepth 100000 in
theorem md_X6_pull : (mX6_pull.2.1.cls ≠ "java/lang/invoke/MethodHandle" ∧ mX6_pull.2.1.cls ≠ "java/lang/invoke/VarHandle" ∧ (parseMethodDescriptor mX6_pull.2.1.desc).map (fun d => d.parameters.length) = some 2) ∧ mX6_pull.2.1.cls = cn mX6_pull.1 ∧ plainName mX6_pull.2.1.cls = true := by decide +kernel
set_option maxRecDepth 100000 in
theorem md_X6_rankWithCloth : (mX6_rankWithCloth.2.1.cls ≠ "java/lang/invoke/MethodHandle" ∧ mX6_rankWithCloth.2.1.cls ≠ "java/lang/invoke/VarHandle" ∧ (parseMethodDescriptor mX6_rankWithCloth.2.1.desc).map (fun d => d.parameters.length) = some 2) ∧ mX6_rankWithCloth.2.1.cls = cn mX6_rankWithCloth.1 ∧ plainName mX6_rankWithCloth.2.1.cls = true := by decide +kernel
set_option maxRecDepth 100000 in
theorem md_X6_refusalsAt : (mX6_refusalsAt.2.1.cls ≠ "java/lang/invoke/MethodHandle" ∧ mX6_refusalsAt.2.1.cls ≠ "java/lang/invoke/VarHandle" ∧ (parseMethodDescriptor mX6_refusalsAt.2.1.desc).map (fun d => d.parameters.length) = some 1) ∧ mX6_refusalsAt.2.1.cls = cn mX6_refusalsAt.1 ∧ plainName mX6_refusalsAt.2.1.cls = true := by decide +kernel
set_option maxRecDepth 100000 in
theorem md_X6_refuse : (mX6_refuse.2.1.cls ≠ "java/lang/invoke/MethodHandle" ∧ mX6_refuse.2.1.cls ≠ "java/lang/invoke/VarHandle" ∧ (parseMethodDescriptor mX6_refuse.2.1.desc).map (fun d => d.parameters.length) = some 1) ∧ mX6_refuse.2.1.cls = cn mX6_refuse.1 ∧ plainName mX6_refuse.2.1.cls = true := by decide +kernel
set_option maxRecDepth 100000 in
theorem md_X6_refuseAsTold : (mX6_refuseAsTold.2.1.cls ≠ "java/lang/invoke/MethodHandle" ∧ mX6_refuseAsTold.2.1.cls ≠ "java/lang/invoke/VarHandle" ∧ (parseMethodDescriptor mX6_refuseAsTold.2.1.desc).map (fun d => d.parameters.length) = some 1) ∧ mX6_refuseAsTold.2.1.cls = cn mX6_refuseAsTold.1 ∧ plainName mX6_refuseAsTold.2.1.cls = true := by decide +kernel
set_option maxRecDepth 100000 in
theorem md_X6_row : (mX6_row.2.1.cls ≠ "java/lang/invoke/MethodHandle" ∧ mX6_row.2.1.cls ≠ "java/lang/invoke/VarHandle" ∧ (parseMethodDescriptor mX6_row.2.1.desc).map (fun d => d.parameters.length) = some 1) ∧ mX6_row.2.1.cls = cn mX6_row.1 ∧ plainName mX6_row.2.1.cls = true := by decide +kernel
set_option maxRecDepth 100000 in
theorem md_X6_secondsIfLost : (mX6_secondsIfLost.2.1.cls ≠ "java/lang/invoke/MethodHandle" ∧ mX6_secondsIfLost.2.1.cls ≠ "java/lang/invoke/VarHandle" ∧ (parseMethodDescriptor mX6_secondsIfLost.2.1.desc).map (fun d => d.parameters.length) = some 1) ∧ mX6_secondsIfLost.2.1.cls = cn mX6_secondsIfLost.1 ∧ plainName mX6_secondsIfLost.2.1.cls = true := by decide +kernel
set_option maxRecDepth 100000 in
theorem md_X6_secondsWithStop : (mX6_secondsWithStop.2.1.cls ≠ "java/lang/invoke/MethodHandle" ∧ mX6_secondsWithStop.2.1.cls ≠ "java/lang/invoke/VarHandle" ∧ (parseMethodDescriptor mX6_secondsWithStop.2.1.desc).map (fun d => d.parameters.length) = some 2) ∧ mX6_secondsWithStop.2.1.cls = cn mX6_secondsWithStop.1 ∧ plainName mX6_secondsWithStop.2.1.cls = true := by decide +kernel
set_option maxRecDepth 100000 in
theorem md_X6_set : (mX6_set.2.1.cls ≠ "java/lang/invoke/MethodHandle" ∧ mX6_set.2.1.cls ≠ "java/lang/invoke/VarHandle" ∧ (parseMethodDescriptor mX6_set.2.1.desc).map (fun d => d.parameters.length) = some 2) ∧ mX6_set.2.1.cls = cn mX6_set.1 ∧ plainName mX6_set.2.1.cls = true := by decide +kernel
set_option maxRecDepth 100000 in
theorem md_X6_sew : (mX6_sew.2.1.cls ≠ "java/lang/invoke/MethodHandle" ∧ mX6_sew.2.1.cls ≠ "java/lang/invoke/VarHandle" ∧ (parseMethodDescriptor mX6_sew.2.1.desc).map (fun d => d.parameters.length) = some 0) ∧ mX6_sew.2.1.cls = cn mX6_sew.1 ∧ plainName mX6_sew.2.1.cls = true := by decide +kernel
set_option maxRecDepth 100000 in
theorem md_X6_soonest : (mX6_soonest.2.1.cls ≠ "java/lang/invoke/MethodHandle" ∧ mX6_soonest.2.1.cls ≠ "java/lang/invoke/VarHandle" ∧ (parseMethodDescriptor mX6_soonest.2.1.desc).map (fun d => d.parameters.length) = some 0) ∧ mX6_soonest.2.1.cls = cn mX6_soonest.1 ∧ plainName mX6_soonest.2.1.cls = true := by decide +kernel
set_option maxRecDepth 100000 in
theorem md_X6_statementsCome : (mX6_statementsCome.2.1.cls ≠ "java/lang/invoke/MethodHandle" ∧ mX6_statementsCome.2.1.cls ≠ "java/lang/invoke/VarHandle" ∧ (parseMethodDescriptor mX6_statementsCome.2.1.desc).map (fun d => d.parameters.length) = some 0) ∧ mX6_statementsCome.2.1.cls = cn mX6_statementsCome.1 ∧ plainName mX6_statementsCome.2.1.cls = true := by decide +kernel
set_option maxRecDepth 100000 in
theorem md_X6_still : (mX6_still.2.1.cls ≠ "java/lang/invoke/MethodHandle" ∧ mX6_still.2.1.cls ≠ "java/lang/invoke/VarHandle" ∧ (parseMethodDescriptor mX6_still.2.1.desc).map (fun d => d.parameters.length) = some 0) ∧ mX6_still.2.1.cls = cn mX6_still.1 ∧ plainName mX6_still.2.1.cls = true := by decide +kernel
set_option maxRecDepth 100000 in
theorem md_X6_stops : (mX6_stops.2.1.cls ≠ "java/lang/invoke/MethodHandle" ∧ mX6_stops.2.1.cls ≠ "java/lang/invoke/VarHandle" ∧ (parseMethodDescriptor mX6_stops.2.1.desc).map (fun d => d.parameters.length) = some 2) ∧ mX6_stops.2.1.cls = cn mX6_stops.1 ∧ plainName mX6_stops.2.1.cls = true := by decide +kernel
set_option maxRecDepth 100000 in
theorem md_X6_strengthsByRow : (mX6_strengthsByRow.2.1.cls ≠ "java/lang/invoke/MethodHandle" ∧ mX6_strengthsByRow.2.1.cls ≠ "java/lang/invoke/VarHandle" ∧ (parseMethodDescriptor mX6_strengthsByRow.2.1.desc).map (fun d => d.parameters.length) = some 0) ∧ mX6_strengthsByRow.2.1.cls = cn mX6_strengthsByRow.1 ∧ plainName mX6_strengthsByRow.2.1.cls = true := by decide +kernel
set_option maxRecDepth 100000 in
theorem md_X6_tie : (mX6_tie.2.1.cls ≠ "java/lang/invoke/MethodHandle" ∧ mX6_tie.2.1.cls ≠ "java/lang/invoke/VarHandle" ∧ (parseMethodDescriptor mX6_tie.2.1.desc).map (fun d => d.parameters.length) = some 1) ∧ mX6_tie.2.1.cls = cn mX6_tie.1 ∧ plainName mX6_tie.2.1.cls = true := by decide +kernel
set_option maxRecDepth 100000 in
theorem md_X6_turn : (mX6_turn.2.1.cls ≠ "java/lang/invoke/MethodHandle" ∧ mX6_turn.2.1.cls ≠ "java/lang/invoke/VarHandle" ∧ (parseMethodDescriptor mX6_turn.2.1.desc).map (fun d => d.parameters.length) = some 3) ∧ mX6_turn.2.1.cls = cn mX6_turn.1 ∧ plainName mX6_turn.2.1.cls = true := by decide +kernel
set_option maxRecDepth 100000 in
theorem md_X6_wash : (mX6_wash.2.1.cls ≠ "java/lang/invoke/MethodHandle" ∧ mX6_wash.2.1.cls ≠ "java/lang/invoke/VarHandle" ∧ (parseMethodDescriptor mX6_wash.2.1.desc).map (fun d => d.parameters.length) = some 1) ∧ mX6_wash.2.1.cls = cn mX6_wash.1 ∧ plainName mX6_wash.2.1.cls = true := by decide +kernel
set_option maxRecDepth 100000 in
theorem md_X6_washesTillLost : (mX6_washesTillLost.2.1.cls ≠ "java/lang/invoke/MethodHandle" ∧ mX6_washesTillLost.2.1.cls ≠ "java/lang/invoke/VarHandle" ∧ (parseMethodDescriptor mX6_washesTillLost.2.1.desc).map (fun d => d.parameters.length) = some 0) ∧ mX6_washesTillLost.2.1.cls = cn mX6_washesTillLost.1 ∧ plainName mX6_washesTillLost.2.1.cls = true := by decide +kernel
set_option maxRecDepth 100000 in
theorem md_X6_which : (mX6_which.2.1.cls ≠ "java/lang/invoke/MethodHandle" ∧ mX6_which.2.1.cls ≠ "java/lang/invoke/VarHandle" ∧ (parseMethodDescriptor mX6_which.2.1.desc).map (fun d => d.parameters.length) = some 2) ∧ mX6_which.2.1.cls = cn mX6_which.1 ∧ plainName mX6_which.2.1.cls = true := by decide +kernel
set_option maxRecDepth 100000 in
theorem md_X6_worst : (mX6_worst.2.1.cls ≠ "java/lang/invoke/MethodHandle" ∧ mX6_worst.2.1.cls ≠ "java/lang/invoke/VarHandle" ∧ (parseMethodDescriptor mX6_worst.2.1.desc).map (fun d => d.parameters.length) = some 0) ∧ mX6_worst.2.1.cls = cn mX6_worst.1 ∧ plainName mX6_worst.2.1.cls = true := by decide +kernel
set_option maxRecDepth 100000 in
theorem md_X7_allSeconds : (mX7_allSeconds.2.1.cls ≠ "java/lang/invoke/MethodHandle" ∧ mX7_allSeconds.2.1.cls ≠ "java/lang/invoke/VarHandle" ∧ (parseMethodDescriptor mX7_allSeconds.2.1.desc).map (fun d => d.parameters.length) = some 1) ∧ mX7_allSeconds.2.1.cls = cn mX7_allSeconds.1 ∧ plainName mX7_allSeconds.2.1.cls = true := by decide +kernel
set_option maxRecDepth 100000 in
theorem md_X7_anew : (mX7_anew.2.1.cls ≠ "java/lang/invoke/MethodHandle" ∧ mX7_anew.2.1.cls ≠ "java/lang/invoke/VarHandle" ∧ (parseMethodDescriptor mX7_anew.2.1.desc).map (fun d => d.parameters.length) = some 0) ∧ mX7_anew.2.1.cls = cn mX7_anew.1 ∧ plainName mX7_anew.2.1.cls = true := by decide +kernel
set_option maxRecDepth 100000 in
theorem md_X7_anewSeconds : (mX7_anewSeconds.2.1.cls ≠ "java/lang/invoke/MethodHandle" ∧ mX7_anewSeconds.2.1.cls ≠ "java/lang/invoke/VarHandle" ∧ (parseMethodDescriptor mX7_anewSeconds.2.1.desc).map (fun d => d.parameters.length) = some 1) ∧ mX7_anewSeconds.2.1.cls = cn mX7_anewSeconds.1 ∧ plainName mX7_anewSeconds.2.1.cls = true := by decide +kernel
set_option maxRecDepth 100000 in
theorem md_X7_bestPin : (mX7_bestPin.2.1.cls ≠ "java/lang/invoke/MethodHandle" ∧ mX7_bestPin.2.1.cls ≠ "java/lang/invoke/VarHandle" ∧ (parseMethodDescriptor mX7_bestPin.2.1.desc).map (fun d => d.parameters.length) = some 1) ∧ mX7_bestPin.2.1.cls = cn mX7_bestPin.1 ∧ plainName mX7_bestPin.2.1.cls = true := by decide +kernel
set_option maxRecDepth 100000 in
theorem md_X7_better : (mX7_better.2.1.cls ≠ "java/lang/invoke/MethodHandle" ∧ mX7_better.2.1.cls ≠ "java/lang/invoke/VarHandle" ∧ (parseMethodDescriptor mX7_better.2.1.desc).map (fun d => d.parameters.length) = some 1) ∧ mX7_better.2.1.cls = cn mX7_better.1 ∧ plainName mX7_better.2.1.cls = true := by decide +kernel
set_option maxRecDepth 100000 in
theorem md_X7_bunch : (mX7_bunch.2.1.cls ≠ "java/lang/invoke/MethodHandle" ∧ mX7_bunch.2.1.cls ≠ "java/lang/invoke/VarHandle" ∧ (parseMethodDescriptor mX7_bunch.2.1.desc).map (fun d => d.parameters.length) = some 1) ∧ mX7_bunch.2.1.cls = cn mX7_bunch.1 ∧ plainName mX7_bunch.2.1.cls = true := by decide +kernel
set_option maxRecDepth 100000 in
theorem md_X7_bunchAt : (mX7_bunchAt.2.1.cls ≠ "java/lang/invoke/MethodHandle" ∧ mX7_bunchAt.2.1.cls ≠ "java/lang/invoke/VarHandle" ∧ (parseMethodDescriptor mX7_bunchAt.2.1.desc).map (fun d => d.parameters.length) = some 2) ∧ mX7_bunchAt.2.1.cls = cn mX7_bunchAt.1 ∧ plainName mX7_bunchAt.2.1.cls = true := by decide +kernel
set_option maxRecDepth 100000 in
theorem md_X7_bunches : (mX7_bunches.2.1.cls ≠ "java/lang/invoke/MethodHandle" ∧ mX7_bunches.2.1.cls ≠ "java/lang/invoke/VarHandle" ∧ (parseMethodDescriptor mX7_bunches.2.1.desc).map (fun d => d.parameters.length) = some 2) ∧ mX7_bunches.2.1.cls = cn mX7_bunches.1 ∧ plainName mX7_bunches.2.1.cls = true := by decide +kernel
set_option maxRecDepth 100000 in
theorem md_X7_canPull : (mX7_canPull.2.1.cls ≠ "java/lang/invoke/MethodHandle" ∧ mX7_canPull.2.1.cls ≠ "java/lang/invoke/VarHandle" ∧ (parseMethodDescriptor mX7_canPull.2.1.desc).map (fun d => d.parameters.length) = some 3) ∧ mX7_canPull.2.1.cls = cn mX7_canPull.1 ∧ plainName mX7_canPull.2.1.cls = true := by decide +kernel
set_option maxRecDepth 100000 in
theorem md_X7_care : (mX7_care.2.1.cls ≠ "java/lang/invoke/MethodHandle" ∧ mX7_care.2.1.cls ≠ "java/lang/invoke/VarHandle" ∧ (parseMethodDescriptor mX7_care.2.1.desc).map (fun d => d.parameters.length) = some 1) ∧ mX7_care.2.1.cls = cn mX7_care.1 ∧ plainName mX7_care.2.1.cls = true := by decide +kernel
set_option maxRecDepth 100000 in
theorem md_X7_costliest : (mX7_costliest.2.1.cls ≠ "java/lang/invoke/MethodHandle" ∧ mX7_costliest.2.1.cls ≠ "java/lang/invoke/VarHandle" ∧ (parseMethodDescriptor mX7_costliest.2.1.desc).map (fun d => d.parameters.length) = some 1) ∧ mX7_costliest.2.1.cls = cn mX7_costliest.1 ∧ plainName mX7_costliest.2.1.cls = true := by decide +kernel
set_option maxRecDepth 100000 in
theorem md_X7_count : (mX7_count.2.1.cls ≠ "java/lang/invoke/MethodHandle" ∧ mX7_count.2.1.cls ≠ "java/lang/invoke/VarHandle" ∧ (parseMethodDescriptor mX7_count.2.1.desc).map (fun d => d.parameters.length) = some 1) ∧ mX7_count.2.1.cls = cn mX7_count.1 ∧ plainName mX7_count.2.1.cls = true := by decide +kernel
set_option maxRecDepth 100000 in
theorem md_X7_cutOff : (mX7_cutOff.2.1.cls ≠ "java/lang/invoke/MethodHandle" ∧ mX7_cutOff.2.1.cls ≠ "java/lang/invoke/VarHandle" ∧ (parseMethodDescriptor mX7_cutOff.2.1.desc).map (fun d => d.parameters.length) = some 0) ∧ mX7_cutOff.2.1.cls = cn mX7_cutOff.1 ∧ plainName mX7_cutOff.2.1.cls = true := by decide +kernel
set_option maxRecDepth 100000 in
theorem md_X7_deep : (mX7_deep.2.1.cls ≠ "java/lang/invoke/MethodHandle" ∧ mX7_deep.2.1.cls ≠ "java/lang/invoke/VarHandle" ∧ (parseMethodDescriptor mX7_deep.2.1.desc).map (fun d => d.parameters.length) = some 2) ∧ mX7_deep.2.1.cls = cn mX7_deep.1 ∧ plainName mX7_deep.2.1.cls = true := by decide +kernel
set_option maxRecDepth 100000 in
theorem md_X7_drawn : (mX7_drawn.2.1.cls ≠ "java/lang/invoke/MethodHandle" ∧ mX7_drawn.2.1.cls ≠ "java/lang/invoke/VarHandle" ∧ (parseMethodDescriptor mX7_drawn.2.1.desc).map (fun d => d.parameters.length) = some 1) ∧ mX7_drawn.2.1.cls = cn mX7_drawn.1 ∧ plainName mX7_drawn.2.1.cls = true := by decide +kernel
set_option maxRecDepth 100000 in
theorem md_X7_drawsAt : (mX7_drawsAt.2.1.cls ≠ "java/lang/invoke/MethodHandle" ∧ mX7_drawsAt.2.1.cls ≠ "java/lang/invoke/VarHandle" ∧ (parseMethodDescriptor mX7_drawsAt.2.1.desc).map (fun d => d.parameters.length) = some 2) ∧ mX7_drawsAt.2.1.cls = cn mX7_drawsAt.1 ∧ plainName mX7_drawsAt.2.1.cls = true := by decide +kernel
set_option maxRecDepth 100000 in
theorem md_X7_end : (mX7_end.2.1.cls ≠ "java/lang/invoke/MethodHandle" ∧ mX7_end.2.1.cls ≠ "java/lang/invoke/VarHandle" ∧ (parseMethodDescriptor mX7_end.2.1.desc).map (fun d => d.parameters.length) = some 2) ∧ mX7_end.2.1.cls = cn mX7_end.1 ∧ plainName mX7_end.2.1.cls = true := by decide +kernel
set_option maxRecDepth 100000 in
theorem md_X7_figureOf : (mX7_figureOf.2.1.cls ≠ "java/lang/invoke/MethodHandle" ∧ mX7_figureOf.2.1.cls ≠ "java/lang/invoke/VarHandle" ∧ (parseMethodDescriptor mX7_figureOf.2.1.desc).map (fun d => d.parameters.length) = some 2) ∧ mX7_figureOf.2.1.cls = cn mX7_figureOf.1 ∧ plainName mX7_figureOf.2.1.cls = true := by decide +kernel
set_option maxRecDepth 100000 in
theorem md_X7_firstWrong : (mX7_firstWrong.2.1.cls ≠ "java/lang/invoke/MethodHandle" ∧ mX7_firstWrong.2.1.cls ≠ "java/lang/invoke/VarHandle" ∧ (parseMethodDescriptor mX7_firstWrong.2.1.desc).map (fun d => d.parameters.length) = some 2) ∧ mX7_firstWrong.2.1.cls = cn mX7_firstWrong.1 ∧ plainName mX7_firstWrong.2.1.cls = true := by decide +kernel
set_option maxRecDepth 100000 in
theorem md_X7_hem : (mX7_hem.2.1.cls ≠ "java/lang/invoke/MethodHandle" ∧ mX7_hem.2.1.cls ≠ "java/lang/invoke/VarHandle" ∧ (parseMethodDescriptor mX7_hem.2.1.desc).map (fun d => d.parameters.length) = some 0) ∧ mX7_hem.2.1.cls = cn mX7_hem.1 ∧ plainName mX7_hem.2.1.cls = true := by decide +kernel
set_option maxRecDepth 100000 in
theorem md_X7_here : (mX7_here.2.1.cls ≠ "java/lang/invoke/MethodHandle" ∧ mX7_here.2.1.cls ≠ "java/lang/invoke/VarHandle" ∧ (parseMethodDescriptor mX7_here.2.1.desc).map (fun d => d.parameters.length) = some 0) ∧ mX7_here.2.1.cls = cn mX7_here.1 ∧ plainName mX7_here.2.1.cls = true := by decide +kernel
set_option maxRecDepth 100000 in
theorem md_X7_holdsUp : (mX7_holdsUp.2.1.cls ≠ "java/lang/invoke/MethodHandle" ∧ mX7_holdsUp.2.1.cls ≠ "java/lang/invoke/VarHandle" ∧ (parseMethodDescriptor mX7_holdsUp.2.1.desc).map (fun d => d.parameters.length) = some 1) ∧ mX7_holdsUp.2.1.cls = cn mX7_holdsUp.1 ∧ plainName mX7_holdsUp.2.1.cls = true := by decide +kernel
set_option maxRecDepth 100000 in
theorem md_X7_image : (mX7_image.2.1.cls ≠ "java/lang/invoke/MethodHandle" ∧ mX7_image.2.1.cls ≠ "java/lang/invoke/VarHandle" ∧ (parseMethodDescriptor mX7_image.2.1.desc).map (fun d => d.parameters.length) = some 0) ∧ mX7_image.2.1.cls = cn mX7_image.1 ∧ plainName mX7_image.2.1.cls = true := by decide +kernel
set_option maxRecDepth 100000 in
theorem md_X7_inIn : (mX7_inIn.2.1.cls ≠ "java/lang/invoke/MethodHandle" ∧ mX7_inIn.2.1.cls ≠ "java/lang/invoke/VarHandle" ∧ (parseMethodDescriptor mX7_inIn.2.1.desc).map (fun d => d.parameters.length) = some 2) ∧ mX7_inIn.2.1.cls = cn mX7_inIn.1 ∧ plainName mX7_inIn.2.1.cls = true := by decide +kernel
set_option maxRecDepth 100000 in
theorem md_X7_inch : (mX7_inch.2.1.cls ≠ "java/lang/invoke/MethodHandle" ∧ mX7_inch.2.1.cls ≠ "java/lang/invoke/VarHandle" ∧ (parseMethodDescriptor mX7_inch.2.1.desc).map (fun d => d.parameters.length) = some 2) ∧ mX7_inch.2.1.cls = cn mX7_inch.1 ∧ plainName mX7_inch.2.1.cls = true := by decide +kernel
set_option maxRecDepth 100000 in
theorem md_X7_inchOf : (mX7_inchOf.2.1.cls ≠ "java/lang/invoke/MethodHandle" ∧ mX7_inchOf.2.1.cls ≠ "java/lang/invoke/VarHandle" ∧ (parseMethodDescriptor mX7_inchOf.2.1.desc).map (fun d => d.parameters.length) = some 2) ∧ mX7_inchOf.2.1.cls = cn mX7_inchOf.1 ∧ plainName mX7_inchOf.2.1.cls = true := by decide +kernel
set_option maxRecDepth 100000 in
theorem md_X7_inches : (mX7_inches.2.1.cls ≠ "java/lang/invoke/MethodHandle" ∧ mX7_inches.2.1.cls ≠ "java/lang/invoke/VarHandle" ∧ (parseMethodDescriptor mX7_inches.2.1.desc).map (fun d => d.parameters.length) = some 1) ∧ mX7_inches.2.1.cls = cn mX7_inches.1 ∧ plainName mX7_inches.2.1.cls = true := by decide +kernel
set_option maxRecDepth 100000 in
theorem md_X7_isDone : (mX7_isDone.2.1.cls ≠ "java/lang/invoke/MethodHandle" ∧ mX7_isDone.2.1.cls ≠ "java/lang/invoke/VarHandle" ∧ (parseMethodDescriptor mX7_isDone.2.1.desc).map (fun d => d.parameters.length) = some 1) ∧ mX7_isDone.2.1.cls = cn mX7_isDone.1 ∧ plainName mX7_isDone.2.1.cls = true := by decide +kernel
set_option maxRecDepth 100000 in
theorem md_X7_isEnd : (mX7_isEnd.2.1.cls ≠ "java/lang/invoke/MethodHandle" ∧ mX7_isEnd.2.1.cls ≠ "java/lang/invoke/VarHandle" ∧ (parseMethodDescriptor mX7_isEnd.2.1.desc).map (fun d => d.parameters.length) = some 1) ∧ mX7_isEnd.2.1.cls = cn mX7_isEnd.1 ∧ plainName mX7_isEnd.2.1.cls = true := by decide +kernel
set_option maxRecDepth 100000 in
theorem md_X7_isIn : (mX7_isIn.2.1.cls ≠ "java/lang/invoke/MethodHandle" ∧ mX7_isIn.2.1.cls ≠ "java/lang/invoke/VarHandle" ∧ (parseMethodDescriptor mX7_isIn.2.1.desc).map (fun d => d.parameters.length) = some 3) ∧ mX7_isIn.2.1.cls = cn mX7_isIn.1 ∧ plainName mX7_isIn.2.1.cls = true := by decide +kernel
set_option maxRecDepth 100000 in
theorem md_X7_isInch : (mX7_isInch.2.1.cls ≠ "java/lang/invoke/MethodHandle" ∧ mX7_isInch.2.1.cls ≠ "java/lang/invoke/VarHandle" ∧ (parseMethodDescriptor mX7_isInch.2.1.desc).map (fun d => d.parameters.length) = some 1) ∧ mX7_isInch.2.1.cls = cn mX7_isInch.1 ∧ plainName mX7_isInch.2.1.cls = true := by decide +kernel
set_option maxRecDepth 100000 in
theorem md_X7_isLost : (mX7_isLost.2.1.cls ≠ "java/lang/invoke/MethodHandle" ∧ mX7_isLost.2.1.cls ≠ "java/lang/invoke/VarHandle" ∧ (parseMethodDescriptor mX7_isLost.2.1.desc).map (fun d => d.parameters.length) = some 2) ∧ mX7_isLost.2.1.cls = cn mX7_isLost.1 ∧ plainName mX7_isLost.2.1.cls = true := by decide +kernel
set_option maxRecDepth 100000 in
theorem md_X7_isSeam : (mX7_isSeam.2.1.cls ≠ "java/lang/invoke/MethodHandle" ∧ mX7_isSeam.2.1.cls ≠ "java/lang/invoke/VarHandle" ∧ (parseMethodDescriptor mX7_isSeam.2.1.desc).map (fun d => d.parameters.length) = some 1) ∧ mX7_isSeam.2.1.cls = cn mX7_isSeam.1 ∧ plainName mX7_isSeam.2.1.cls = true := by decide +kernel
set_option maxRecDepth 100000 in
theorem md_X7_judge : (mX7_judge.2.1.cls ≠ "java/lang/invoke/MethodHandle" ∧ mX7_judge.2.1.cls ≠ "java/lang/invoke/VarHandle" ∧ (parseMethodDescriptor mX7_judge.2.1.desc).map (fun d => d.parameters.length) = some 1) ∧ mX7_judge.2.1.cls = cn mX7_judge.1 ∧ plainName mX7_judge.2.1.cls = true := by decide +kernel
set_option maxRecDepth 100000 in
theorem md_X7_keep : (mX7_keep.2.1.cls ≠ "java/lang/invoke/MethodHandle" ∧ mX7_keep.2.1.cls ≠ "java/lang/invoke/VarHandle" ∧ (parseMethodDescriptor mX7_keep.2.1.desc).map (fun d => d.parameters.length) = some 1) ∧ mX7_keep.2.1.cls = cn mX7_keep.1 ∧ plainName mX7_keep.2.1.cls = true := by decide +kernel
set_option maxRecDepth 100000 in
theorem md_X7_kindBy : (mX7_kindBy.2.1.cls ≠ "java/lang/invoke/MethodHandle" ∧ mX7_kindBy.2.1.cls ≠ "java/lang/invoke/VarHandle" ∧ (parseMethodDescriptor mX7_kindBy.2.1.desc).map (fun d => d.parameters.length) = some 1) ∧ mX7_kindBy.2.1.cls = cn mX7_kindBy.1 ∧ plainName mX7_kindBy.2.1.cls = true := by decide +kernel
set_option maxRecDepth 100000 in
theorem md_X7_kindOf : (mX7_kindOf.2.1.cls ≠ "java/lang/invoke/MethodHandle" ∧ mX7_kindOf.2.1.cls ≠ "java/lang/invoke/VarHandle" ∧ (parseMethodDescriptor mX7_kindOf.2.1.desc).map (fun d => d.parameters.length) = some 2) ∧ mX7_kindOf.2.1.cls = cn mX7_kindOf.1 ∧ plainName mX7_kindOf.2.1.cls = true := by decide +kernel
set_option maxRecDepth 100000 in
theorem md_X7_lays : (mX7_lays.2.1.cls ≠ "java/lang/invoke/MethodHandle" ∧ mX7_lays.2.1.cls ≠ "java/lang/invoke/VarHandle" ∧ (parseMethodDescriptor mX7_lays.2.1.desc).map (fun d => d.parameters.length) = some 2) ∧ mX7_lays.2.1.cls = cn mX7_lays.1 ∧ plainName mX7_lays.2.1.cls = true := by decide +kernel
set_option maxRecDepth 100000 in
theorem md_X7_least : (mX7_least.2.1.cls ≠ "java/lang/invoke/MethodHandle" ∧ mX7_least.2.1.cls ≠ "java/lang/invoke/VarHandle" ∧ (parseMethodDescriptor mX7_least.2.1.desc).map (fun d => d.parameters.length) = some 2) ∧ mX7_least.2.1.cls = cn mX7_least.1 ∧ plainName mX7_least.2.1.cls = true := by decide +kernel
set_option maxRecDepth 100000 in
theorem md_X7_letter : (mX7_letter.2.1.cls ≠ "java/lang/invoke/MethodHandle" ∧ mX7_letter.2.1.cls ≠ "java/lang/invoke/VarHandle" ∧ (parseMethodDescriptor mX7_letter.2.1.desc).map (fun d => d.parameters.length) = some 1) ∧ mX7_letter.2.1.cls = cn mX7_letter.1 ∧ plainName mX7_letter.2.1.cls = true := by decide +kernel
set_option maxRecDepth 100000 in
theorem md_X7_lost : (mX7_lost.2.1.cls ≠ "java/lang/invoke/MethodHandle" ∧ mX7_lost.2.1.cls ≠ "java/lang/invoke/VarHandle" ∧ (parseMethodDescriptor mX7_lost.2.1.desc).map (fun d => d.parameters.length) = some 1) ∧ mX7_lost.2.1.cls = cn mX7_lost.1 ∧ plainName mX7_lost.2.1.cls = true := by decide +kernel
set_option maxRecDepth 100000 in
theorem md_X7_lostMany : (mX7_lostMany.2.1.cls ≠ "java/lang/invoke/MethodHandle" ∧ mX7_lostMany.2.1.cls ≠ "java/lang/invoke/VarHandle" ∧ (parseMethodDescriptor mX7_lostMany.2.1.desc).map (fun d => d.parameters.length) = some 1) ∧ mX7_lostMany.2.1.cls = cn mX7_lostMany.1 ∧ plainName mX7_lostMany.2.1.cls = true := by decide +kernel
set_option maxRecDepth 100000 in
theorem md_X7_lots : (mX7_lots.2.1.cls ≠ "java/lang/invoke/MethodHandle" ∧ mX7_lots.2.1.cls ≠ "java/lang/invoke/VarHandle" ∧ (parseMethodDescriptor mX7_lots.2.1.desc).map (fun d => d.parameters.length) = some 3) ∧ mX7_lots.2.1.cls = cn mX7_lots.1 ∧ plainName mX7_lots.2.1.cls = true := by decide +kernel
set_option maxRecDepth 100000 in
theorem md_X7_mended : (mX7_mended.2.1.cls ≠ "java/lang/invoke/MethodHandle" ∧ mX7_mended.2.1.cls ≠ "java/lang/invoke/VarHandle" ∧ (parseMethodDescriptor mX7_mended.2.1.desc).map (fun d => d.parameters.length) = some 1) ∧ mX7_mended.2.1.cls = cn mX7_mended.1 ∧ plainName mX7_mended.2.1.cls = true := by decide +kernel
set_option maxRecDepth 100000 in
theorem md_X7_middle : (mX7_middle.2.1.cls ≠ "java/lang/invoke/MethodHandle" ∧ mX7_middle.2.1.cls ≠ "java/lang/invoke/VarHandle" ∧ (parseMethodDescriptor mX7_middle.2.1.desc).map (fun d => d.parameters.length) = some 0) ∧ mX7_middle.2.1.cls = cn mX7_middle.1 ∧ plainName mX7_middle.2.1.cls = true := by decide +kernel
set_option maxRecDepth 100000 in
theorem md_X7_most : (mX7_most.2.1.cls ≠ "java/lang/invoke/MethodHandle" ∧ mX7_most.2.1.cls ≠ "java/lang/invoke/VarHandle" ∧ (parseMethodDescriptor mX7_most.2.1.desc).map (fun d => d.parameters.length) = some 2) ∧ mX7_most.2.1.cls = cn mX7_most.1 ∧ plainName mX7_most.2.1.cls = true := by decide +kernel
set_option maxRecDepth 100000 in
theorem md_X7_movesAt : (mX7_movesAt.2.1.cls ≠ "java/lang/invoke/MethodHandle" ∧ mX7_movesAt.2.1.cls ≠ "java/lang/invoke/VarHandle" ∧ (parseMethodDescriptor mX7_movesAt.2.1.desc).map (fun d => d.parameters.length) = some 2) ∧ mX7_movesAt.2.1.cls = cn mX7_movesAt.1 ∧ plainName mX7_movesAt.2.1.cls = true := by decide +kernel
set_option maxRecDepth 100000 in
theorem md_X7_no : (mX7_no.2.1.cls ≠ "java/lang/invoke/MethodHandle" ∧ mX7_no.2.1.cls ≠ "java/lang/invoke/VarHandle" ∧ (parseMethodDescriptor mX7_no.2.1.desc).map (fun d => d.parameters.length) = some 1) ∧ mX7_no.2.1.cls = cn mX7_no.1 ∧ plainName mX7_no.2.1.cls = true := by decide +kernel
set_option maxRecDepth 100000 in
theorem md_X7_noFar : (mX7_noFar.2.1.cls ≠ "java/lang/invoke/MethodHandle" ∧ mX7_noFar.2.1.cls ≠ "java/lang/invoke/VarHandle" ∧ (parseMethodDescriptor mX7_noFar.2.1.desc).map (fun d => d.parameters.length) = some 1) ∧ mX7_noFar.2.1.cls = cn mX7_noFar.1 ∧ plainName mX7_noFar.2.1.cls = true := by decide +kernel
set_option maxRecDepth 100000 in
theorem md_X7_of : (mX7_of.2.1.cls ≠ "java/lang/invoke/MethodHandle" ∧ mX7_of.2.1.cls ≠ "java/lang/invoke/VarHandle" ∧ (parseMethodDescriptor mX7_of.2.1.desc).map (fun d => d.parameters.length) = some 2) ∧ mX7_of.2.1.cls = cn mX7_of.1 ∧ plainName mX7_of.2.1.cls = true := by decide +kernel
set_option maxRecDepth 100000 in
theorem md_X7_on : (mX7_on.2.1.cls ≠ "java/lang/invoke/MethodHandle" ∧ mX7_on.2.1.cls ≠ "java/lang/invoke/VarHandle" ∧ (parseMethodDescriptor mX7_on.2.1.desc).map (fun d => d.parameters.length) = some 0) ∧ mX7_on.2.1.cls = cn mX7_on.1 ∧ plainName mX7_on.2.1.cls = true := by decide +kernel
set_option maxRecDepth 100000 in
theorem md_X7_out : (mX7_out.2.1.cls ≠ "java/lang/invoke/MethodHandle" ∧ mX7_out.2.1.cls ≠ "java/lang/invoke/VarHandle" ∧ (parseMethodDescriptor mX7_out.2.1.desc).map (fun d => d.parameters.length) = some 2) ∧ mX7_out.2.1.cls = cn mX7_out.1 ∧ plainName mX7_out.2.1.cls = true := by decide +kernel
set_option maxRecDepth 100000 in
theorem md_X7_outSeconds : (mX7_outSeconds.2.1.cls ≠ "java/lang/invoke/MethodHandle" ∧ mX7_outSeconds.2.1.cls ≠ "java/lang/invoke/VarHandle" ∧ (parseMethodDescriptor mX7_outSeconds.2.1.desc).map (fun d => d.parameters.length) = some 2) ∧ mX7_outSeconds.2.1.cls = cn mX7_outSeconds.1 ∧ plainName mX7_outSeconds.2.1.cls = true := by decide +kernel
set_option maxRecDepth 100000 in
theorem md_X7_pull : (mX7_pull.2.1.cls ≠ "java/lang/invoke/MethodHandle" ∧ mX7_pull.2.1.cls ≠ "java/lang/invoke/VarHandle" ∧ (parseMethodDescriptor mX7_pull.2.1.desc).map (fun d => d.parameters.length) = some 2) ∧ mX7_pull.2.1.cls = cn mX7_pull.1 ∧ plainName mX7_pull.2.1.cls = true := by decide +kernel
set_option maxRecDepth 100000 in
theorem md_X7_pulls : (mX7_pulls.2.1.cls ≠ "java/lang/invoke/MethodHandle" ∧ mX7_pulls.2.1.cls ≠ "java/lang/invoke/VarHandle" ∧ (parseMethodDescriptor mX7_pulls.2.1.desc).map (fun d => d.parameters.length) = some 3) ∧ mX7_pulls.2.1.cls = cn mX7_pulls.1 ∧ plainName mX7_pulls.2.1.cls = true := by decide +kernel
set_option maxRecDepth 100000 in
theorem md_X7_readsKind : (mX7_readsKind.2.1.cls ≠ "java/lang/invoke/MethodHandle" ∧ mX7_readsKind.2.1.cls ≠ "java/lang/invoke/VarHandle" ∧ (parseMethodDescriptor mX7_readsKind.2.1.desc).map (fun d => d.parameters.length) = some 0) ∧ mX7_readsKind.2.1.cls = cn mX7_readsKind.1 ∧ plainName mX7_readsKind.2.1.cls = true := by decide +kernel
set_option maxRecDepth 100000 in
theorem md_X7_readsNumber : (mX7_readsNumber.2.1.cls ≠ "java/lang/invoke/MethodHandle" ∧ mX7_readsNumber.2.1.cls ≠ "java/lang/invoke/VarHandle" ∧ (parseMethodDescriptor mX7_readsNumber.2.1.desc).map (fun d => d.parameters.length) = some 2) ∧ mX7_readsNumber.2.1.cls = cn mX7_readsNumber.1 ∧ plainName mX7_readsNumber.2.1.cls = true := by decide +kernel
set_option maxRecDepth 100000 in
theorem md_X7_readsSigned : (mX7_readsSigned.2.1.cls ≠ "java/lang/invoke/MethodHandle" ∧ mX7_readsSigned.2.1.cls ≠ "java/lang/invoke/VarHandle" ∧ (parseMethodDescriptor mX7_readsSigned.2.1.desc).map (fun d => d.parameters.length) = some 0) ∧ mX7_readsSigned.2.1.cls = cn mX7_readsSigned.1 ∧ plainName mX7_readsSigned.2.1.cls = true := by decide +kernel
set_option maxRecDepth 100000 in
theorem md_X7_readsStatement : (mX7_readsStatement.2.1.cls ≠ "java/lang/invoke/MethodHandle" ∧ mX7_readsStatement.2.1.cls ≠ "java/lang/invoke/VarHandle" ∧ (parseMethodDescriptor mX7_readsStatement.2.1.desc).map (fun d => d.parameters.length) = some 0) ∧ mX7_readsStatement.2.1.cls = cn mX7_readsStatement.1 ∧ plainName mX7_readsStatement.2.1.cls = true := by decide +kernel
set_option maxRecDepth 100000 in
theorem md_X7_row : (mX7_row.2.1.cls ≠ "java/lang/invoke/MethodHandle" ∧ mX7_row.2.1.cls ≠ "java/lang/invoke/VarHandle" ∧ (parseMethodDescriptor mX7_row.2.1.desc).map (fun d => d.parameters.length) = some 1) ∧ mX7_row.2.1.cls = cn mX7_row.1 ∧ plainName mX7_row.2.1.cls = true := by decide +kernel
set_option maxRecDepth 100000 in
theorem md_X7_set : (mX7_set.2.1.cls ≠ "java/lang/invoke/MethodHandle" ∧ mX7_set.2.1.cls ≠ "java/lang/invoke/VarHandle" ∧ (parseMethodDescriptor mX7_set.2.1.desc).map (fun d => d.parameters.length) = some 2) ∧ mX7_set.2.1.cls = cn mX7_set.1 ∧ plainName mX7_set.2.1.cls = true := by decide +kernel
set_option maxRecDepth 100000 in
theorem md_X7_sew : (mX7_sew.2.1.cls ≠ "java/lang/invoke/MethodHandle" ∧ mX7_sew.2.1.cls ≠ "java/lang/invoke/VarHandle" ∧ (parseMethodDescriptor mX7_sew.2.1.desc).map (fun d => d.parameters.length) = some 0) ∧ mX7_sew.2.1.cls = cn mX7_sew.1 ∧ plainName mX7_sew.2.1.cls = true := by decide +kernel
set_option maxRecDepth 100000 in
theorem md_X7_soonest : (mX7_soonest.2.1.cls ≠ "java/lang/invoke/MethodHandle" ∧ mX7_soonest.2.1.cls ≠ "java/lang/invoke/VarHandle" ∧ (parseMethodDescriptor mX7_soonest.2.1.desc).map (fun d => d.parameters.length) = some 0) ∧ mX7_soonest.2.1.cls = cn mX7_soonest.1 ∧ plainName mX7_soonest.2.1.cls = true := by decide +kernel
set_option maxRecDepth 100000 in
theorem md_X7_still : (mX7_still.2.1.cls ≠ "java/lang/invoke/MethodHandle" ∧ mX7_still.2.1.cls ≠ "java/lang/invoke/VarHandle" ∧ (parseMethodDescriptor mX7_still.2.1.desc).map (fun d => d.parameters.length) = some 0) ∧ mX7_still.2.1.cls = cn mX7_still.1 ∧ plainName mX7_still.2.1.cls = true := by decide +kernel
set_option maxRecDepth 100000 in
theorem md_X7_stops : (mX7_stops.2.1.cls ≠ "java/lang/invoke/MethodHandle" ∧ mX7_stops.2.1.cls ≠ "java/lang/invoke/VarHandle" ∧ (parseMethodDescriptor mX7_stops.2.1.desc).map (fun d => d.parameters.length) = some 2) ∧ mX7_stops.2.1.cls = cn mX7_stops.1 ∧ plainName mX7_stops.2.1.cls = true := by decide +kernel
set_option maxRecDepth 100000 in
theorem md_X7_threadAt : (mX7_threadAt.2.1.cls ≠ "java/lang/invoke/MethodHandle" ∧ mX7_threadAt.2.1.cls ≠ "java/lang/invoke/VarHandle" ∧ (parseMethodDescriptor mX7_threadAt.2.1.desc).map (fun d => d.parameters.length) = some 2) ∧ mX7_threadAt.2.1.cls = cn mX7_threadAt.1 ∧ plainName mX7_threadAt.2.1.cls = true := by decide +kernel
set_option maxRecDepth 100000 in
theorem md_X7_threadBy : (mX7_threadBy.2.1.cls ≠ "java/lang/invoke/MethodHandle" ∧ mX7_threadBy.2.1.cls ≠ "java/lang/invoke/VarHandle" ∧ (parseMethodDescriptor mX7_threadBy.2.1.desc).map (fun d => d.parameters.length) = some 2) ∧ mX7_threadBy.2.1.cls = cn mX7_threadBy.1 ∧ plainName mX7_threadBy.2.1.cls = true := by decide +kernel
set_option maxRecDepth 100000 in
theorem md_X7_threads : (mX7_threads.2.1.cls ≠ "java/lang/invoke/MethodHandle" ∧ mX7_threads.2.1.cls ≠ "java/lang/invoke/VarHandle" ∧ (parseMethodDescriptor mX7_threads.2.1.desc).map (fun d => d.parameters.length) = some 1) ∧ mX7_threads.2.1.cls = cn mX7_threads.1 ∧ plainName mX7_threads.2.1.cls = true := by decide +kernel
set_option maxRecDepth 100000 in
theorem md_X7_tie : (mX7_tie.2.1.cls ≠ "java/lang/invoke/MethodHandle" ∧ mX7_tie.2.1.cls ≠ "java/lang/invoke/VarHandle" ∧ (parseMethodDescriptor mX7_tie.2.1.desc).map (fun d => d.parameters.length) = some 1) ∧ mX7_tie.2.1.cls = cn mX7_tie.1 ∧ plainName mX7_tie.2.1.cls = true := by decide +kernel
set_option maxRecDepth 100000 in
theorem md_X7_turn : (mX7_turn.2.1.cls ≠ "java/lang/invoke/MethodHandle" ∧ mX7_turn.2.1.cls ≠ "java/lang/invoke/VarHandle" ∧ (parseMethodDescriptor mX7_turn.2.1.desc).map (fun d => d.parameters.length) = some 3) ∧ mX7_turn.2.1.cls = cn mX7_turn.1 ∧ plainName mX7_turn.2.1.cls = true := by decide +kernel
set_option maxRecDepth 100000 in
theorem md_X7_wash : (mX7_wash.2.1.cls ≠ "java/lang/invoke/MethodHandle" ∧ mX7_wash.2.1.cls ≠ "java/lang/invoke/VarHandle" ∧ (parseMethodDescriptor mX7_wash.2.1.desc).map (fun d => d.parameters.length) = some 1) ∧ mX7_wash.2.1.cls = cn mX7_wash.1 ∧ plainName mX7_wash.2.1.cls = true := by decide +kernel
set_option maxRecDepth 100000 in
theorem md_X7_washes : (mX7_washes.2.1.cls ≠ "java/lang/invoke/MethodHandle" ∧ mX7_washes.2.1.cls ≠ "java/lang/invoke/VarHandle" ∧ (parseMethodDescriptor mX7_washes.2.1.desc).map (fun d => d.parameters.length) = some 1) ∧ mX7_washes.2.1.cls = cn mX7_washes.1 ∧ plainName mX7_washes.2.1.cls = true := by decide +kernel
set_option maxRecDepth 100000 in
theorem md_X7_washesOn : (mX7_washesOn.2.1.cls ≠ "java/lang/invoke/MethodHandle" ∧ mX7_washesOn.2.1.cls ≠ "java/lang/invoke/VarHandle" ∧ (parseMethodDescriptor mX7_washesOn.2.1.desc).map (fun d => d.parameters.length) = some 2) ∧ mX7_washesOn.2.1.cls = cn mX7_washesOn.1 ∧ plainName mX7_washesOn.2.1.cls = true := by decide +kernel
set_option maxRecDepth 100000 in
theorem md_X7_which : (mX7_which.2.1.cls ≠ "java/lang/invoke/MethodHandle" ∧ mX7_which.2.1.cls ≠ "java/lang/invoke/VarHandle" ∧ (parseMethodDescriptor mX7_which.2.1.desc).map (fun d => d.parameters.length) = some 2) ∧ mX7_which.2.1.cls = cn mX7_which.1 ∧ plainName mX7_which.2.1.cls = true := by decide +kernel
set_option maxRecDepth 100000 in
theorem md_X7_worst : (mX7_worst.2.1.cls ≠ "java/lang/invoke/MethodHandle" ∧ mX7_worst.2.1.cls ≠ "java/lang/invoke/VarHandle" ∧ (parseMethodDescriptor mX7_worst.2.1.desc).map (fun d => d.parameters.length) = some 0) ∧ mX7_worst.2.1.cls = cn mX7_worst.1 ∧ plainName mX7_worst.2.1.cls = true := by decide +kernel
set_option maxRecDepth 100000 in
theorem md_X7_wrongSeconds : (mX7_wrongSeconds.2.1.cls ≠ "java/lang/invoke/MethodHandle" ∧ mX7_wrongSeconds.2.1.cls ≠ "java/lang/invoke/VarHandle" ∧ (parseMethodDescriptor mX7_wrongSeconds.2.1.desc).map (fun d => d.parameters.length) = some 1) ∧ mX7_wrongSeconds.2.1.cls = cn mX7_wrongSeconds.1 ∧ plainName mX7_wrongSeconds.2.1.cls = true := by decide +kernel
set_option maxRecDepth 100000 in
theorem md_X7_wrongWashes : (mX7_wrongWashes.2.1.cls ≠ "java/lang/invoke/MethodHandle" ∧ mX7_wrongWashes.2.1.cls ≠ "java/lang/invoke/VarHandle" ∧ (parseMethodDescriptor mX7_wrongWashes.2.1.desc).map (fun d => d.parameters.length) = some 1) ∧ mX7_wrongWashes.2.1.cls = cn mX7_wrongWashes.1 ∧ plainName mX7_wrongWashes.2.1.cls = true := by decide +kernel
set_option maxRecDepth 100000 in
theorem cal_ok0 : ∀ q ∈ CTB0, CalOK q := List.forall_mem_cons.mpr ⟨⟨wd_323, wd_326, wd_2, Or.inl ⟨rfl, wd_324, wd_325⟩, md_X0_kindAt.1, md_X0_kindAt.2.1, md_X0_kindAt.2.2⟩, 
  List.forall_mem_cons.mpr ⟨⟨wd_327, wd_330, wd_2, Or.inl ⟨rfl, wd_328, wd_329⟩, md_X0_figureAt.1, md_X0_figureAt.2.1, md_X0_figureAt.2.2⟩, 
  List.forall_mem_cons.mpr ⟨⟨wd_331, wd_334, wd_2, Or.inl ⟨rfl, wd_332, wd_333⟩, md_X0_make.1, md_X0_make.2.1, md_X0_make.2.2⟩, 
  List.forall_mem_cons.mpr ⟨⟨wd_435, wd_437, wd_12, Or.inr ⟨rfl, wd_436⟩, md_X1_bunchMove.1, md_X1_bunchMove.2.1, md_X1_bunchMove.2.2⟩, 
  List.forall_mem_cons.mpr ⟨⟨wd_442, wd_444, wd_12, Or.inr ⟨rfl, wd_443⟩, md_X1_bunchSeconds.1, md_X1_bunchSeconds.2.1, md_X1_bunchSeconds.2.2⟩, 
  List.forall_mem_cons.mpr ⟨⟨wd_449, wd_451, wd_12, Or.inr ⟨rfl, wd_450⟩, md_X1_threadSeconds.1, md_X1_threadSeconds.2.1, md_X1_threadSeconds.2.2⟩, 
  List.forall_mem_cons.mpr ⟨⟨wd_403, wd_405, wd_12, Or.inr ⟨rfl, wd_404⟩, md_X1_washDraw.1, md_X1_washDraw.2.1, md_X1_washDraw.2.2⟩, 
  List.forall_mem_cons.mpr ⟨⟨wd_515, wd_517, wd_12, Or.inr ⟨rfl, wd_516⟩, md_X1_isSeam.1, md_X1_isSeam.2.1, md_X1_isSeam.2.2⟩, 
  List.forall_mem_cons.mpr ⟨⟨wd_514, wd_448, wd_2, Or.inl ⟨rfl, wd_446, wd_447⟩, md_X0_threadSeconds.1, md_X0_threadSeconds.2.1, md_X0_threadSeconds.2.2⟩, 
  List.forall_mem_cons.mpr ⟨⟨wd_510, wd_513, wd_2, Or.inl ⟨rfl, wd_511, wd_512⟩, md_X0_secondsAnewOf.1, md_X0_secondsAnewOf.2.1, md_X0_secondsAnewOf.2.2⟩, 
  List.forall_mem_cons.mpr ⟨⟨wd_390, wd_393, wd_2, Or.inl ⟨rfl, wd_391, wd_392⟩, md_X0_depth.1, md_X0_depth.2.1, md_X0_depth.2.2⟩, 
  List.forall_mem_cons.mpr ⟨⟨wd_526, wd_495, wd_2, Or.inl ⟨rfl, wd_493, wd_494⟩, md_X0_isLost.1, md_X0_isLost.2.1, md_X0_isLost.2.2⟩, 
  List.forall_mem_cons.mpr ⟨⟨wd_410, wd_413, wd_2, Or.inl ⟨rfl, wd_411, wd_412⟩, md_X0_canDraw.1, md_X0_canDraw.2.1, md_X0_canDraw.2.2⟩, 
  List.forall_mem_cons.mpr ⟨⟨wd_415, wd_373, wd_2, Or.inl ⟨rfl, wd_371, wd_372⟩, md_X0_place.1, md_X0_place.2.1, md_X0_place.2.2⟩, 
  List.forall_mem_cons.mpr ⟨⟨wd_394, wd_397, wd_2, Or.inl ⟨rfl, wd_395, wd_396⟩, md_X0_inchAt.1, md_X0_inchAt.2.1, md_X0_inchAt.2.2⟩, 
  List.forall_mem_cons.mpr ⟨⟨wd_399, wd_402, wd_2, Or.inl ⟨rfl, wd_400, wd_401⟩, md_X0_washDraw.1, md_X0_washDraw.2.1, md_X0_washDraw.2.2⟩, 
  List.forall_mem_cons.mpr ⟨⟨wd_406, wd_409, wd_2, Or.inl ⟨rfl, wd_407, wd_408⟩, md_X0_draw.1, md_X0_draw.2.1, md_X0_draw.2.2⟩, 
  List.forall_mem_cons.mpr ⟨⟨wd_386, wd_389, wd_2, Or.inl ⟨rfl, wd_387, wd_388⟩, md_X0_washOnce.1, md_X0_washOnce.2.1, md_X0_washOnce.2.2⟩, 
  List.forall_mem_cons.mpr ⟨⟨wd_184, wd_187, wd_5, Or.inl ⟨rfl, wd_185, wd_186⟩, md_X2_signAt.1, md_X2_signAt.2.1, md_X2_signAt.2.2⟩, 
  List.forall_mem_cons.mpr ⟨⟨wd_344, wd_347, wd_5, Or.inl ⟨rfl, wd_345, wd_346⟩, md_X2_digit.1, md_X2_digit.2.1, md_X2_digit.2.2⟩, 
  List.forall_mem_cons.mpr ⟨⟨wd_360, wd_343, wd_5, Or.inl ⟨rfl, wd_341, wd_342⟩, md_X2_number.1, md_X2_number.2.1, md_X2_number.2.2⟩, 
  List.forall_mem_cons.mpr ⟨⟨wd_188, wd_190, wd_5, Or.inr ⟨rfl, wd_189⟩, md_X2_formBehind.1, md_X2_formBehind.2.1, md_X2_formBehind.2.2⟩, 
  List.forall_mem_cons.mpr ⟨⟨wd_201, wd_204, wd_8, Or.inl ⟨rfl, wd_202, wd_203⟩, md_J0_length_8abf5.1, md_J0_length_8abf5.2.1, md_J0_length_8abf5.2.2⟩, 
  List.forall_mem_cons.mpr ⟨⟨wd_197, wd_200, wd_8, Or.inl ⟨rfl, wd_198, wd_199⟩, md_J0_isEmpty_aae02.1, md_J0_isEmpty_aae02.2.1, md_J0_isEmpty_aae02.2.2⟩, 
  List.forall_mem_cons.mpr ⟨⟨wd_211, wd_214, wd_8, Or.inl ⟨rfl, wd_212, wd_213⟩, md_J0_charAt_5068e.1, md_J0_charAt_5068e.2.1, md_J0_charAt_5068e.2.2⟩, 
  List.forall_mem_cons.mpr ⟨⟨wd_249, wd_251, wd_5, Or.inr ⟨rfl, wd_250⟩, md_X2_fits.1, md_X2_fits.2.1, md_X2_fits.2.2⟩, 
  List.forall_mem_cons.mpr ⟨⟨wd_252, wd_254, wd_12, Or.inr ⟨rfl, wd_253⟩, md_X1_isSign.1, md_X1_isSign.2.1, md_X1_isSign.2.2⟩, 
  List.forall_mem_cons.mpr ⟨⟨wd_606, wd_509, wd_2, Or.inl ⟨rfl, wd_507, wd_508⟩, md_X0_secondsAnew.1, md_X0_secondsAnew.2.1, md_X0_secondsAnew.2.2⟩, 
  List.forall_mem_cons.mpr ⟨⟨wd_607, wd_389, wd_2, Or.inl ⟨rfl, wd_387, wd_388⟩, md_X0_washOnce.1, md_X0_washOnce.2.1, md_X0_washOnce.2.2⟩, 
  List.forall_mem_cons.mpr ⟨⟨wd_608, wd_611, wd_4, Or.inl ⟨rfl, wd_610, sl_9⟩, md_X3_mend.1, md_X3_mend.2.1, md_X3_mend.2.2⟩, 
  List.forall_mem_cons.mpr ⟨⟨wd_612, wd_495, wd_2, Or.inl ⟨rfl, wd_493, wd_494⟩, md_X0_isLost.1, md_X0_isLost.2.1, md_X0_isLost.2.2⟩, 
  List.forall_mem_cons.mpr ⟨⟨wd_613, wd_393, wd_2, Or.inl ⟨rfl, wd_391, wd_392⟩, md_X0_depth.1, md_X0_depth.2.1, md_X0_depth.2.2⟩, 
  List.forall_mem_cons.mpr ⟨⟨wd_614, wd_538, wd_3, Or.inl ⟨rfl, wd_536, wd_537⟩, md_X5_measure.1, md_X5_measure.2.1, md_X5_measure.2.2⟩, 
  List.forall_mem_cons.mpr ⟨⟨wd_615, wd_567, wd_3, Or.inl ⟨rfl, wd_565, wd_566⟩, md_X5_isAWay.1, md_X5_isAWay.2.1, md_X5_isAWay.2.2⟩, 
  List.forall_mem_cons.mpr ⟨⟨wd_616, wd_505, wd_2, Or.inl ⟨rfl, wd_503, wd_504⟩, md_X0_threadAnew.1, md_X0_threadAnew.2.1, md_X0_threadAnew.2.2⟩, 
  List.forall_mem_cons.mpr ⟨⟨wd_617, wd_373, wd_2, Or.inl ⟨rfl, wd_371, wd_372⟩, md_X0_place.1, md_X0_place.2.1, md_X0_place.2.2⟩, 
  List.forall_mem_cons.mpr ⟨⟨wd_668, wd_393, wd_2, Or.inl ⟨rfl, wd_391, wd_392⟩, md_X0_depth.1, md_X0_depth.2.1, md_X0_depth.2.2⟩, 
  List.forall_mem_cons.mpr ⟨⟨wd_669, wd_389, wd_2, Or.inl ⟨rfl, wd_387, wd_388⟩, md_X0_washOnce.1, md_X0_washOnce.2.1, md_X0_washOnce.2.2⟩, 
  List.forall_mem_cons.mpr ⟨⟨wd_539, wd_397, wd_2, Or.inl ⟨rfl, wd_395, wd_396⟩, md_X0_inchAt.1, md_X0_inchAt.2.1, md_X0_inchAt.2.2⟩, 
  List.forall_mem_cons.mpr ⟨⟨wd_540, wd_434, wd_2, Or.inl ⟨rfl, wd_432, wd_433⟩, md_X0_bunchMove.1, md_X0_bunchMove.2.1, md_X0_bunchMove.2.2⟩, fun _ h => absurd h List.not_mem_nil⟩⟩⟩⟩⟩⟩⟩⟩⟩⟩⟩⟩⟩⟩⟩⟩⟩⟩⟩⟩⟩⟩⟩⟩⟩⟩⟩⟩⟩⟩⟩⟩⟩⟩⟩⟩⟩⟩⟩⟩
set_option maxRecDepth 100000 in
theorem cal_ok1 : ∀ q ∈ CTB1, CalOK q := List.forall_mem_cons.mpr ⟨⟨wd_541, wd_544, wd_3, Or.inl ⟨rfl, wd_543, sl_5⟩, md_X5_neverIsOut.1, md_X5_neverIsOut.2.1, md_X5_neverIsOut.2.2⟩, 
  List.forall_mem_cons.mpr ⟨⟨wd_545, wd_441, wd_2, Or.inl ⟨rfl, wd_439, wd_440⟩, md_X0_bunchSeconds.1, md_X0_bunchSeconds.2.1, md_X0_bunchSeconds.2.2⟩, 
  List.forall_mem_cons.mpr ⟨⟨wd_564, wd_567, wd_3, Or.inl ⟨rfl, wd_565, wd_566⟩, md_X5_isAWay.1, md_X5_isAWay.2.1, md_X5_isAWay.2.2⟩, 
  List.forall_mem_cons.mpr ⟨⟨wd_562, wd_393, wd_2, Or.inl ⟨rfl, wd_391, wd_392⟩, md_X0_depth.1, md_X0_depth.2.1, md_X0_depth.2.2⟩, 
  List.forall_mem_cons.mpr ⟨⟨wd_563, wd_538, wd_3, Or.inl ⟨rfl, wd_536, wd_537⟩, md_X5_measure.1, md_X5_measure.2.1, md_X5_measure.2.2⟩, 
  List.forall_mem_cons.mpr ⟨⟨wd_161, wd_163, wd_1, Or.inr ⟨rfl, wd_162⟩, md_X6_outside.1, md_X6_outside.2.1, md_X6_outside.2.2⟩, 
  List.forall_mem_cons.mpr ⟨⟨wd_164, wd_167, wd_1, Or.inl ⟨rfl, wd_166, sl_0⟩, md_X6_refuse.1, md_X6_refuse.2.1, md_X6_refuse.2.2⟩, 
  List.forall_mem_cons.mpr ⟨⟨wd_168, wd_171, wd_5, Or.inl ⟨rfl, wd_169, wd_170⟩, md_X2_isFull.1, md_X2_isFull.2.1, md_X2_isFull.2.2⟩, 
  List.forall_mem_cons.mpr ⟨⟨wd_172, wd_175, wd_5, Or.inl ⟨rfl, wd_173, wd_174⟩, md_X2_add.1, md_X2_add.2.1, md_X2_add.2.2⟩, 
  List.forall_mem_cons.mpr ⟨⟨wd_180, wd_183, wd_5, Or.inl ⟨rfl, wd_181, wd_182⟩, md_X2_firstUnfit.1, md_X2_firstUnfit.2.1, md_X2_firstUnfit.2.2⟩, 
  List.forall_mem_cons.mpr ⟨⟨wd_315, wd_318, wd_1, Or.inl ⟨rfl, wd_317, sl_1⟩, md_X6_statementsCome.1, md_X6_statementsCome.2.1, md_X6_statementsCome.2.2⟩, 
  List.forall_mem_cons.mpr ⟨⟨wd_420, wd_423, wd_5, Or.inl ⟨rfl, wd_421, wd_422⟩, md_X2_clear.1, md_X2_clear.2.1, md_X2_clear.2.2⟩, 
  List.forall_mem_cons.mpr ⟨⟨wd_348, wd_351, wd_2, Or.inl ⟨rfl, wd_349, wd_350⟩, md_X0_hasInch.1, md_X0_hasInch.2.1, md_X0_hasInch.2.2⟩, 
  List.forall_mem_cons.mpr ⟨⟨wd_429, wd_326, wd_2, Or.inl ⟨rfl, wd_324, wd_325⟩, md_X0_kindAt.1, md_X0_kindAt.2.1, md_X0_kindAt.2.2⟩, 
  List.forall_mem_cons.mpr ⟨⟨wd_430, wd_330, wd_2, Or.inl ⟨rfl, wd_328, wd_329⟩, md_X0_figureAt.1, md_X0_figureAt.2.1, md_X0_figureAt.2.2⟩, 
  List.forall_mem_cons.mpr ⟨⟨wd_431, wd_434, wd_2, Or.inl ⟨rfl, wd_432, wd_433⟩, md_X0_bunchMove.1, md_X0_bunchMove.2.1, md_X0_bunchMove.2.2⟩, 
  List.forall_mem_cons.mpr ⟨⟨wd_438, wd_441, wd_2, Or.inl ⟨rfl, wd_439, wd_440⟩, md_X0_bunchSeconds.1, md_X0_bunchSeconds.2.1, md_X0_bunchSeconds.2.2⟩, 
  List.forall_mem_cons.mpr ⟨⟨wd_445, wd_448, wd_2, Or.inl ⟨rfl, wd_446, wd_447⟩, md_X0_threadSeconds.1, md_X0_threadSeconds.2.1, md_X0_threadSeconds.2.2⟩, 
  List.forall_mem_cons.mpr ⟨⟨wd_452, wd_402, wd_2, Or.inl ⟨rfl, wd_400, wd_401⟩, md_X0_washDraw.1, md_X0_washDraw.2.1, md_X0_washDraw.2.2⟩, 
  List.forall_mem_cons.mpr ⟨⟨wd_369, wd_334, wd_2, Or.inl ⟨rfl, wd_332, wd_333⟩, md_X0_make.1, md_X0_make.2.1, md_X0_make.2.2⟩, 
  List.forall_mem_cons.mpr ⟨⟨wd_353, wd_355, wd_1, Or.inr ⟨rfl, wd_354⟩, md_X6_isEnd.1, md_X6_isEnd.2.1, md_X6_isEnd.2.2⟩, 
  List.forall_mem_cons.mpr ⟨⟨wd_465, wd_468, wd_1, Or.inl ⟨rfl, wd_467, sl_4⟩, md_X6_refuseAsTold.1, md_X6_refuseAsTold.2.1, md_X6_refuseAsTold.2.2⟩, 
  List.forall_mem_cons.mpr ⟨⟨wd_470, wd_393, wd_2, Or.inl ⟨rfl, wd_391, wd_392⟩, md_X0_depth.1, md_X0_depth.2.1, md_X0_depth.2.2⟩, 
  List.forall_mem_cons.mpr ⟨⟨wd_370, wd_373, wd_2, Or.inl ⟨rfl, wd_371, wd_372⟩, md_X0_place.1, md_X0_place.2.1, md_X0_place.2.2⟩, 
  List.forall_mem_cons.mpr ⟨⟨wd_374, wd_377, wd_2, Or.inl ⟨rfl, wd_375, wd_376⟩, md_X0_isKnotted.1, md_X0_isKnotted.2.1, md_X0_isKnotted.2.2⟩, 
  List.forall_mem_cons.mpr ⟨⟨wd_378, wd_381, wd_2, Or.inl ⟨rfl, wd_379, wd_380⟩, md_X0_knot.1, md_X0_knot.2.1, md_X0_knot.2.2⟩, 
  List.forall_mem_cons.mpr ⟨⟨wd_487, wd_409, wd_2, Or.inl ⟨rfl, wd_407, wd_408⟩, md_X0_draw.1, md_X0_draw.2.1, md_X0_draw.2.2⟩, 
  List.forall_mem_cons.mpr ⟨⟨wd_492, wd_495, wd_2, Or.inl ⟨rfl, wd_493, wd_494⟩, md_X0_isLost.1, md_X0_isLost.2.1, md_X0_isLost.2.2⟩, 
  List.forall_mem_cons.mpr ⟨⟨wd_496, wd_397, wd_2, Or.inl ⟨rfl, wd_395, wd_396⟩, md_X0_inchAt.1, md_X0_inchAt.2.1, md_X0_inchAt.2.2⟩, 
  List.forall_mem_cons.mpr ⟨⟨wd_502, wd_505, wd_2, Or.inl ⟨rfl, wd_503, wd_504⟩, md_X0_threadAnew.1, md_X0_threadAnew.2.1, md_X0_threadAnew.2.2⟩, 
  List.forall_mem_cons.mpr ⟨⟨wd_506, wd_509, wd_2, Or.inl ⟨rfl, wd_507, wd_508⟩, md_X0_secondsAnew.1, md_X0_secondsAnew.2.1, md_X0_secondsAnew.2.2⟩, 
  List.forall_mem_cons.mpr ⟨⟨wd_382, wd_385, wd_2, Or.inl ⟨rfl, wd_383, wd_384⟩, md_X0_washTimes.1, md_X0_washTimes.2.1, md_X0_washTimes.2.2⟩, 
  List.forall_mem_cons.mpr ⟨⟨wd_522, wd_525, wd_2, Or.inl ⟨rfl, wd_523, wd_524⟩, md_X0_lostEnds.1, md_X0_lostEnds.2.1, md_X0_lostEnds.2.2⟩, 
  List.forall_mem_cons.mpr ⟨⟨wd_535, wd_538, wd_3, Or.inl ⟨rfl, wd_536, wd_537⟩, md_X5_measure.1, md_X5_measure.2.1, md_X5_measure.2.2⟩, 
  List.forall_mem_cons.mpr ⟨⟨wd_550, wd_553, wd_1, Or.inl ⟨rfl, wd_552, sl_6⟩, md_X6_secondsIfLost.1, md_X6_secondsIfLost.2.1, md_X6_secondsIfLost.2.2⟩, 
  List.forall_mem_cons.mpr ⟨⟨wd_558, wd_561, wd_3, Or.inl ⟨rfl, wd_559, wd_560⟩, md_X5_secondsOfAll.1, md_X5_secondsOfAll.2.1, md_X5_secondsOfAll.2.2⟩, 
  List.forall_mem_cons.mpr ⟨⟨wd_319, wd_322, wd_2, Or.inl ⟨rfl, wd_320, wd_321⟩, md_X0_copyFrom.1, md_X0_copyFrom.2.1, md_X0_copyFrom.2.2⟩, 
  List.forall_mem_cons.mpr ⟨⟨wd_576, wd_579, wd_1, Or.inl ⟨rfl, wd_578, sl_7⟩, md_X6_washesTillLost.1, md_X6_washesTillLost.2.1, md_X6_washesTillLost.2.2⟩, 
  List.forall_mem_cons.mpr ⟨⟨wd_580, wd_389, wd_2, Or.inl ⟨rfl, wd_387, wd_388⟩, md_X0_washOnce.1, md_X0_washOnce.2.1, md_X0_washOnce.2.2⟩, 
  List.forall_mem_cons.mpr ⟨⟨wd_593, wd_567, wd_3, Or.inl ⟨rfl, wd_565, wd_566⟩, md_X5_isAWay.1, md_X5_isAWay.2.1, md_X5_isAWay.2.2⟩, fun _ h => absurd h List.not_mem_nil⟩⟩⟩⟩⟩⟩⟩⟩⟩⟩⟩⟩⟩⟩⟩⟩⟩⟩⟩⟩⟩⟩⟩⟩⟩⟩⟩⟩⟩⟩⟩⟩⟩⟩⟩⟩⟩⟩⟩⟩
set_option maxRecDepth 100000 in
theorem cal_ok2 : ∀ q ∈ CTB2, CalOK q := List.forall_mem_cons.mpr ⟨⟨wd_598, wd_601, wd_1, Or.inl ⟨rfl, wd_600, sl_8⟩, md_X6_secondsWithStop.1, md_X6_secondsWithStop.2.1, md_X6_secondsWithStop.2.2⟩, 
  List.forall_mem_cons.mpr ⟨⟨wd_602, wd_605, wd_4, Or.inl ⟨rfl, wd_603, wd_604⟩, md_X3_goOn.1, md_X3_goOn.2.1, md_X3_goOn.2.2⟩, 
  List.forall_mem_cons.mpr ⟨⟨wd_626, wd_629, wd_3, Or.inl ⟨rfl, wd_627, wd_628⟩, md_X5_rank.1, md_X5_rank.2.1, md_X5_rank.2.2⟩, 
  List.forall_mem_cons.mpr ⟨⟨wd_631, wd_634, wd_1, Or.inl ⟨rfl, wd_633, sl_10⟩, md_X6_rankWithCloth.1, md_X6_rankWithCloth.2.1, md_X6_rankWithCloth.2.2⟩, 
  List.forall_mem_cons.mpr ⟨⟨wd_642, wd_413, wd_2, Or.inl ⟨rfl, wd_411, wd_412⟩, md_X0_canDraw.1, md_X0_canDraw.2.1, md_X0_canDraw.2.2⟩, 
  List.forall_mem_cons.mpr ⟨⟨wd_655, wd_513, wd_2, Or.inl ⟨rfl, wd_511, wd_512⟩, md_X0_secondsAnewOf.1, md_X0_secondsAnewOf.2.1, md_X0_secondsAnewOf.2.2⟩, 
  List.forall_mem_cons.mpr ⟨⟨wd_660, wd_663, wd_1, Or.inl ⟨rfl, wd_662, sl_11⟩, md_X6_kindsByRow.1, md_X6_kindsByRow.2.1, md_X6_kindsByRow.2.2⟩, 
  List.forall_mem_cons.mpr ⟨⟨wd_670, wd_673, wd_1, Or.inl ⟨rfl, wd_672, sl_12⟩, md_X6_strengthsByRow.1, md_X6_strengthsByRow.2.1, md_X6_strengthsByRow.2.2⟩, 
  List.forall_mem_cons.mpr ⟨⟨wd_678, wd_681, wd_6, Or.inl ⟨rfl, wd_679, wd_680⟩, md_X4_isFull.1, md_X4_isFull.2.1, md_X4_isFull.2.2⟩, 
  List.forall_mem_cons.mpr ⟨⟨wd_682, wd_685, wd_6, Or.inl ⟨rfl, wd_683, wd_684⟩, md_X4_add.1, md_X4_add.2.1, md_X4_add.2.2⟩, 
  List.forall_mem_cons.mpr ⟨⟨wd_664, wd_667, wd_6, Or.inl ⟨rfl, wd_665, wd_666⟩, md_X4_firstNotSo.1, md_X4_firstNotSo.2.1, md_X4_firstNotSo.2.2⟩, 
  List.forall_mem_cons.mpr ⟨⟨wd_690, wd_693, wd_6, Or.inl ⟨rfl, wd_691, wd_692⟩, md_X4_clear.1, md_X4_clear.2.1, md_X4_clear.2.2⟩, 
  List.forall_mem_cons.mpr ⟨⟨wd_701, wd_704, wd_1, Or.inl ⟨rfl, wd_703, sl_13⟩, md_X6_lotSeconds.1, md_X6_lotSeconds.2.1, md_X6_lotSeconds.2.2⟩, 
  List.forall_mem_cons.mpr ⟨⟨wd_717, wd_720, wd_2, Or.inl ⟨rfl, wd_718, wd_719⟩, md_X0_seams.1, md_X0_seams.2.1, md_X0_seams.2.2⟩, 
  List.forall_mem_cons.mpr ⟨⟨wd_721, wd_724, wd_1, Or.inl ⟨rfl, wd_723, sl_14⟩, md_X6_refusalsAt.1, md_X6_refusalsAt.2.1, md_X6_refusalsAt.2.2⟩, 
  List.forall_mem_cons.mpr ⟨⟨wd_335, wd_338, wd_1, Or.inl ⟨rfl, wd_337, sl_2⟩, md_X6_isAsItMustBe.1, md_X6_isAsItMustBe.2.1, md_X6_isAsItMustBe.2.2⟩, 
  List.forall_mem_cons.mpr ⟨⟨wd_361, wd_364, wd_1, Or.inl ⟨rfl, wd_363, sl_3⟩, md_X6_comes.1, md_X6_comes.2.1, md_X6_comes.2.2⟩, 
  List.forall_mem_cons.mpr ⟨⟨wd_416, wd_419, wd_5, Or.inl ⟨rfl, wd_417, wd_418⟩, md_X2_lengthBehind.1, md_X2_lengthBehind.2.1, md_X2_lengthBehind.2.2⟩, 
  List.forall_mem_cons.mpr ⟨⟨wd_339, wd_187, wd_5, Or.inl ⟨rfl, wd_185, wd_186⟩, md_X2_signAt.1, md_X2_signAt.2.1, md_X2_signAt.2.2⟩, 
  List.forall_mem_cons.mpr ⟨⟨wd_340, wd_343, wd_5, Or.inl ⟨rfl, wd_341, wd_342⟩, md_X2_number.1, md_X2_number.2.1, md_X2_number.2.2⟩, 
  List.forall_mem_cons.mpr ⟨⟨wd_352, wd_347, wd_5, Or.inl ⟨rfl, wd_345, wd_346⟩, md_X2_digit.1, md_X2_digit.2.1, md_X2_digit.2.2⟩, 
  List.forall_mem_cons.mpr ⟨⟨wd_356, wd_359, wd_5, Or.inl ⟨rfl, wd_357, wd_358⟩, md_X2_signed.1, md_X2_signed.2.1, md_X2_signed.2.2⟩, 
  List.forall_mem_cons.mpr ⟨⟨wd_365, wd_367, wd_12, Or.inr ⟨rfl, wd_366⟩, md_X1_ofSign.1, md_X1_ofSign.2.1, md_X1_ofSign.2.2⟩, 
  List.forall_mem_cons.mpr ⟨⟨wd_784, wd_787, wd_7, Or.inl ⟨rfl, wd_786, sl_15⟩, md_X7_no.1, md_X7_no.2.1, md_X7_no.2.2⟩, 
  List.forall_mem_cons.mpr ⟨⟨wd_804, wd_806, wd_7, Or.inr ⟨rfl, wd_805⟩, md_X7_isIn.1, md_X7_isIn.2.1, md_X7_isIn.2.2⟩, 
  List.forall_mem_cons.mpr ⟨⟨wd_847, wd_849, wd_7, Or.inr ⟨rfl, wd_848⟩, md_X7_kindOf.1, md_X7_kindOf.2.1, md_X7_kindOf.2.2⟩, 
  List.forall_mem_cons.mpr ⟨⟨wd_850, wd_852, wd_7, Or.inr ⟨rfl, wd_851⟩, md_X7_isSeam.1, md_X7_isSeam.2.1, md_X7_isSeam.2.2⟩, 
  List.forall_mem_cons.mpr ⟨⟨wd_866, wd_868, wd_7, Or.inr ⟨rfl, wd_867⟩, md_X7_figureOf.1, md_X7_figureOf.2.1, md_X7_figureOf.2.2⟩, 
  List.forall_mem_cons.mpr ⟨⟨wd_841, wd_843, wd_7, Or.inr ⟨rfl, wd_842⟩, md_X7_least.1, md_X7_least.2.1, md_X7_least.2.2⟩, 
  List.forall_mem_cons.mpr ⟨⟨wd_859, wd_861, wd_7, Or.inr ⟨rfl, wd_860⟩, md_X7_most.1, md_X7_most.2.1, md_X7_most.2.2⟩, 
  List.forall_mem_cons.mpr ⟨⟨wd_856, wd_858, wd_7, Or.inr ⟨rfl, wd_857⟩, md_X7_canPull.1, md_X7_canPull.2.1, md_X7_canPull.2.2⟩, 
  List.forall_mem_cons.mpr ⟨⟨wd_838, wd_840, wd_7, Or.inr ⟨rfl, wd_839⟩, md_X7_inchOf.1, md_X7_inchOf.2.1, md_X7_inchOf.2.2⟩, 
  List.forall_mem_cons.mpr ⟨⟨wd_844, wd_846, wd_7, Or.inr ⟨rfl, wd_845⟩, md_X7_drawsAt.1, md_X7_drawsAt.2.1, md_X7_drawsAt.2.2⟩, 
  List.forall_mem_cons.mpr ⟨⟨wd_853, wd_855, wd_7, Or.inr ⟨rfl, wd_854⟩, md_X7_pulls.1, md_X7_pulls.2.1, md_X7_pulls.2.2⟩, 
  List.forall_mem_cons.mpr ⟨⟨wd_835, wd_837, wd_7, Or.inr ⟨rfl, wd_836⟩, md_X7_washes.1, md_X7_washes.2.1, md_X7_washes.2.2⟩, 
  List.forall_mem_cons.mpr ⟨⟨wd_869, wd_871, wd_7, Or.inr ⟨rfl, wd_870⟩, md_X7_movesAt.1, md_X7_movesAt.2.1, md_X7_movesAt.2.2⟩, 
  List.forall_mem_cons.mpr ⟨⟨wd_931, wd_933, wd_7, Or.inr ⟨rfl, wd_932⟩, md_X7_threadBy.1, md_X7_threadBy.2.1, md_X7_threadBy.2.2⟩, 
  List.forall_mem_cons.mpr ⟨⟨wd_875, wd_877, wd_7, Or.inr ⟨rfl, wd_876⟩, md_X7_threadAt.1, md_X7_threadAt.2.1, md_X7_threadAt.2.2⟩, 
  List.forall_mem_cons.mpr ⟨⟨wd_915, wd_917, wd_7, Or.inr ⟨rfl, wd_916⟩, md_X7_isLost.1, md_X7_isLost.2.1, md_X7_isLost.2.2⟩, 
  List.forall_mem_cons.mpr ⟨⟨wd_872, wd_874, wd_7, Or.inr ⟨rfl, wd_873⟩, md_X7_bunchAt.1, md_X7_bunchAt.2.1, md_X7_bunchAt.2.2⟩, fun _ h => absurd h List.not_mem_nil⟩⟩⟩⟩⟩⟩⟩⟩⟩⟩⟩⟩⟩⟩⟩⟩⟩⟩⟩⟩⟩⟩⟩⟩⟩⟩⟩⟩⟩⟩⟩⟩⟩⟩⟩⟩⟩⟩⟩⟩
set_option maxRecDepth 100000 in
theorem cal_ok3 : ∀ q ∈ CTB3, CalOK q := List.forall_mem_cons.mpr ⟨⟨wd_918, wd_920, wd_7, Or.inr ⟨rfl, wd_919⟩, md_X7_bunches.1, md_X7_bunches.2.1, md_X7_bunches.2.2⟩, 
  List.forall_mem_cons.mpr ⟨⟨wd_949, wd_952, wd_7, Or.inl ⟨rfl, wd_951, sl_24⟩, md_X7_outSeconds.1, md_X7_outSeconds.2.1, md_X7_outSeconds.2.2⟩, 
  List.forall_mem_cons.mpr ⟨⟨wd_796, wd_799, wd_7, Or.inl ⟨rfl, wd_798, sl_17⟩, md_X7_here.1, md_X7_here.2.1, md_X7_here.2.2⟩, 
  List.forall_mem_cons.mpr ⟨⟨wd_811, wd_813, wd_7, Or.inr ⟨rfl, wd_812⟩, md_X7_kindBy.1, md_X7_kindBy.2.1, md_X7_kindBy.2.2⟩, 
  List.forall_mem_cons.mpr ⟨⟨wd_800, wd_803, wd_7, Or.inl ⟨rfl, wd_802, sl_18⟩, md_X7_readsNumber.1, md_X7_readsNumber.2.1, md_X7_readsNumber.2.2⟩, 
  List.forall_mem_cons.mpr ⟨⟨wd_807, wd_810, wd_7, Or.inl ⟨rfl, wd_809, sl_19⟩, md_X7_readsKind.1, md_X7_readsKind.2.1, md_X7_readsKind.2.2⟩, 
  List.forall_mem_cons.mpr ⟨⟨wd_814, wd_817, wd_7, Or.inl ⟨rfl, wd_816, sl_20⟩, md_X7_readsSigned.1, md_X7_readsSigned.2.1, md_X7_readsSigned.2.2⟩, 
  List.forall_mem_cons.mpr ⟨⟨wd_825, wd_828, wd_7, Or.inl ⟨rfl, wd_827, sl_22⟩, md_X7_isInch.1, md_X7_isInch.2.1, md_X7_isInch.2.2⟩, 
  List.forall_mem_cons.mpr ⟨⟨wd_829, wd_831, wd_7, Or.inr ⟨rfl, wd_830⟩, md_X7_isEnd.1, md_X7_isEnd.2.1, md_X7_isEnd.2.2⟩, 
  List.forall_mem_cons.mpr ⟨⟨wd_832, wd_834, wd_7, Or.inr ⟨rfl, wd_833⟩, md_X7_washesOn.1, md_X7_washesOn.2.1, md_X7_washesOn.2.2⟩, 
  List.forall_mem_cons.mpr ⟨⟨wd_792, wd_795, wd_7, Or.inl ⟨rfl, wd_794, sl_16⟩, md_X7_readsStatement.1, md_X7_readsStatement.2.1, md_X7_readsStatement.2.2⟩, 
  List.forall_mem_cons.mpr ⟨⟨wd_818, wd_820, wd_7, Or.inr ⟨rfl, wd_819⟩, md_X7_lays.1, md_X7_lays.2.1, md_X7_lays.2.2⟩, 
  List.forall_mem_cons.mpr ⟨⟨wd_821, wd_824, wd_7, Or.inl ⟨rfl, wd_823, sl_21⟩, md_X7_isDone.1, md_X7_isDone.2.1, md_X7_isDone.2.2⟩, 
  List.forall_mem_cons.mpr ⟨⟨wd_890, wd_893, wd_7, Or.inl ⟨rfl, wd_892, sl_23⟩, md_X7_noFar.1, md_X7_noFar.2.1, md_X7_noFar.2.2⟩, 
  List.forall_mem_cons.mpr ⟨⟨wd_925, wd_927, wd_7, Or.inr ⟨rfl, wd_926⟩, md_X7_threads.1, md_X7_threads.2.1, md_X7_threads.2.2⟩, 
  List.forall_mem_cons.mpr ⟨⟨wd_928, wd_930, wd_7, Or.inr ⟨rfl, wd_929⟩, md_X7_anewSeconds.1, md_X7_anewSeconds.2.1, md_X7_anewSeconds.2.2⟩, 
  List.forall_mem_cons.mpr ⟨⟨wd_938, wd_940, wd_7, Or.inr ⟨rfl, wd_939⟩, md_X7_lostMany.1, md_X7_lostMany.2.1, md_X7_lostMany.2.2⟩, 
  List.forall_mem_cons.mpr ⟨⟨wd_953, wd_956, wd_7, Or.inl ⟨rfl, wd_955, sl_25⟩, md_X7_costliest.1, md_X7_costliest.2.1, md_X7_costliest.2.2⟩, 
  List.forall_mem_cons.mpr ⟨⟨wd_965, wd_968, wd_7, Or.inl ⟨rfl, wd_967, sl_26⟩, md_X7_allSeconds.1, md_X7_allSeconds.2.1, md_X7_allSeconds.2.2⟩, 
  List.forall_mem_cons.mpr ⟨⟨wd_973, wd_975, wd_7, Or.inr ⟨rfl, wd_974⟩, md_X7_wrongWashes.1, md_X7_wrongWashes.2.1, md_X7_wrongWashes.2.2⟩, 
  List.forall_mem_cons.mpr ⟨⟨wd_988, wd_990, wd_7, Or.inr ⟨rfl, wd_989⟩, md_X7_wrongSeconds.1, md_X7_wrongSeconds.2.1, md_X7_wrongSeconds.2.2⟩, 
  List.forall_mem_cons.mpr ⟨⟨wd_999, wd_1002, wd_7, Or.inl ⟨rfl, wd_1001, sl_27⟩, md_X7_mended.1, md_X7_mended.2.1, md_X7_mended.2.2⟩, 
  List.forall_mem_cons.mpr ⟨⟨wd_1035, wd_1038, wd_7, Or.inl ⟨rfl, wd_1037, sl_28⟩, md_X7_firstWrong.1, md_X7_firstWrong.2.1, md_X7_firstWrong.2.2⟩, 
  List.forall_mem_cons.mpr ⟨⟨wd_1047, wd_1050, wd_7, Or.inl ⟨rfl, wd_1049, sl_29⟩, md_X7_drawn.1, md_X7_drawn.2.1, md_X7_drawn.2.2⟩, 
  List.forall_mem_cons.mpr ⟨⟨wd_256, wd_259, wd_8, Or.inl ⟨rfl, wd_257, wd_258⟩, md_J0_indexOf_0f7a4.1, md_J0_indexOf_0f7a4.2.1, md_J0_indexOf_0f7a4.2.2⟩, 
  List.forall_mem_cons.mpr ⟨⟨wd_205, wd_208, wd_8, Or.inl ⟨rfl, wd_206, wd_207⟩, md_J0_coder_7d493.1, md_J0_coder_7d493.2.1, md_J0_coder_7d493.2.2⟩, 
  List.forall_mem_cons.mpr ⟨⟨wd_215, wd_218, wd_8, Or.inl ⟨rfl, wd_216, wd_217⟩, md_J0_isLatin1_aae02.1, md_J0_isLatin1_aae02.2.1, md_J0_isLatin1_aae02.2.2⟩, 
  List.forall_mem_cons.mpr ⟨⟨wd_219, wd_221, wd_9, Or.inr ⟨rfl, wd_220⟩, md_J1_charAt_3b067.1, md_J1_charAt_3b067.2.1, md_J1_charAt_3b067.2.2⟩, 
  List.forall_mem_cons.mpr ⟨⟨wd_264, wd_204, wd_8, Or.inl ⟨rfl, wd_202, wd_203⟩, md_J0_length_8abf5.1, md_J0_length_8abf5.2.1, md_J0_length_8abf5.2.2⟩, 
  List.forall_mem_cons.mpr ⟨⟨wd_260, wd_263, wd_8, Or.inl ⟨rfl, wd_261, wd_262⟩, md_J0_indexOf_7cf53.1, md_J0_indexOf_7cf53.2.1, md_J0_indexOf_7cf53.2.2⟩, 
  List.forall_mem_cons.mpr ⟨⟨wd_265, wd_267, wd_9, Or.inr ⟨rfl, wd_266⟩, md_J1_indexOf_4cfef.1, md_J1_indexOf_4cfef.2.1, md_J1_indexOf_4cfef.2.2⟩, 
  List.forall_mem_cons.mpr ⟨⟨wd_227, wd_229, wd_10, Or.inr ⟨rfl, wd_228⟩, md_J3_checkIndex_8e157.1, md_J3_checkIndex_8e157.2.1, md_J3_checkIndex_8e157.2.2⟩, 
  List.forall_mem_cons.mpr ⟨⟨wd_222, wd_224, wd_8, Or.inr ⟨rfl, wd_223⟩, md_J0_checkIndex_df160.1, md_J0_checkIndex_df160.2.1, md_J0_checkIndex_df160.2.2⟩, 
  List.forall_mem_cons.mpr ⟨⟨wd_268, wd_270, wd_9, Or.inr ⟨rfl, wd_269⟩, md_J1_canEncode_9a6ad.1, md_J1_canEncode_9a6ad.2.1, md_J1_canEncode_9a6ad.2.2⟩, 
  List.forall_mem_cons.mpr ⟨⟨wd_277, wd_279, wd_9, Or.inr ⟨rfl, wd_278⟩, md_J1_indexOfChar_4cfef.1, md_J1_indexOfChar_4cfef.2.1, md_J1_indexOfChar_4cfef.2.2⟩, 
  List.forall_mem_cons.mpr ⟨⟨wd_157, wd_160, wd_1, Or.inl ⟨rfl, wd_158, wd_159⟩, md_X6_letter.1, md_X6_letter.2.1, md_X6_letter.2.2⟩, 
  List.forall_mem_cons.mpr ⟨⟨wd_780, wd_783, wd_7, Or.inl ⟨rfl, wd_781, wd_782⟩, md_X7_letter.1, md_X7_letter.2.1, md_X7_letter.2.2⟩, 
  List.forall_mem_cons.mpr ⟨⟨wd_176, wd_179, wd_1, Or.inl ⟨rfl, wd_177, wd_178⟩, md_X6_hem.1, md_X6_hem.2.1, md_X6_hem.2.2⟩, 
  List.forall_mem_cons.mpr ⟨⟨wd_788, wd_791, wd_7, Or.inl ⟨rfl, wd_789, wd_790⟩, md_X7_hem.1, md_X7_hem.2.1, md_X7_hem.2.2⟩, 
  List.forall_mem_cons.mpr ⟨⟨wd_425, wd_428, wd_1, Or.inl ⟨rfl, wd_426, wd_427⟩, md_X6_inch.1, md_X6_inch.2.1, md_X6_inch.2.2⟩, fun _ h => absurd h List.not_mem_nil⟩⟩⟩⟩⟩⟩⟩⟩⟩⟩⟩⟩⟩⟩⟩⟩⟩⟩⟩⟩⟩⟩⟩⟩⟩⟩⟩⟩⟩⟩⟩⟩⟩⟩⟩⟩⟩⟩⟩⟩
set_option maxRecDepth 100000 in
theorem cal_ok4 : ∀ q ∈ CTB4, CalOK q := List.forall_mem_cons.mpr ⟨⟨wd_862, wd_865, wd_7, Or.inl ⟨rfl, wd_863, wd_864⟩, md_X7_inch.1, md_X7_inch.2.1, md_X7_inch.2.2⟩, 
  List.forall_mem_cons.mpr ⟨⟨wd_453, wd_456, wd_1, Or.inl ⟨rfl, wd_454, wd_455⟩, md_X6_turn.1, md_X6_turn.2.1, md_X6_turn.2.2⟩, 
  List.forall_mem_cons.mpr ⟨⟨wd_878, wd_881, wd_7, Or.inl ⟨rfl, wd_879, wd_880⟩, md_X7_turn.1, md_X7_turn.2.1, md_X7_turn.2.2⟩, 
  List.forall_mem_cons.mpr ⟨⟨wd_457, wd_460, wd_1, Or.inl ⟨rfl, wd_458, wd_459⟩, md_X6_inches.1, md_X6_inches.2.1, md_X6_inches.2.2⟩, 
  List.forall_mem_cons.mpr ⟨⟨wd_882, wd_885, wd_7, Or.inl ⟨rfl, wd_883, wd_884⟩, md_X7_inches.1, md_X7_inches.2.1, md_X7_inches.2.2⟩, 
  List.forall_mem_cons.mpr ⟨⟨wd_461, wd_464, wd_1, Or.inl ⟨rfl, wd_462, wd_463⟩, md_X6_end.1, md_X6_end.2.1, md_X6_end.2.2⟩, 
  List.forall_mem_cons.mpr ⟨⟨wd_886, wd_889, wd_7, Or.inl ⟨rfl, wd_887, wd_888⟩, md_X7_end.1, md_X7_end.2.1, md_X7_end.2.2⟩, 
  List.forall_mem_cons.mpr ⟨⟨wd_471, wd_474, wd_1, Or.inl ⟨rfl, wd_472, wd_473⟩, md_X6_tie.1, md_X6_tie.2.1, md_X6_tie.2.2⟩, 
  List.forall_mem_cons.mpr ⟨⟨wd_895, wd_898, wd_7, Or.inl ⟨rfl, wd_896, wd_897⟩, md_X7_tie.1, md_X7_tie.2.1, md_X7_tie.2.2⟩, 
  List.forall_mem_cons.mpr ⟨⟨wd_475, wd_478, wd_1, Or.inl ⟨rfl, wd_476, wd_477⟩, md_X6_sew.1, md_X6_sew.2.1, md_X6_sew.2.2⟩, 
  List.forall_mem_cons.mpr ⟨⟨wd_899, wd_902, wd_7, Or.inl ⟨rfl, wd_900, wd_901⟩, md_X7_sew.1, md_X7_sew.2.1, md_X7_sew.2.2⟩, 
  List.forall_mem_cons.mpr ⟨⟨wd_479, wd_482, wd_1, Or.inl ⟨rfl, wd_480, wd_481⟩, md_X6_set.1, md_X6_set.2.1, md_X6_set.2.2⟩, 
  List.forall_mem_cons.mpr ⟨⟨wd_903, wd_906, wd_7, Or.inl ⟨rfl, wd_904, wd_905⟩, md_X7_set.1, md_X7_set.2.1, md_X7_set.2.2⟩, 
  List.forall_mem_cons.mpr ⟨⟨wd_483, wd_486, wd_1, Or.inl ⟨rfl, wd_484, wd_485⟩, md_X6_pull.1, md_X6_pull.2.1, md_X6_pull.2.2⟩, 
  List.forall_mem_cons.mpr ⟨⟨wd_907, wd_910, wd_7, Or.inl ⟨rfl, wd_908, wd_909⟩, md_X7_pull.1, md_X7_pull.2.1, md_X7_pull.2.2⟩, 
  List.forall_mem_cons.mpr ⟨⟨wd_488, wd_491, wd_1, Or.inl ⟨rfl, wd_489, wd_490⟩, md_X6_bunch.1, md_X6_bunch.2.1, md_X6_bunch.2.2⟩, 
  List.forall_mem_cons.mpr ⟨⟨wd_911, wd_914, wd_7, Or.inl ⟨rfl, wd_912, wd_913⟩, md_X7_bunch.1, md_X7_bunch.2.1, md_X7_bunch.2.2⟩, 
  List.forall_mem_cons.mpr ⟨⟨wd_498, wd_501, wd_1, Or.inl ⟨rfl, wd_499, wd_500⟩, md_X6_anew.1, md_X6_anew.2.1, md_X6_anew.2.2⟩, 
  List.forall_mem_cons.mpr ⟨⟨wd_921, wd_924, wd_7, Or.inl ⟨rfl, wd_922, wd_923⟩, md_X7_anew.1, md_X7_anew.2.1, md_X7_anew.2.2⟩, 
  List.forall_mem_cons.mpr ⟨⟨wd_518, wd_521, wd_1, Or.inl ⟨rfl, wd_519, wd_520⟩, md_X6_wash.1, md_X6_wash.2.1, md_X6_wash.2.2⟩, 
  List.forall_mem_cons.mpr ⟨⟨wd_934, wd_937, wd_7, Or.inl ⟨rfl, wd_935, wd_936⟩, md_X7_wash.1, md_X7_wash.2.1, md_X7_wash.2.2⟩, 
  List.forall_mem_cons.mpr ⟨⟨wd_527, wd_530, wd_1, Or.inl ⟨rfl, wd_528, wd_529⟩, md_X6_of.1, md_X6_of.2.1, md_X6_of.2.2⟩, 
  List.forall_mem_cons.mpr ⟨⟨wd_941, wd_944, wd_7, Or.inl ⟨rfl, wd_942, wd_943⟩, md_X7_of.1, md_X7_of.2.1, md_X7_of.2.2⟩, 
  List.forall_mem_cons.mpr ⟨⟨wd_531, wd_534, wd_1, Or.inl ⟨rfl, wd_532, wd_533⟩, md_X6_out.1, md_X6_out.2.1, md_X6_out.2.2⟩, 
  List.forall_mem_cons.mpr ⟨⟨wd_945, wd_948, wd_7, Or.inl ⟨rfl, wd_946, wd_947⟩, md_X7_out.1, md_X7_out.2.1, md_X7_out.2.2⟩, 
  List.forall_mem_cons.mpr ⟨⟨wd_546, wd_549, wd_1, Or.inl ⟨rfl, wd_547, wd_548⟩, md_X6_soonest.1, md_X6_soonest.2.1, md_X6_soonest.2.2⟩, 
  List.forall_mem_cons.mpr ⟨⟨wd_957, wd_960, wd_7, Or.inl ⟨rfl, wd_958, wd_959⟩, md_X7_soonest.1, md_X7_soonest.2.1, md_X7_soonest.2.2⟩, 
  List.forall_mem_cons.mpr ⟨⟨wd_554, wd_557, wd_1, Or.inl ⟨rfl, wd_555, wd_556⟩, md_X6_better.1, md_X6_better.2.1, md_X6_better.2.2⟩, 
  List.forall_mem_cons.mpr ⟨⟨wd_961, wd_964, wd_7, Or.inl ⟨rfl, wd_962, wd_963⟩, md_X7_better.1, md_X7_better.2.1, md_X7_better.2.2⟩, 
  List.forall_mem_cons.mpr ⟨⟨wd_568, wd_571, wd_1, Or.inl ⟨rfl, wd_569, wd_570⟩, md_X6_inIn.1, md_X6_inIn.2.1, md_X6_inIn.2.2⟩, 
  List.forall_mem_cons.mpr ⟨⟨wd_969, wd_972, wd_7, Or.inl ⟨rfl, wd_970, wd_971⟩, md_X7_inIn.1, md_X7_inIn.2.1, md_X7_inIn.2.2⟩, 
  List.forall_mem_cons.mpr ⟨⟨wd_572, wd_575, wd_1, Or.inl ⟨rfl, wd_573, wd_574⟩, md_X6_lost.1, md_X6_lost.2.1, md_X6_lost.2.2⟩, 
  List.forall_mem_cons.mpr ⟨⟨wd_976, wd_979, wd_7, Or.inl ⟨rfl, wd_977, wd_978⟩, md_X7_lost.1, md_X7_lost.2.1, md_X7_lost.2.2⟩, 
  List.forall_mem_cons.mpr ⟨⟨wd_581, wd_584, wd_1, Or.inl ⟨rfl, wd_582, wd_583⟩, md_X6_still.1, md_X6_still.2.1, md_X6_still.2.2⟩, 
  List.forall_mem_cons.mpr ⟨⟨wd_980, wd_983, wd_7, Or.inl ⟨rfl, wd_981, wd_982⟩, md_X7_still.1, md_X7_still.2.1, md_X7_still.2.2⟩, 
  List.forall_mem_cons.mpr ⟨⟨wd_585, wd_588, wd_1, Or.inl ⟨rfl, wd_586, wd_587⟩, md_X6_keep.1, md_X6_keep.2.1, md_X6_keep.2.2⟩, 
  List.forall_mem_cons.mpr ⟨⟨wd_984, wd_987, wd_7, Or.inl ⟨rfl, wd_985, wd_986⟩, md_X7_keep.1, md_X7_keep.2.1, md_X7_keep.2.2⟩, 
  List.forall_mem_cons.mpr ⟨⟨wd_589, wd_592, wd_1, Or.inl ⟨rfl, wd_590, wd_591⟩, md_X6_deep.1, md_X6_deep.2.1, md_X6_deep.2.2⟩, 
  List.forall_mem_cons.mpr ⟨⟨wd_991, wd_994, wd_7, Or.inl ⟨rfl, wd_992, wd_993⟩, md_X7_deep.1, md_X7_deep.2.1, md_X7_deep.2.2⟩, 
  List.forall_mem_cons.mpr ⟨⟨wd_594, wd_597, wd_1, Or.inl ⟨rfl, wd_595, wd_596⟩, md_X6_stops.1, md_X6_stops.2.1, md_X6_stops.2.2⟩, fun _ h => absurd h List.not_mem_nil⟩⟩⟩⟩⟩⟩⟩⟩⟩⟩⟩⟩⟩⟩⟩⟩⟩⟩⟩⟩⟩⟩⟩⟩⟩⟩⟩⟩⟩⟩⟩⟩⟩⟩⟩⟩⟩⟩⟩⟩
set_option maxRecDepth 100000 in
theorem cal_ok5 : ∀ q ∈ CTB5, CalOK q := List.forall_mem_cons.mpr ⟨⟨wd_995, wd_998, wd_7, Or.inl ⟨rfl, wd_996, wd_997⟩, md_X7_stops.1, md_X7_stops.2.1, md_X7_stops.2.2⟩, 
  List.forall_mem_cons.mpr ⟨⟨wd_618, wd_621, wd_1, Or.inl ⟨rfl, wd_619, wd_620⟩, md_X6_care.1, md_X6_care.2.1, md_X6_care.2.2⟩, 
  List.forall_mem_cons.mpr ⟨⟨wd_1003, wd_1006, wd_7, Or.inl ⟨rfl, wd_1004, wd_1005⟩, md_X7_care.1, md_X7_care.2.1, md_X7_care.2.2⟩, 
  List.forall_mem_cons.mpr ⟨⟨wd_622, wd_625, wd_1, Or.inl ⟨rfl, wd_623, wd_624⟩, md_X6_holdsUp.1, md_X6_holdsUp.2.1, md_X6_holdsUp.2.2⟩, 
  List.forall_mem_cons.mpr ⟨⟨wd_1007, wd_1010, wd_7, Or.inl ⟨rfl, wd_1008, wd_1009⟩, md_X7_holdsUp.1, md_X7_holdsUp.2.1, md_X7_holdsUp.2.2⟩, 
  List.forall_mem_cons.mpr ⟨⟨wd_635, wd_638, wd_1, Or.inl ⟨rfl, wd_636, wd_637⟩, md_X6_middle.1, md_X6_middle.2.1, md_X6_middle.2.2⟩, 
  List.forall_mem_cons.mpr ⟨⟨wd_1011, wd_1014, wd_7, Or.inl ⟨rfl, wd_1012, wd_1013⟩, md_X7_middle.1, md_X7_middle.2.1, md_X7_middle.2.2⟩, 
  List.forall_mem_cons.mpr ⟨⟨wd_643, wd_646, wd_1, Or.inl ⟨rfl, wd_644, wd_645⟩, md_X6_cutOff.1, md_X6_cutOff.2.1, md_X6_cutOff.2.2⟩, 
  List.forall_mem_cons.mpr ⟨⟨wd_1015, wd_1018, wd_7, Or.inl ⟨rfl, wd_1016, wd_1017⟩, md_X7_cutOff.1, md_X7_cutOff.2.1, md_X7_cutOff.2.2⟩, 
  List.forall_mem_cons.mpr ⟨⟨wd_647, wd_650, wd_1, Or.inl ⟨rfl, wd_648, wd_649⟩, md_X6_bestPin.1, md_X6_bestPin.2.1, md_X6_bestPin.2.2⟩, 
  List.forall_mem_cons.mpr ⟨⟨wd_1019, wd_1022, wd_7, Or.inl ⟨rfl, wd_1020, wd_1021⟩, md_X7_bestPin.1, md_X7_bestPin.2.1, md_X7_bestPin.2.2⟩, 
  List.forall_mem_cons.mpr ⟨⟨wd_651, wd_654, wd_1, Or.inl ⟨rfl, wd_652, wd_653⟩, md_X6_worst.1, md_X6_worst.2.1, md_X6_worst.2.2⟩, 
  List.forall_mem_cons.mpr ⟨⟨wd_1023, wd_1026, wd_7, Or.inl ⟨rfl, wd_1024, wd_1025⟩, md_X7_worst.1, md_X7_worst.2.1, md_X7_worst.2.2⟩, 
  List.forall_mem_cons.mpr ⟨⟨wd_656, wd_659, wd_1, Or.inl ⟨rfl, wd_657, wd_658⟩, md_X6_which.1, md_X6_which.2.1, md_X6_which.2.2⟩, 
  List.forall_mem_cons.mpr ⟨⟨wd_1031, wd_1034, wd_7, Or.inl ⟨rfl, wd_1032, wd_1033⟩, md_X7_which.1, md_X7_which.2.1, md_X7_which.2.2⟩, 
  List.forall_mem_cons.mpr ⟨⟨wd_674, wd_677, wd_1, Or.inl ⟨rfl, wd_675, wd_676⟩, md_X6_row.1, md_X6_row.2.1, md_X6_row.2.2⟩, 
  List.forall_mem_cons.mpr ⟨⟨wd_1027, wd_1030, wd_7, Or.inl ⟨rfl, wd_1028, wd_1029⟩, md_X7_row.1, md_X7_row.2.1, md_X7_row.2.2⟩, 
  List.forall_mem_cons.mpr ⟨⟨wd_686, wd_689, wd_1, Or.inl ⟨rfl, wd_687, wd_688⟩, md_X6_judge.1, md_X6_judge.2.1, md_X6_judge.2.2⟩, 
  List.forall_mem_cons.mpr ⟨⟨wd_1039, wd_1042, wd_7, Or.inl ⟨rfl, wd_1040, wd_1041⟩, md_X7_judge.1, md_X7_judge.2.1, md_X7_judge.2.2⟩, 
  List.forall_mem_cons.mpr ⟨⟨wd_694, wd_697, wd_1, Or.inl ⟨rfl, wd_695, wd_696⟩, md_X6_lots.1, md_X6_lots.2.1, md_X6_lots.2.2⟩, 
  List.forall_mem_cons.mpr ⟨⟨wd_1043, wd_1046, wd_7, Or.inl ⟨rfl, wd_1044, wd_1045⟩, md_X7_lots.1, md_X7_lots.2.1, md_X7_lots.2.2⟩, 
  List.forall_mem_cons.mpr ⟨⟨wd_705, wd_708, wd_1, Or.inl ⟨rfl, wd_706, wd_707⟩, md_X6_image.1, md_X6_image.2.1, md_X6_image.2.2⟩, 
  List.forall_mem_cons.mpr ⟨⟨wd_1054, wd_1057, wd_7, Or.inl ⟨rfl, wd_1055, wd_1056⟩, md_X7_image.1, md_X7_image.2.1, md_X7_image.2.2⟩, 
  List.forall_mem_cons.mpr ⟨⟨wd_709, wd_712, wd_1, Or.inl ⟨rfl, wd_710, wd_711⟩, md_X6_on.1, md_X6_on.2.1, md_X6_on.2.2⟩, 
  List.forall_mem_cons.mpr ⟨⟨wd_1058, wd_1061, wd_7, Or.inl ⟨rfl, wd_1059, wd_1060⟩, md_X7_on.1, md_X7_on.2.1, md_X7_on.2.2⟩, 
  List.forall_mem_cons.mpr ⟨⟨wd_713, wd_716, wd_1, Or.inl ⟨rfl, wd_714, wd_715⟩, md_X6_count.1, md_X6_count.2.1, md_X6_count.2.2⟩, 
  List.forall_mem_cons.mpr ⟨⟨wd_1062, wd_1065, wd_7, Or.inl ⟨rfl, wd_1063, wd_1064⟩, md_X7_count.1, md_X7_count.2.1, md_X7_count.2.2⟩, fun _ h => absurd h List.not_mem_nil⟩⟩⟩⟩⟩⟩⟩⟩⟩⟩⟩⟩⟩⟩⟩⟩⟩⟩⟩⟩⟩⟩⟩⟩⟩⟩⟩
set_option maxRecDepth 100000 in
theorem cal_ok : ∀ q ∈ CTB, CalOK q := by
  show ∀ q ∈ CTB0 ++ (CTB1 ++ (CTB2 ++ (CTB3 ++ (CTB4 ++ (CTB5))))), CalOK q
  exact List.forall_mem_append.mpr ⟨cal_ok0, List.forall_mem_append.mpr ⟨cal_ok1, List.forall_mem_append.mpr ⟨cal_ok2, List.forall_mem_append.mpr ⟨cal_ok3, List.forall_mem_append.mpr ⟨cal_ok4, cal_ok5⟩⟩⟩⟩⟩
/-- Math.max 0, min 1, abs 2: own class, pool entry, which -/
def mthN : Nat → MethodName
  | 0 => Lib.Math.max.name
  | 1 => Lib.Math.min.name
  | _ => Lib.Math.abs.name
def MTB : List (Nat × Nat × Nat) := [(0, 85, 1), (0, 90, 0), (5, 158, 0), (5, 224, 2), (7, 17, 0), (11, 38, 1), (11, 92, 0)]
set_option maxRecDepth 100000 in
theorem mth_ok : ∀ q ∈ MTB, Cond.methodLink (cn q.1) q.2.1 (mthN q.2.2) ∈ TBg := List.forall_mem_cons.mpr ⟨wd_398, List.forall_mem_cons.mpr ⟨wd_414, List.forall_mem_cons.mpr ⟨wd_497, List.forall_mem_cons.mpr ⟨wd_639, List.forall_mem_cons.mpr ⟨wd_368, List.forall_mem_cons.mpr ⟨wd_274, List.forall_mem_cons.mpr ⟨wd_271, fun _ h => absurd h List.not_mem_nil⟩⟩⟩⟩⟩⟩⟩
set_option maxRecDepth 100000 in
theorem wm_max : Cond.code Lib.Math.max.name Lib.Math.max.code 2 (some .int) ∈ TBg := tb_2 33 (by decide +kernel) rfl
set_option maxRecDepth 100000 in
theorem ws_max : Cond.static Lib.Math.max.name ∈ TBg := wd_272
set_option maxRecDepth 100000 in
theorem wm_min : Cond.code Lib.Math.min.name Lib.Math.min.code 2 (some .int) ∈ TBg := tb_2 36 (by decide +kernel) rfl
set_option maxRecDepth 100000 in
theorem ws_min : Cond.static Lib.Math.min.name ∈ TBg := wd_275
set_option maxRecDepth 100000 in
theorem wm_abs : Cond.code Lib.Math.abs.name Lib.Math.abs.code 1 (some .int) ∈ TBg := tb_3 161 (by decide +kernel) rfl
set_option maxRecDepth 100000 in
theorem ws_abs : Cond.static Lib.Math.abs.name ∈ TBg := wd_640
set_option maxRecDepth 100000 in
theorem wi_Math : Cond.initialized "java/lang/Math" ∈ TBg := wd_13
set_option maxRecDepth 100000 in
theorem cw_X0 : ∀ w ∈ u_ws RX0 TX0 10, w ∈ TBg := by decide +kernel
set_option maxRecDepth 100000 in
theorem cw_X2 : ∀ w ∈ u_ws RX2 TX2 2, w ∈ TBg := by decide +kernel
set_option maxRecDepth 100000 in
theorem cw_X3 : ∀ w ∈ u_ws RX3 TX3 2, w ∈ TBg := by decide +kernel
set_option maxRecDepth 100000 in
theorem cw_X4 : ∀ w ∈ u_ws RX4 TX4 2, w ∈ TBg := by decide +kernel
set_option maxRecDepth 100000 in
theorem cw_X5 : ∀ w ∈ u_ws RX5 TX5 3, w ∈ TBg := by decide +kernel
set_option maxRecDepth 100000 in
theorem cw_X6 : ∀ w ∈ u_ws RX6 TX6 9, w ∈ TBg := by decide +kernel
set_option maxRecDepth 100000 in
theorem cw_X7 : ∀ w ∈ u_ws RX7 TX7 16, w ∈ TBg := by decide +kernel
