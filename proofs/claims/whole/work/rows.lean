section
-- ===== PART A: goes FIRST, ahead of the names: the tables' words, and 'selects' of the private methods out of them =====
/-- a private method of a class that the tables say can be made, by its rows of tables_1 -/
def lw_okq (q : MethodName × Nat) : Prop := (q.1.cls ≠ "java/lang/invoke/MethodHandle" ∧ q.1.cls ≠ "java/lang/invoke/VarHandle") ∧ Cond.instantiable q.1.cls q.2 ∈ tables_1 ∧ Cond.privateMethod q.1 ∈ tables_1 ∧ Cond.instanceMethod q.1 ∈ tables_1
theorem lw_p0 : lw_okq (⟨"GoneIntoItsTunnel", "refuse", "(I)I"⟩, 9) := ⟨⟨by decide +kernel, by decide +kernel⟩, List.mem_of_getElem? (i := 16) (by decide +kernel), List.mem_of_getElem? (i := 165) (by decide +kernel), List.mem_of_getElem? (i := 166) (by decide +kernel)⟩
theorem lw_p1 : lw_okq (⟨"GoneIntoItsTunnel", "statementsCome", "()I"⟩, 9) := ⟨⟨by decide +kernel, by decide +kernel⟩, List.mem_of_getElem? (i := 16) (by decide +kernel), List.mem_of_getElem? (i := 316) (by decide +kernel), List.mem_of_getElem? (i := 317) (by decide +kernel)⟩
theorem lw_p2 : lw_okq (⟨"GoneIntoItsTunnel", "isAsItMustBe", "(I)Z"⟩, 9) := ⟨⟨by decide +kernel, by decide +kernel⟩, List.mem_of_getElem? (i := 16) (by decide +kernel), List.mem_of_getElem? (i := 336) (by decide +kernel), List.mem_of_getElem? (i := 337) (by decide +kernel)⟩
theorem lw_p3 : lw_okq (⟨"GoneIntoItsTunnel", "comes", "(I)V"⟩, 9) := ⟨⟨by decide +kernel, by decide +kernel⟩, List.mem_of_getElem? (i := 16) (by decide +kernel), List.mem_of_getElem? (i := 362) (by decide +kernel), List.mem_of_getElem? (i := 363) (by decide +kernel)⟩
theorem lw_p4 : lw_okq (⟨"GoneIntoItsTunnel", "refuseAsTold", "(I)I"⟩, 9) := ⟨⟨by decide +kernel, by decide +kernel⟩, List.mem_of_getElem? (i := 16) (by decide +kernel), List.mem_of_getElem? (i := 466) (by decide +kernel), List.mem_of_getElem? (i := 467) (by decide +kernel)⟩
theorem lw_p5 : lw_okq (⟨"GoneIntoItsTunnel$Way", "neverIsOut", "()V"⟩, 3) := ⟨⟨by decide +kernel, by decide +kernel⟩, List.mem_of_getElem? (i := 67) (by decide +kernel), List.mem_of_getElem? (i := 542) (by decide +kernel), List.mem_of_getElem? (i := 543) (by decide +kernel)⟩
theorem lw_p6 : lw_okq (⟨"GoneIntoItsTunnel", "secondsIfLost", "(I)I"⟩, 9) := ⟨⟨by decide +kernel, by decide +kernel⟩, List.mem_of_getElem? (i := 16) (by decide +kernel), List.mem_of_getElem? (i := 551) (by decide +kernel), List.mem_of_getElem? (i := 552) (by decide +kernel)⟩
theorem lw_p7 : lw_okq (⟨"GoneIntoItsTunnel", "washesTillLost", "()I"⟩, 9) := ⟨⟨by decide +kernel, by decide +kernel⟩, List.mem_of_getElem? (i := 16) (by decide +kernel), List.mem_of_getElem? (i := 577) (by decide +kernel), List.mem_of_getElem? (i := 578) (by decide +kernel)⟩
theorem lw_p8 : lw_okq (⟨"GoneIntoItsTunnel", "secondsWithStop", "(II)I"⟩, 9) := ⟨⟨by decide +kernel, by decide +kernel⟩, List.mem_of_getElem? (i := 16) (by decide +kernel), List.mem_of_getElem? (i := 599) (by decide +kernel), List.mem_of_getElem? (i := 600) (by decide +kernel)⟩
theorem lw_p9 : lw_okq (⟨"GoneIntoItsTunnel$Mending", "mend", "(LGoneIntoItsTunnel$Hem;LGoneIntoItsTunnel$Way;II)V"⟩, 2) := ⟨⟨by decide +kernel, by decide +kernel⟩, List.mem_of_getElem? (i := 87) (by decide +kernel), List.mem_of_getElem? (i := 609) (by decide +kernel), List.mem_of_getElem? (i := 610) (by decide +kernel)⟩
theorem lw_p10 : lw_okq (⟨"GoneIntoItsTunnel", "rankWithCloth", "(II)I"⟩, 9) := ⟨⟨by decide +kernel, by decide +kernel⟩, List.mem_of_getElem? (i := 16) (by decide +kernel), List.mem_of_getElem? (i := 632) (by decide +kernel), List.mem_of_getElem? (i := 633) (by decide +kernel)⟩
theorem lw_p11 : lw_okq (⟨"GoneIntoItsTunnel", "kindsByRow", "(I)I"⟩, 9) := ⟨⟨by decide +kernel, by decide +kernel⟩, List.mem_of_getElem? (i := 16) (by decide +kernel), List.mem_of_getElem? (i := 661) (by decide +kernel), List.mem_of_getElem? (i := 662) (by decide +kernel)⟩
theorem lw_p12 : lw_okq (⟨"GoneIntoItsTunnel", "strengthsByRow", "()I"⟩, 9) := ⟨⟨by decide +kernel, by decide +kernel⟩, List.mem_of_getElem? (i := 16) (by decide +kernel), List.mem_of_getElem? (i := 671) (by decide +kernel), List.mem_of_getElem? (i := 672) (by decide +kernel)⟩
theorem lw_p13 : lw_okq (⟨"GoneIntoItsTunnel", "lotSeconds", "(I)I"⟩, 9) := ⟨⟨by decide +kernel, by decide +kernel⟩, List.mem_of_getElem? (i := 16) (by decide +kernel), List.mem_of_getElem? (i := 702) (by decide +kernel), List.mem_of_getElem? (i := 703) (by decide +kernel)⟩
theorem lw_p14 : lw_okq (⟨"GoneIntoItsTunnel", "refusalsAt", "(I)I"⟩, 9) := ⟨⟨by decide +kernel, by decide +kernel⟩, List.mem_of_getElem? (i := 16) (by decide +kernel), List.mem_of_getElem? (i := 722) (by decide +kernel), List.mem_of_getElem? (i := 723) (by decide +kernel)⟩
theorem lw_p15 : lw_okq (⟨"GoneIntoItsTunnelModel", "no", "(I)I"⟩, 16) := ⟨⟨by decide +kernel, by decide +kernel⟩, List.mem_of_getElem? (i := 726) (by decide +kernel), List.mem_of_getElem? (i := 785) (by decide +kernel), List.mem_of_getElem? (i := 786) (by decide +kernel)⟩
def lw_privs_1 : List (MethodName × Nat) := [(⟨"GoneIntoItsTunnel", "refuse", "(I)I"⟩, 9), (⟨"GoneIntoItsTunnel", "statementsCome", "()I"⟩, 9), (⟨"GoneIntoItsTunnel", "isAsItMustBe", "(I)Z"⟩, 9), (⟨"GoneIntoItsTunnel", "comes", "(I)V"⟩, 9), (⟨"GoneIntoItsTunnel", "refuseAsTold", "(I)I"⟩, 9), (⟨"GoneIntoItsTunnel$Way", "neverIsOut", "()V"⟩, 3), (⟨"GoneIntoItsTunnel", "secondsIfLost", "(I)I"⟩, 9), (⟨"GoneIntoItsTunnel", "washesTillLost", "()I"⟩, 9), (⟨"GoneIntoItsTunnel", "secondsWithStop", "(II)I"⟩, 9), (⟨"GoneIntoItsTunnel$Mending", "mend", "(LGoneIntoItsTunnel$Hem;LGoneIntoItsTunnel$Way;II)V"⟩, 2), (⟨"GoneIntoItsTunnel", "rankWithCloth", "(II)I"⟩, 9), (⟨"GoneIntoItsTunnel", "kindsByRow", "(I)I"⟩, 9), (⟨"GoneIntoItsTunnel", "strengthsByRow", "()I"⟩, 9), (⟨"GoneIntoItsTunnel", "lotSeconds", "(I)I"⟩, 9), (⟨"GoneIntoItsTunnel", "refusalsAt", "(I)I"⟩, 9), (⟨"GoneIntoItsTunnelModel", "no", "(I)I"⟩, 16)]
theorem lw_r1 : ∀ q ∈ lw_privs_1, lw_okq q := List.forall_mem_cons.mpr ⟨lw_p0, List.forall_mem_cons.mpr ⟨lw_p1, List.forall_mem_cons.mpr ⟨lw_p2, List.forall_mem_cons.mpr ⟨lw_p3, List.forall_mem_cons.mpr ⟨lw_p4, List.forall_mem_cons.mpr ⟨lw_p5, List.forall_mem_cons.mpr ⟨lw_p6, List.forall_mem_cons.mpr ⟨lw_p7, List.forall_mem_cons.mpr ⟨lw_p8, List.forall_mem_cons.mpr ⟨lw_p9, List.forall_mem_cons.mpr ⟨lw_p10, List.forall_mem_cons.mpr ⟨lw_p11, List.forall_mem_cons.mpr ⟨lw_p12, List.forall_mem_cons.mpr ⟨lw_p13, List.forall_mem_cons.mpr ⟨lw_p14, List.forall_mem_cons.mpr ⟨lw_p15, fun _ h => absurd h List.not_mem_nil⟩⟩⟩⟩⟩⟩⟩⟩⟩⟩⟩⟩⟩⟩⟩⟩
theorem lw_p16 : lw_okq (⟨"GoneIntoItsTunnelModel", "readsStatement", "()Z"⟩, 16) := ⟨⟨by decide +kernel, by decide +kernel⟩, List.mem_of_getElem? (i := 726) (by decide +kernel), List.mem_of_getElem? (i := 793) (by decide +kernel), List.mem_of_getElem? (i := 794) (by decide +kernel)⟩
theorem lw_p17 : lw_okq (⟨"GoneIntoItsTunnelModel", "here", "()I"⟩, 16) := ⟨⟨by decide +kernel, by decide +kernel⟩, List.mem_of_getElem? (i := 726) (by decide +kernel), List.mem_of_getElem? (i := 797) (by decide +kernel), List.mem_of_getElem? (i := 798) (by decide +kernel)⟩
theorem lw_p18 : lw_okq (⟨"GoneIntoItsTunnelModel", "readsNumber", "(II)Z"⟩, 16) := ⟨⟨by decide +kernel, by decide +kernel⟩, List.mem_of_getElem? (i := 726) (by decide +kernel), List.mem_of_getElem? (i := 801) (by decide +kernel), List.mem_of_getElem? (i := 802) (by decide +kernel)⟩
theorem lw_p19 : lw_okq (⟨"GoneIntoItsTunnelModel", "readsKind", "()Z"⟩, 16) := ⟨⟨by decide +kernel, by decide +kernel⟩, List.mem_of_getElem? (i := 726) (by decide +kernel), List.mem_of_getElem? (i := 808) (by decide +kernel), List.mem_of_getElem? (i := 809) (by decide +kernel)⟩
theorem lw_p20 : lw_okq (⟨"GoneIntoItsTunnelModel", "readsSigned", "()Z"⟩, 16) := ⟨⟨by decide +kernel, by decide +kernel⟩, List.mem_of_getElem? (i := 726) (by decide +kernel), List.mem_of_getElem? (i := 815) (by decide +kernel), List.mem_of_getElem? (i := 816) (by decide +kernel)⟩
theorem lw_p21 : lw_okq (⟨"GoneIntoItsTunnelModel", "isDone", "(I)Z"⟩, 16) := ⟨⟨by decide +kernel, by decide +kernel⟩, List.mem_of_getElem? (i := 726) (by decide +kernel), List.mem_of_getElem? (i := 822) (by decide +kernel), List.mem_of_getElem? (i := 823) (by decide +kernel)⟩
theorem lw_p22 : lw_okq (⟨"GoneIntoItsTunnelModel", "isInch", "(I)Z"⟩, 16) := ⟨⟨by decide +kernel, by decide +kernel⟩, List.mem_of_getElem? (i := 726) (by decide +kernel), List.mem_of_getElem? (i := 826) (by decide +kernel), List.mem_of_getElem? (i := 827) (by decide +kernel)⟩
theorem lw_p23 : lw_okq (⟨"GoneIntoItsTunnelModel", "noFar", "(I)I"⟩, 16) := ⟨⟨by decide +kernel, by decide +kernel⟩, List.mem_of_getElem? (i := 726) (by decide +kernel), List.mem_of_getElem? (i := 891) (by decide +kernel), List.mem_of_getElem? (i := 892) (by decide +kernel)⟩
theorem lw_p24 : lw_okq (⟨"GoneIntoItsTunnelModel", "outSeconds", "([II)I"⟩, 16) := ⟨⟨by decide +kernel, by decide +kernel⟩, List.mem_of_getElem? (i := 726) (by decide +kernel), List.mem_of_getElem? (i := 950) (by decide +kernel), List.mem_of_getElem? (i := 951) (by decide +kernel)⟩
theorem lw_p25 : lw_okq (⟨"GoneIntoItsTunnelModel", "costliest", "(I)I"⟩, 16) := ⟨⟨by decide +kernel, by decide +kernel⟩, List.mem_of_getElem? (i := 726) (by decide +kernel), List.mem_of_getElem? (i := 954) (by decide +kernel), List.mem_of_getElem? (i := 955) (by decide +kernel)⟩
theorem lw_p26 : lw_okq (⟨"GoneIntoItsTunnelModel", "allSeconds", "([I)I"⟩, 16) := ⟨⟨by decide +kernel, by decide +kernel⟩, List.mem_of_getElem? (i := 726) (by decide +kernel), List.mem_of_getElem? (i := 966) (by decide +kernel), List.mem_of_getElem? (i := 967) (by decide +kernel)⟩
theorem lw_p27 : lw_okq (⟨"GoneIntoItsTunnelModel", "mended", "(I)I"⟩, 16) := ⟨⟨by decide +kernel, by decide +kernel⟩, List.mem_of_getElem? (i := 726) (by decide +kernel), List.mem_of_getElem? (i := 1000) (by decide +kernel), List.mem_of_getElem? (i := 1001) (by decide +kernel)⟩
theorem lw_p28 : lw_okq (⟨"GoneIntoItsTunnelModel", "firstWrong", "(II)I"⟩, 16) := ⟨⟨by decide +kernel, by decide +kernel⟩, List.mem_of_getElem? (i := 726) (by decide +kernel), List.mem_of_getElem? (i := 1036) (by decide +kernel), List.mem_of_getElem? (i := 1037) (by decide +kernel)⟩
theorem lw_p29 : lw_okq (⟨"GoneIntoItsTunnelModel", "drawn", "(I)I"⟩, 16) := ⟨⟨by decide +kernel, by decide +kernel⟩, List.mem_of_getElem? (i := 726) (by decide +kernel), List.mem_of_getElem? (i := 1048) (by decide +kernel), List.mem_of_getElem? (i := 1049) (by decide +kernel)⟩
def lw_privs_2 : List (MethodName × Nat) := [(⟨"GoneIntoItsTunnelModel", "readsStatement", "()Z"⟩, 16), (⟨"GoneIntoItsTunnelModel", "here", "()I"⟩, 16), (⟨"GoneIntoItsTunnelModel", "readsNumber", "(II)Z"⟩, 16), (⟨"GoneIntoItsTunnelModel", "readsKind", "()Z"⟩, 16), (⟨"GoneIntoItsTunnelModel", "readsSigned", "()Z"⟩, 16), (⟨"GoneIntoItsTunnelModel", "isDone", "(I)Z"⟩, 16), (⟨"GoneIntoItsTunnelModel", "isInch", "(I)Z"⟩, 16), (⟨"GoneIntoItsTunnelModel", "noFar", "(I)I"⟩, 16), (⟨"GoneIntoItsTunnelModel", "outSeconds", "([II)I"⟩, 16), (⟨"GoneIntoItsTunnelModel", "costliest", "(I)I"⟩, 16), (⟨"GoneIntoItsTunnelModel", "allSeconds", "([I)I"⟩, 16), (⟨"GoneIntoItsTunnelModel", "mended", "(I)I"⟩, 16), (⟨"GoneIntoItsTunnelModel", "firstWrong", "(II)I"⟩, 16), (⟨"GoneIntoItsTunnelModel", "drawn", "(I)I"⟩, 16)]
theorem lw_r2 : ∀ q ∈ lw_privs_2, lw_okq q := List.forall_mem_cons.mpr ⟨lw_p16, List.forall_mem_cons.mpr ⟨lw_p17, List.forall_mem_cons.mpr ⟨lw_p18, List.forall_mem_cons.mpr ⟨lw_p19, List.forall_mem_cons.mpr ⟨lw_p20, List.forall_mem_cons.mpr ⟨lw_p21, List.forall_mem_cons.mpr ⟨lw_p22, List.forall_mem_cons.mpr ⟨lw_p23, List.forall_mem_cons.mpr ⟨lw_p24, List.forall_mem_cons.mpr ⟨lw_p25, List.forall_mem_cons.mpr ⟨lw_p26, List.forall_mem_cons.mpr ⟨lw_p27, List.forall_mem_cons.mpr ⟨lw_p28, List.forall_mem_cons.mpr ⟨lw_p29, fun _ h => absurd h List.not_mem_nil⟩⟩⟩⟩⟩⟩⟩⟩⟩⟩⟩⟩⟩⟩
def lw_privs : List (MethodName × Nat) := lw_privs_1 ++ (lw_privs_2)
def lw_tbl : List Cond := k2_sels lw_privs ++ tables_1
theorem lw_privs_ok : ∀ q ∈ lw_privs, lw_okq q := by
  show ∀ q ∈ lw_privs_1 ++ (lw_privs_2), lw_okq q
  exact List.forall_mem_append.mpr ⟨lw_r1, lw_r2⟩
def RX0 : String := "GoneIntoItsTunnel$Hem"
def TX0 : u_T := fun k => match k with
  | 0 => ("GoneIntoItsTunnel$Hem", "kinds", "[I", true)
  | 1 => ("GoneIntoItsTunnel$Hem", "figures", "[I", true)
  | 2 => ("GoneIntoItsTunnel$Hem", "length", "I", false)
  | 3 => ("GoneIntoItsTunnel$Hem", "firstIn", "I", false)
  | 4 => ("GoneIntoItsTunnel$Hem", "secondIn", "I", false)
  | 5 => ("GoneIntoItsTunnel$Hem", "firstKnot", "Z", false)
  | 6 => ("GoneIntoItsTunnel$Hem", "secondKnot", "Z", false)
  | 7 => ("GoneIntoItsTunnel$Hem", "sewn", "Z", false)
  | 8 => ("GoneIntoItsTunnel$Hem", "pin", "I", false)
  | _ => ("GoneIntoItsTunnel$Hem", "strength", "I", false)
def tyX0 : Nat → FieldType := fun k => match k with
  | 0 => .array .int
  | 1 => .array .int
  | 2 => .int
  | 3 => .int
  | 4 => .int
  | 5 => .boolean
  | 6 => .boolean
  | 7 => .boolean
  | 8 => .int
  | _ => .int
theorem nmX0 : ∀ a, a < 10 → ∀ b, b < 10 → a ≠ b → (TX0 a).2.1 ≠ (TX0 b).2.1 := by decide +kernel
theorem tyX0_ok : ∀ k, k < 10 → parseFieldDescriptor (TX0 k).2.2.1 = some (tyX0 k) := by decide +kernel
abbrev cX0_init : ByteArray := prog_2_method_1_code
def yX0_init : MethodName := ⟨RX0, "<init>", "()V"⟩
abbrev cX0_copyFrom : ByteArray := prog_2_method_2_code
def yX0_copyFrom : MethodName := ⟨RX0, "copyFrom", "(LGoneIntoItsTunnel$Hem;)V"⟩
abbrev cX0_hasInch : ByteArray := prog_2_method_3_code
def yX0_hasInch : MethodName := ⟨RX0, "hasInch", "(I)Z"⟩
abbrev cX0_kindAt : ByteArray := prog_2_method_4_code
def yX0_kindAt : MethodName := ⟨RX0, "kindAt", "(I)I"⟩
abbrev cX0_figureAt : ByteArray := prog_2_method_5_code
def yX0_figureAt : MethodName := ⟨RX0, "figureAt", "(I)I"⟩
abbrev cX0_make : ByteArray := prog_2_method_6_code
def yX0_make : MethodName := ⟨RX0, "make", "(III)V"⟩
abbrev cX0_bunchMove : ByteArray := prog_2_method_7_code
def yX0_bunchMove : MethodName := ⟨RX0, "bunchMove", "(I)I"⟩
abbrev cX0_bunchSeconds : ByteArray := prog_2_method_8_code
def yX0_bunchSeconds : MethodName := ⟨RX0, "bunchSeconds", "(I)I"⟩
abbrev cX0_threadSeconds : ByteArray := prog_2_method_9_code
def yX0_threadSeconds : MethodName := ⟨RX0, "threadSeconds", "(I)I"⟩
abbrev cX0_washDraw : ByteArray := prog_2_method_10_code
def yX0_washDraw : MethodName := ⟨RX0, "washDraw", "(I)I"⟩
abbrev cX0_seams : ByteArray := prog_2_method_11_code
def yX0_seams : MethodName := ⟨RX0, "seams", "()I"⟩
abbrev cX0_secondsAnewOf : ByteArray := prog_2_method_12_code
def yX0_secondsAnewOf : MethodName := ⟨RX0, "secondsAnewOf", "(II)I"⟩
abbrev cX0_secondsAnew : ByteArray := prog_2_method_13_code
def yX0_secondsAnew : MethodName := ⟨RX0, "secondsAnew", "(I)I"⟩
abbrev cX0_threadAnew : ByteArray := prog_2_method_14_code
def yX0_threadAnew : MethodName := ⟨RX0, "threadAnew", "()V"⟩
abbrev cX0_depth : ByteArray := prog_2_method_15_code
def yX0_depth : MethodName := ⟨RX0, "depth", "(I)I"⟩
abbrev cX0_place : ByteArray := prog_2_method_16_code
def yX0_place : MethodName := ⟨RX0, "place", "(II)V"⟩
abbrev cX0_isKnotted : ByteArray := prog_2_method_17_code
def yX0_isKnotted : MethodName := ⟨RX0, "isKnotted", "(I)Z"⟩
abbrev cX0_knot : ByteArray := prog_2_method_18_code
def yX0_knot : MethodName := ⟨RX0, "knot", "(IZ)V"⟩
abbrev cX0_isLost : ByteArray := prog_2_method_19_code
def yX0_isLost : MethodName := ⟨RX0, "isLost", "(I)Z"⟩
abbrev cX0_lostEnds : ByteArray := prog_2_method_20_code
def yX0_lostEnds : MethodName := ⟨RX0, "lostEnds", "()I"⟩
abbrev cX0_inchAt : ByteArray := prog_2_method_21_code
def yX0_inchAt : MethodName := ⟨RX0, "inchAt", "(II)I"⟩
abbrev cX0_canDraw : ByteArray := prog_2_method_22_code
def yX0_canDraw : MethodName := ⟨RX0, "canDraw", "(II)I"⟩
abbrev cX0_draw : ByteArray := prog_2_method_23_code
def yX0_draw : MethodName := ⟨RX0, "draw", "(II)I"⟩
abbrev cX0_washOnce : ByteArray := prog_2_method_24_code
def yX0_washOnce : MethodName := ⟨RX0, "washOnce", "()I"⟩
abbrev cX0_washTimes : ByteArray := prog_2_method_25_code
def yX0_washTimes : MethodName := ⟨RX0, "washTimes", "(I)V"⟩
def RX1 : String := "GoneIntoItsTunnel$Kind"
def TX1 : u_T := fun k => match k with
  | _ => ("", "", "", false)
def tyX1 : Nat → FieldType := fun k => match k with
  | _ => .int
theorem nmX1 : ∀ a, a < 0 → ∀ b, b < 0 → a ≠ b → (TX1 a).2.1 ≠ (TX1 b).2.1 := by decide +kernel
theorem tyX1_ok : ∀ k, k < 0 → parseFieldDescriptor (TX1 k).2.2.1 = some (tyX1 k) := by decide +kernel
abbrev cX1_isSign : ByteArray := prog_3_method_2_code
def yX1_isSign : MethodName := ⟨RX1, "isSign", "(I)Z"⟩
abbrev cX1_ofSign : ByteArray := prog_3_method_3_code
def yX1_ofSign : MethodName := ⟨RX1, "ofSign", "(I)I"⟩
abbrev cX1_isSeam : ByteArray := prog_3_method_4_code
def yX1_isSeam : MethodName := ⟨RX1, "isSeam", "(I)Z"⟩
abbrev cX1_bunchMove : ByteArray := prog_3_method_5_code
def yX1_bunchMove : MethodName := ⟨RX1, "bunchMove", "(I)I"⟩
abbrev cX1_bunchSeconds : ByteArray := prog_3_method_6_code
def yX1_bunchSeconds : MethodName := ⟨RX1, "bunchSeconds", "(II)I"⟩
abbrev cX1_threadSeconds : ByteArray := prog_3_method_7_code
def yX1_threadSeconds : MethodName := ⟨RX1, "threadSeconds", "(II)I"⟩
abbrev cX1_washDraw : ByteArray := prog_3_method_8_code
def yX1_washDraw : MethodName := ⟨RX1, "washDraw", "(II)I"⟩
def RX2 : String := "GoneIntoItsTunnel$Letters"
def TX2 : u_T := fun k => match k with
  | 0 => ("GoneIntoItsTunnel$Letters", "signs", "[I", true)
  | _ => ("GoneIntoItsTunnel$Letters", "size", "I", false)
def tyX2 : Nat → FieldType := fun k => match k with
  | 0 => .array .int
  | _ => .int
theorem nmX2 : ∀ a, a < 2 → ∀ b, b < 2 → a ≠ b → (TX2 a).2.1 ≠ (TX2 b).2.1 := by decide +kernel
theorem tyX2_ok : ∀ k, k < 2 → parseFieldDescriptor (TX2 k).2.2.1 = some (tyX2 k) := by decide +kernel
abbrev cX2_init : ByteArray := prog_4_method_1_code
def yX2_init : MethodName := ⟨RX2, "<init>", "()V"⟩
abbrev cX2_isFull : ByteArray := prog_4_method_2_code
def yX2_isFull : MethodName := ⟨RX2, "isFull", "()Z"⟩
abbrev cX2_add : ByteArray := prog_4_method_3_code
def yX2_add : MethodName := ⟨RX2, "add", "(I)V"⟩
abbrev cX2_clear : ByteArray := prog_4_method_4_code
def yX2_clear : MethodName := ⟨RX2, "clear", "()V"⟩
abbrev cX2_signAt : ByteArray := prog_4_method_5_code
def yX2_signAt : MethodName := ⟨RX2, "signAt", "(I)I"⟩
abbrev cX2_digit : ByteArray := prog_4_method_6_code
def yX2_digit : MethodName := ⟨RX2, "digit", "(I)I"⟩
abbrev cX2_number : ByteArray := prog_4_method_7_code
def yX2_number : MethodName := ⟨RX2, "number", "(I)I"⟩
abbrev cX2_signed : ByteArray := prog_4_method_8_code
def yX2_signed : MethodName := ⟨RX2, "signed", "(I)I"⟩
abbrev cX2_lengthBehind : ByteArray := prog_4_method_9_code
def yX2_lengthBehind : MethodName := ⟨RX2, "lengthBehind", "(I)I"⟩
abbrev cX2_firstUnfit : ByteArray := prog_4_method_10_code
def yX2_firstUnfit : MethodName := ⟨RX2, "firstUnfit", "()I"⟩
abbrev cX2_formBehind : ByteArray := prog_4_method_11_code
def yX2_formBehind : MethodName := ⟨RX2, "formBehind", "(I)Ljava/lang/String;"⟩
abbrev cX2_fits : ByteArray := prog_4_method_12_code
def yX2_fits : MethodName := ⟨RX2, "fits", "(II)Z"⟩
def RX3 : String := "GoneIntoItsTunnel$Mending"
def TX3 : u_T := fun k => match k with
  | 0 => ("GoneIntoItsTunnel$Mending", "times", "I", false)
  | _ => ("GoneIntoItsTunnel$Mending", "seconds", "I", false)
def tyX3 : Nat → FieldType := fun k => match k with
  | 0 => .int
  | _ => .int
theorem nmX3 : ∀ a, a < 2 → ∀ b, b < 2 → a ≠ b → (TX3 a).2.1 ≠ (TX3 b).2.1 := by decide +kernel
theorem tyX3_ok : ∀ k, k < 2 → parseFieldDescriptor (TX3 k).2.2.1 = some (tyX3 k) := by decide +kernel
abbrev cX3_init : ByteArray := prog_5_method_1_code
def yX3_init : MethodName := ⟨RX3, "<init>", "()V"⟩
abbrev cX3_goOn : ByteArray := prog_5_method_2_code
def yX3_goOn : MethodName := ⟨RX3, "goOn", "(LGoneIntoItsTunnel$Hem;LGoneIntoItsTunnel$Way;I)V"⟩
abbrev cX3_mend : ByteArray := prog_5_method_3_code
def yX3_mend : MethodName := ⟨RX3, "mend", "(LGoneIntoItsTunnel$Hem;LGoneIntoItsTunnel$Way;II)V"⟩
def RX4 : String := "GoneIntoItsTunnel$Row"
def TX4 : u_T := fun k => match k with
  | 0 => ("GoneIntoItsTunnel$Row", "numbers", "[I", true)
  | _ => ("GoneIntoItsTunnel$Row", "size", "I", false)
def tyX4 : Nat → FieldType := fun k => match k with
  | 0 => .array .int
  | _ => .int
theorem nmX4 : ∀ a, a < 2 → ∀ b, b < 2 → a ≠ b → (TX4 a).2.1 ≠ (TX4 b).2.1 := by decide +kernel
theorem tyX4_ok : ∀ k, k < 2 → parseFieldDescriptor (TX4 k).2.2.1 = some (tyX4 k) := by decide +kernel
abbrev cX4_init : ByteArray := prog_6_method_1_code
def yX4_init : MethodName := ⟨RX4, "<init>", "()V"⟩
abbrev cX4_isFull : ByteArray := prog_6_method_2_code
def yX4_isFull : MethodName := ⟨RX4, "isFull", "()Z"⟩
abbrev cX4_add : ByteArray := prog_6_method_3_code
def yX4_add : MethodName := ⟨RX4, "add", "(I)V"⟩
abbrev cX4_clear : ByteArray := prog_6_method_4_code
def yX4_clear : MethodName := ⟨RX4, "clear", "()V"⟩
abbrev cX4_firstNotSo : ByteArray := prog_6_method_5_code
def yX4_firstNotSo : MethodName := ⟨RX4, "firstNotSo", "(LGoneIntoItsTunnel$Hem;I)I"⟩
def RX5 : String := "GoneIntoItsTunnel$Way"
def TX5 : u_T := fun k => match k with
  | 0 => ("GoneIntoItsTunnel$Way", "bunches", "I", false)
  | 1 => ("GoneIntoItsTunnel$Way", "seconds", "I", false)
  | _ => ("GoneIntoItsTunnel$Way", "dearest", "I", false)
def tyX5 : Nat → FieldType := fun k => match k with
  | 0 => .int
  | 1 => .int
  | _ => .int
theorem nmX5 : ∀ a, a < 3 → ∀ b, b < 3 → a ≠ b → (TX5 a).2.1 ≠ (TX5 b).2.1 := by decide +kernel
theorem tyX5_ok : ∀ k, k < 3 → parseFieldDescriptor (TX5 k).2.2.1 = some (tyX5 k) := by decide +kernel
abbrev cX5_init : ByteArray := prog_7_method_1_code
def yX5_init : MethodName := ⟨RX5, "<init>", "()V"⟩
abbrev cX5_measure : ByteArray := prog_7_method_2_code
def yX5_measure : MethodName := ⟨RX5, "measure", "(LGoneIntoItsTunnel$Hem;II)V"⟩
abbrev cX5_neverIsOut : ByteArray := prog_7_method_3_code
def yX5_neverIsOut : MethodName := ⟨RX5, "neverIsOut", "()V"⟩
abbrev cX5_isAWay : ByteArray := prog_7_method_4_code
def yX5_isAWay : MethodName := ⟨RX5, "isAWay", "()Z"⟩
abbrev cX5_rank : ByteArray := prog_7_method_5_code
def yX5_rank : MethodName := ⟨RX5, "rank", "()I"⟩
abbrev cX5_secondsOfAll : ByteArray := prog_7_method_6_code
def yX5_secondsOfAll : MethodName := ⟨RX5, "secondsOfAll", "(LGoneIntoItsTunnel$Hem;)I"⟩
def RX6 : String := "GoneIntoItsTunnel"
def TX6 : u_T := fun k => match k with
  | 0 => ("GoneIntoItsTunnel", "now", "LGoneIntoItsTunnel$Hem;", true)
  | 1 => ("GoneIntoItsTunnel", "mind", "LGoneIntoItsTunnel$Hem;", true)
  | 2 => ("GoneIntoItsTunnel", "taken", "LGoneIntoItsTunnel$Hem;", true)
  | 3 => ("GoneIntoItsTunnel", "anyTaken", "Z", false)
  | 4 => ("GoneIntoItsTunnel", "way", "LGoneIntoItsTunnel$Way;", true)
  | 5 => ("GoneIntoItsTunnel", "mending", "LGoneIntoItsTunnel$Mending;", true)
  | 6 => ("GoneIntoItsTunnel", "letters", "LGoneIntoItsTunnel$Letters;", true)
  | 7 => ("GoneIntoItsTunnel", "told", "LGoneIntoItsTunnel$Row;", true)
  | _ => ("GoneIntoItsTunnel", "refusals", "[I", true)
def tyX6 : Nat → FieldType := fun k => match k with
  | 0 => .object "GoneIntoItsTunnel$Hem"
  | 1 => .object "GoneIntoItsTunnel$Hem"
  | 2 => .object "GoneIntoItsTunnel$Hem"
  | 3 => .boolean
  | 4 => .object "GoneIntoItsTunnel$Way"
  | 5 => .object "GoneIntoItsTunnel$Mending"
  | 6 => .object "GoneIntoItsTunnel$Letters"
  | 7 => .object "GoneIntoItsTunnel$Row"
  | _ => .array .int
theorem nmX6 : ∀ a, a < 9 → ∀ b, b < 9 → a ≠ b → (TX6 a).2.1 ≠ (TX6 b).2.1 := by decide +kernel
theorem tyX6_ok : ∀ k, k < 9 → parseFieldDescriptor (TX6 k).2.2.1 = some (tyX6 k) := by decide +kernel
abbrev cX6_init : ByteArray := prog_1_method_1_code
def yX6_init : MethodName := ⟨RX6, "<init>", "()V"⟩
abbrev cX6_letter : ByteArray := prog_1_method_2_code
def yX6_letter : MethodName := ⟨RX6, "letter", "(I)I"⟩
abbrev cX6_hem : ByteArray := prog_1_method_3_code
def yX6_hem : MethodName := ⟨RX6, "hem", "()I"⟩
abbrev cX6_inch : ByteArray := prog_1_method_4_code
def yX6_inch : MethodName := ⟨RX6, "inch", "(II)I"⟩
abbrev cX6_turn : ByteArray := prog_1_method_5_code
def yX6_turn : MethodName := ⟨RX6, "turn", "(III)I"⟩
abbrev cX6_inches : ByteArray := prog_1_method_6_code
def yX6_inches : MethodName := ⟨RX6, "inches", "(I)I"⟩
abbrev cX6_end : ByteArray := prog_1_method_7_code
def yX6_end : MethodName := ⟨RX6, "end", "(II)I"⟩
abbrev cX6_tie : ByteArray := prog_1_method_8_code
def yX6_tie : MethodName := ⟨RX6, "tie", "(I)I"⟩
abbrev cX6_sew : ByteArray := prog_1_method_9_code
def yX6_sew : MethodName := ⟨RX6, "sew", "()I"⟩
abbrev cX6_set : ByteArray := prog_1_method_10_code
def yX6_set : MethodName := ⟨RX6, "set", "(II)I"⟩
abbrev cX6_pull : ByteArray := prog_1_method_11_code
def yX6_pull : MethodName := ⟨RX6, "pull", "(II)I"⟩
abbrev cX6_bunch : ByteArray := prog_1_method_12_code
def yX6_bunch : MethodName := ⟨RX6, "bunch", "(I)I"⟩
abbrev cX6_anew : ByteArray := prog_1_method_13_code
def yX6_anew : MethodName := ⟨RX6, "anew", "()I"⟩
abbrev cX6_wash : ByteArray := prog_1_method_14_code
def yX6_wash : MethodName := ⟨RX6, "wash", "(I)I"⟩
abbrev cX6_of : ByteArray := prog_1_method_15_code
def yX6_of : MethodName := ⟨RX6, "of", "(II)I"⟩
abbrev cX6_out : ByteArray := prog_1_method_16_code
def yX6_out : MethodName := ⟨RX6, "out", "(II)I"⟩
abbrev cX6_soonest : ByteArray := prog_1_method_17_code
def yX6_soonest : MethodName := ⟨RX6, "soonest", "()I"⟩
abbrev cX6_better : ByteArray := prog_1_method_18_code
def yX6_better : MethodName := ⟨RX6, "better", "(I)I"⟩
abbrev cX6_inIn : ByteArray := prog_1_method_19_code
def yX6_inIn : MethodName := ⟨RX6, "inIn", "(II)I"⟩
abbrev cX6_lost : ByteArray := prog_1_method_20_code
def yX6_lost : MethodName := ⟨RX6, "lost", "(I)I"⟩
abbrev cX6_still : ByteArray := prog_1_method_21_code
def yX6_still : MethodName := ⟨RX6, "still", "()I"⟩
abbrev cX6_keep : ByteArray := prog_1_method_22_code
def yX6_keep : MethodName := ⟨RX6, "keep", "(I)I"⟩
abbrev cX6_deep : ByteArray := prog_1_method_23_code
def yX6_deep : MethodName := ⟨RX6, "deep", "(II)I"⟩
abbrev cX6_stops : ByteArray := prog_1_method_24_code
def yX6_stops : MethodName := ⟨RX6, "stops", "(II)I"⟩
abbrev cX6_care : ByteArray := prog_1_method_25_code
def yX6_care : MethodName := ⟨RX6, "care", "(I)I"⟩
abbrev cX6_holdsUp : ByteArray := prog_1_method_26_code
def yX6_holdsUp : MethodName := ⟨RX6, "holdsUp", "(I)I"⟩
abbrev cX6_middle : ByteArray := prog_1_method_27_code
def yX6_middle : MethodName := ⟨RX6, "middle", "()I"⟩
abbrev cX6_cutOff : ByteArray := prog_1_method_28_code
def yX6_cutOff : MethodName := ⟨RX6, "cutOff", "()I"⟩
abbrev cX6_bestPin : ByteArray := prog_1_method_29_code
def yX6_bestPin : MethodName := ⟨RX6, "bestPin", "(I)I"⟩
abbrev cX6_worst : ByteArray := prog_1_method_30_code
def yX6_worst : MethodName := ⟨RX6, "worst", "()I"⟩
abbrev cX6_which : ByteArray := prog_1_method_31_code
def yX6_which : MethodName := ⟨RX6, "which", "(II)I"⟩
abbrev cX6_row : ByteArray := prog_1_method_32_code
def yX6_row : MethodName := ⟨RX6, "row", "(I)I"⟩
abbrev cX6_judge : ByteArray := prog_1_method_33_code
def yX6_judge : MethodName := ⟨RX6, "judge", "(I)I"⟩
abbrev cX6_lots : ByteArray := prog_1_method_34_code
def yX6_lots : MethodName := ⟨RX6, "lots", "(III)I"⟩
abbrev cX6_image : ByteArray := prog_1_method_35_code
def yX6_image : MethodName := ⟨RX6, "image", "()I"⟩
abbrev cX6_on : ByteArray := prog_1_method_36_code
def yX6_on : MethodName := ⟨RX6, "on", "()I"⟩
abbrev cX6_count : ByteArray := prog_1_method_37_code
def yX6_count : MethodName := ⟨RX6, "count", "(I)I"⟩
abbrev cX6_isEnd : ByteArray := prog_1_method_38_code
def yX6_isEnd : MethodName := ⟨RX6, "isEnd", "(I)Z"⟩
abbrev cX6_outside : ByteArray := prog_1_method_39_code
def yX6_outside : MethodName := ⟨RX6, "outside", "(III)I"⟩
abbrev cX6_refuse : ByteArray := prog_1_method_40_code
def yX6_refuse : MethodName := ⟨RX6, "refuse", "(I)I"⟩
abbrev cX6_refuseAsTold : ByteArray := prog_1_method_41_code
def yX6_refuseAsTold : MethodName := ⟨RX6, "refuseAsTold", "(I)I"⟩
abbrev cX6_refusalsAt : ByteArray := prog_1_method_42_code
def yX6_refusalsAt : MethodName := ⟨RX6, "refusalsAt", "(I)I"⟩
abbrev cX6_statementsCome : ByteArray := prog_1_method_43_code
def yX6_statementsCome : MethodName := ⟨RX6, "statementsCome", "()I"⟩
abbrev cX6_isAsItMustBe : ByteArray := prog_1_method_44_code
def yX6_isAsItMustBe : MethodName := ⟨RX6, "isAsItMustBe", "(I)Z"⟩
abbrev cX6_comes : ByteArray := prog_1_method_45_code
def yX6_comes : MethodName := ⟨RX6, "comes", "(I)V"⟩
abbrev cX6_secondsIfLost : ByteArray := prog_1_method_46_code
def yX6_secondsIfLost : MethodName := ⟨RX6, "secondsIfLost", "(I)I"⟩
abbrev cX6_washesTillLost : ByteArray := prog_1_method_47_code
def yX6_washesTillLost : MethodName := ⟨RX6, "washesTillLost", "()I"⟩
abbrev cX6_secondsWithStop : ByteArray := prog_1_method_48_code
def yX6_secondsWithStop : MethodName := ⟨RX6, "secondsWithStop", "(II)I"⟩
abbrev cX6_rankWithCloth : ByteArray := prog_1_method_49_code
def yX6_rankWithCloth : MethodName := ⟨RX6, "rankWithCloth", "(II)I"⟩
abbrev cX6_kindsByRow : ByteArray := prog_1_method_50_code
def yX6_kindsByRow : MethodName := ⟨RX6, "kindsByRow", "(I)I"⟩
abbrev cX6_strengthsByRow : ByteArray := prog_1_method_51_code
def yX6_strengthsByRow : MethodName := ⟨RX6, "strengthsByRow", "()I"⟩
abbrev cX6_lotSeconds : ByteArray := prog_1_method_52_code
def yX6_lotSeconds : MethodName := ⟨RX6, "lotSeconds", "(I)I"⟩
def RX7 : String := "GoneIntoItsTunnelModel"
def TX7 : u_T := fun k => match k with
  | 0 => ("GoneIntoItsTunnelModel", "s", "[I", true)
  | 1 => ("GoneIntoItsTunnelModel", "m", "[I", true)
  | 2 => ("GoneIntoItsTunnelModel", "image", "[I", true)
  | 3 => ("GoneIntoItsTunnelModel", "was", "[I", true)
  | 4 => ("GoneIntoItsTunnelModel", "hasImage", "Z", false)
  | 5 => ("GoneIntoItsTunnelModel", "letters", "[I", true)
  | 6 => ("GoneIntoItsTunnelModel", "row", "[I", true)
  | 7 => ("GoneIntoItsTunnelModel", "refused", "[I", true)
  | 8 => ("GoneIntoItsTunnelModel", "letterMany", "I", false)
  | 9 => ("GoneIntoItsTunnelModel", "rowMany", "I", false)
  | 10 => ("GoneIntoItsTunnelModel", "costs", "[I", true)
  | 11 => ("GoneIntoItsTunnelModel", "bunchesMany", "I", false)
  | 12 => ("GoneIntoItsTunnelModel", "place", "I", false)
  | 13 => ("GoneIntoItsTunnelModel", "numbers", "[I", true)
  | 14 => ("GoneIntoItsTunnelModel", "mends", "I", false)
  | _ => ("GoneIntoItsTunnelModel", "seed", "I", false)
def tyX7 : Nat → FieldType := fun k => match k with
  | 0 => .array .int
  | 1 => .array .int
  | 2 => .array .int
  | 3 => .array .int
  | 4 => .boolean
  | 5 => .array .int
  | 6 => .array .int
  | 7 => .array .int
  | 8 => .int
  | 9 => .int
  | 10 => .array .int
  | 11 => .int
  | 12 => .int
  | 13 => .array .int
  | 14 => .int
  | _ => .int
theorem nmX7 : ∀ a, a < 16 → ∀ b, b < 16 → a ≠ b → (TX7 a).2.1 ≠ (TX7 b).2.1 := by decide +kernel
theorem tyX7_ok : ∀ k, k < 16 → parseFieldDescriptor (TX7 k).2.2.1 = some (tyX7 k) := by decide +kernel
abbrev cX7_init : ByteArray := prog_9_method_1_code
def yX7_init : MethodName := ⟨RX7, "<init>", "()V"⟩
abbrev cX7_isIn : ByteArray := prog_9_method_2_code
def yX7_isIn : MethodName := ⟨RX7, "isIn", "(III)Z"⟩
abbrev cX7_least : ByteArray := prog_9_method_3_code
def yX7_least : MethodName := ⟨RX7, "least", "(II)I"⟩
abbrev cX7_most : ByteArray := prog_9_method_4_code
def yX7_most : MethodName := ⟨RX7, "most", "(II)I"⟩
abbrev cX7_lays : ByteArray := prog_9_method_5_code
def yX7_lays : MethodName := ⟨RX7, "lays", "([I[I)V"⟩
abbrev cX7_no : ByteArray := prog_9_method_6_code
def yX7_no : MethodName := ⟨RX7, "no", "(I)I"⟩
abbrev cX7_noFar : ByteArray := prog_9_method_7_code
def yX7_noFar : MethodName := ⟨RX7, "noFar", "(I)I"⟩
abbrev cX7_isInch : ByteArray := prog_9_method_8_code
def yX7_isInch : MethodName := ⟨RX7, "isInch", "(I)Z"⟩
abbrev cX7_isEnd : ByteArray := prog_9_method_9_code
def yX7_isEnd : MethodName := ⟨RX7, "isEnd", "(I)Z"⟩
abbrev cX7_kindOf : ByteArray := prog_9_method_10_code
def yX7_kindOf : MethodName := ⟨RX7, "kindOf", "([II)I"⟩
abbrev cX7_figureOf : ByteArray := prog_9_method_11_code
def yX7_figureOf : MethodName := ⟨RX7, "figureOf", "([II)I"⟩
abbrev cX7_isSeam : ByteArray := prog_9_method_12_code
def yX7_isSeam : MethodName := ⟨RX7, "isSeam", "(I)Z"⟩
abbrev cX7_movesAt : ByteArray := prog_9_method_13_code
def yX7_movesAt : MethodName := ⟨RX7, "movesAt", "([II)I"⟩
abbrev cX7_bunchAt : ByteArray := prog_9_method_14_code
def yX7_bunchAt : MethodName := ⟨RX7, "bunchAt", "([II)I"⟩
abbrev cX7_threadAt : ByteArray := prog_9_method_15_code
def yX7_threadAt : MethodName := ⟨RX7, "threadAt", "([II)I"⟩
abbrev cX7_drawsAt : ByteArray := prog_9_method_16_code
def yX7_drawsAt : MethodName := ⟨RX7, "drawsAt", "([II)I"⟩
abbrev cX7_inchOf : ByteArray := prog_9_method_17_code
def yX7_inchOf : MethodName := ⟨RX7, "inchOf", "([II)I"⟩
abbrev cX7_isLost : ByteArray := prog_9_method_18_code
def yX7_isLost : MethodName := ⟨RX7, "isLost", "([II)Z"⟩
abbrev cX7_canPull : ByteArray := prog_9_method_19_code
def yX7_canPull : MethodName := ⟨RX7, "canPull", "([III)I"⟩
abbrev cX7_pulls : ByteArray := prog_9_method_20_code
def yX7_pulls : MethodName := ⟨RX7, "pulls", "([III)I"⟩
abbrev cX7_washes : ByteArray := prog_9_method_21_code
def yX7_washes : MethodName := ⟨RX7, "washes", "([I)I"⟩
abbrev cX7_washesOn : ByteArray := prog_9_method_22_code
def yX7_washesOn : MethodName := ⟨RX7, "washesOn", "([II)V"⟩
abbrev cX7_bunches : ByteArray := prog_9_method_23_code
def yX7_bunches : MethodName := ⟨RX7, "bunches", "([II)V"⟩
abbrev cX7_anewSeconds : ByteArray := prog_9_method_24_code
def yX7_anewSeconds : MethodName := ⟨RX7, "anewSeconds", "([I)I"⟩
abbrev cX7_threadBy : ByteArray := prog_9_method_25_code
def yX7_threadBy : MethodName := ⟨RX7, "threadBy", "([II)I"⟩
abbrev cX7_threads : ByteArray := prog_9_method_26_code
def yX7_threads : MethodName := ⟨RX7, "threads", "([I)V"⟩
abbrev cX7_outSeconds : ByteArray := prog_9_method_27_code
def yX7_outSeconds : MethodName := ⟨RX7, "outSeconds", "([II)I"⟩
abbrev cX7_allSeconds : ByteArray := prog_9_method_28_code
def yX7_allSeconds : MethodName := ⟨RX7, "allSeconds", "([I)I"⟩
abbrev cX7_lostMany : ByteArray := prog_9_method_29_code
def yX7_lostMany : MethodName := ⟨RX7, "lostMany", "([I)I"⟩
abbrev cX7_letter : ByteArray := prog_9_method_30_code
def yX7_letter : MethodName := ⟨RX7, "letter", "(I)I"⟩
abbrev cX7_here : ByteArray := prog_9_method_31_code
def yX7_here : MethodName := ⟨RX7, "here", "()I"⟩
abbrev cX7_readsNumber : ByteArray := prog_9_method_32_code
def yX7_readsNumber : MethodName := ⟨RX7, "readsNumber", "(II)Z"⟩
abbrev cX7_kindBy : ByteArray := prog_9_method_33_code
def yX7_kindBy : MethodName := ⟨RX7, "kindBy", "(I)I"⟩
abbrev cX7_readsKind : ByteArray := prog_9_method_34_code
def yX7_readsKind : MethodName := ⟨RX7, "readsKind", "()Z"⟩
abbrev cX7_readsSigned : ByteArray := prog_9_method_35_code
def yX7_readsSigned : MethodName := ⟨RX7, "readsSigned", "()Z"⟩
abbrev cX7_readsStatement : ByteArray := prog_9_method_36_code
def yX7_readsStatement : MethodName := ⟨RX7, "readsStatement", "()Z"⟩
abbrev cX7_isDone : ByteArray := prog_9_method_37_code
def yX7_isDone : MethodName := ⟨RX7, "isDone", "(I)Z"⟩
abbrev cX7_hem : ByteArray := prog_9_method_38_code
def yX7_hem : MethodName := ⟨RX7, "hem", "()I"⟩
abbrev cX7_inch : ByteArray := prog_9_method_39_code
def yX7_inch : MethodName := ⟨RX7, "inch", "(II)I"⟩
abbrev cX7_turn : ByteArray := prog_9_method_40_code
def yX7_turn : MethodName := ⟨RX7, "turn", "(III)I"⟩
abbrev cX7_inches : ByteArray := prog_9_method_41_code
def yX7_inches : MethodName := ⟨RX7, "inches", "(I)I"⟩
abbrev cX7_end : ByteArray := prog_9_method_42_code
def yX7_end : MethodName := ⟨RX7, "end", "(II)I"⟩
abbrev cX7_tie : ByteArray := prog_9_method_43_code
def yX7_tie : MethodName := ⟨RX7, "tie", "(I)I"⟩
abbrev cX7_sew : ByteArray := prog_9_method_44_code
def yX7_sew : MethodName := ⟨RX7, "sew", "()I"⟩
abbrev cX7_set : ByteArray := prog_9_method_45_code
def yX7_set : MethodName := ⟨RX7, "set", "(II)I"⟩
abbrev cX7_pull : ByteArray := prog_9_method_46_code
def yX7_pull : MethodName := ⟨RX7, "pull", "(II)I"⟩
abbrev cX7_bunch : ByteArray := prog_9_method_47_code
def yX7_bunch : MethodName := ⟨RX7, "bunch", "(I)I"⟩
abbrev cX7_anew : ByteArray := prog_9_method_48_code
def yX7_anew : MethodName := ⟨RX7, "anew", "()I"⟩
abbrev cX7_wash : ByteArray := prog_9_method_49_code
def yX7_wash : MethodName := ⟨RX7, "wash", "(I)I"⟩
abbrev cX7_of : ByteArray := prog_9_method_50_code
def yX7_of : MethodName := ⟨RX7, "of", "(II)I"⟩
abbrev cX7_costliest : ByteArray := prog_9_method_51_code
def yX7_costliest : MethodName := ⟨RX7, "costliest", "(I)I"⟩
abbrev cX7_out : ByteArray := prog_9_method_52_code
def yX7_out : MethodName := ⟨RX7, "out", "(II)I"⟩
abbrev cX7_soonest : ByteArray := prog_9_method_53_code
def yX7_soonest : MethodName := ⟨RX7, "soonest", "()I"⟩
abbrev cX7_better : ByteArray := prog_9_method_54_code
def yX7_better : MethodName := ⟨RX7, "better", "(I)I"⟩
abbrev cX7_wrongWashes : ByteArray := prog_9_method_55_code
def yX7_wrongWashes : MethodName := ⟨RX7, "wrongWashes", "(I)I"⟩
abbrev cX7_inIn : ByteArray := prog_9_method_56_code
def yX7_inIn : MethodName := ⟨RX7, "inIn", "(II)I"⟩
abbrev cX7_lost : ByteArray := prog_9_method_57_code
def yX7_lost : MethodName := ⟨RX7, "lost", "(I)I"⟩
abbrev cX7_still : ByteArray := prog_9_method_58_code
def yX7_still : MethodName := ⟨RX7, "still", "()I"⟩
abbrev cX7_wrongSeconds : ByteArray := prog_9_method_59_code
def yX7_wrongSeconds : MethodName := ⟨RX7, "wrongSeconds", "(I)I"⟩
abbrev cX7_keep : ByteArray := prog_9_method_60_code
def yX7_keep : MethodName := ⟨RX7, "keep", "(I)I"⟩
abbrev cX7_deep : ByteArray := prog_9_method_61_code
def yX7_deep : MethodName := ⟨RX7, "deep", "(II)I"⟩
abbrev cX7_mended : ByteArray := prog_9_method_62_code
def yX7_mended : MethodName := ⟨RX7, "mended", "(I)I"⟩
abbrev cX7_stops : ByteArray := prog_9_method_63_code
def yX7_stops : MethodName := ⟨RX7, "stops", "(II)I"⟩
abbrev cX7_care : ByteArray := prog_9_method_64_code
def yX7_care : MethodName := ⟨RX7, "care", "(I)I"⟩
abbrev cX7_holdsUp : ByteArray := prog_9_method_65_code
def yX7_holdsUp : MethodName := ⟨RX7, "holdsUp", "(I)I"⟩
abbrev cX7_middle : ByteArray := prog_9_method_66_code
def yX7_middle : MethodName := ⟨RX7, "middle", "()I"⟩
abbrev cX7_cutOff : ByteArray := prog_9_method_67_code
def yX7_cutOff : MethodName := ⟨RX7, "cutOff", "()I"⟩
abbrev cX7_bestPin : ByteArray := prog_9_method_68_code
def yX7_bestPin : MethodName := ⟨RX7, "bestPin", "(I)I"⟩
abbrev cX7_worst : ByteArray := prog_9_method_69_code
def yX7_worst : MethodName := ⟨RX7, "worst", "()I"⟩
abbrev cX7_row : ByteArray := prog_9_method_70_code
def yX7_row : MethodName := ⟨RX7, "row", "(I)I"⟩
abbrev cX7_firstWrong : ByteArray := prog_9_method_71_code
def yX7_firstWrong : MethodName := ⟨RX7, "firstWrong", "(II)I"⟩
abbrev cX7_which : ByteArray := prog_9_method_72_code
def yX7_which : MethodName := ⟨RX7, "which", "(II)I"⟩
abbrev cX7_judge : ByteArray := prog_9_method_73_code
def yX7_judge : MethodName := ⟨RX7, "judge", "(I)I"⟩
abbrev cX7_drawn : ByteArray := prog_9_method_74_code
def yX7_drawn : MethodName := ⟨RX7, "drawn", "(I)I"⟩
abbrev cX7_lots : ByteArray := prog_9_method_75_code
def yX7_lots : MethodName := ⟨RX7, "lots", "(III)I"⟩
abbrev cX7_image : ByteArray := prog_9_method_76_code
def yX7_image : MethodName := ⟨RX7, "image", "()I"⟩
abbrev cX7_on : ByteArray := prog_9_method_77_code
def yX7_on : MethodName := ⟨RX7, "on", "()I"⟩
abbrev cX7_count : ByteArray := prog_9_method_78_code
def yX7_count : MethodName := ⟨RX7, "count", "(I)I"⟩
def RJ11 : String := "java/lang/Character"
def TJ11 : u_T := fun k => match k with
  | _ => ("", "", "", false)
def tyJ11 : Nat → FieldType := fun k => match k with
  | _ => .int
abbrev cJ11_isValidCodePoint_9a6ad : ByteArray := prog_10_method_11_code
def yJ11_isValidCodePoint_9a6ad : MethodName := ⟨RJ11, "isValidCodePoint", "(I)Z"⟩
abbrev cJ11_highSurrogate_5068e : ByteArray := prog_10_method_28_code
def yJ11_highSurrogate_5068e : MethodName := ⟨RJ11, "highSurrogate", "(I)C"⟩
abbrev cJ11_lowSurrogate_5068e : ByteArray := prog_10_method_29_code
def yJ11_lowSurrogate_5068e : MethodName := ⟨RJ11, "lowSurrogate", "(I)C"⟩
def RJ9 : String := "java/lang/Math"
def TJ9 : u_T := fun k => match k with
  | _ => ("", "", "", false)
def tyJ9 : Nat → FieldType := fun k => match k with
  | _ => .int
abbrev cJ9_abs_0f7a4 : ByteArray := prog_11_method_59_code
def yJ9_abs_0f7a4 : MethodName := ⟨RJ9, "abs", "(I)I"⟩
abbrev cJ9_max_7cf53 : ByteArray := prog_11_method_65_code
def yJ9_max_7cf53 : MethodName := ⟨RJ9, "max", "(II)I"⟩
abbrev cJ9_min_7cf53 : ByteArray := prog_11_method_69_code
def yJ9_min_7cf53 : MethodName := ⟨RJ9, "min", "(II)I"⟩
def RJ0 : String := "java/lang/String"
def TJ0 : u_T := fun k => match k with
  | _ => ("", "", "", false)
def tyJ0 : Nat → FieldType := fun k => match k with
  | _ => .int
abbrev cJ0_length_8abf5 : ByteArray := prog_12_method_54_code
def yJ0_length_8abf5 : MethodName := ⟨RJ0, "length", "()I"⟩
abbrev cJ0_isEmpty_aae02 : ByteArray := prog_12_method_55_code
def yJ0_isEmpty_aae02 : MethodName := ⟨RJ0, "isEmpty", "()Z"⟩
abbrev cJ0_charAt_5068e : ByteArray := prog_12_method_56_code
def yJ0_charAt_5068e : MethodName := ⟨RJ0, "charAt", "(I)C"⟩
abbrev cJ0_indexOf_0f7a4 : ByteArray := prog_12_method_79_code
def yJ0_indexOf_0f7a4 : MethodName := ⟨RJ0, "indexOf", "(I)I"⟩
abbrev cJ0_indexOf_7cf53 : ByteArray := prog_12_method_80_code
def yJ0_indexOf_7cf53 : MethodName := ⟨RJ0, "indexOf", "(II)I"⟩
abbrev cJ0_coder_7d493 : ByteArray := prog_12_method_152_code
def yJ0_coder_7d493 : MethodName := ⟨RJ0, "coder", "()B"⟩
abbrev cJ0_isLatin1_aae02 : ByteArray := prog_12_method_154_code
def yJ0_isLatin1_aae02 : MethodName := ⟨RJ0, "isLatin1", "()Z"⟩
abbrev cJ0_checkIndex_df160 : ByteArray := prog_12_method_155_code
def yJ0_checkIndex_df160 : MethodName := ⟨RJ0, "checkIndex", "(II)V"⟩
abbrev cJ0_checkBoundsBeginEnd_23922 : ByteArray := prog_12_method_158_code
def yJ0_checkBoundsBeginEnd_23922 : MethodName := ⟨RJ0, "checkBoundsBeginEnd", "(III)V"⟩
def RJ1 : String := "java/lang/StringLatin1"
def TJ1 : u_T := fun k => match k with
  | _ => ("", "", "", false)
def tyJ1 : Nat → FieldType := fun k => match k with
  | _ => .int
abbrev cJ1_charAt_3b067 : ByteArray := prog_13_method_2_code
def yJ1_charAt_3b067 : MethodName := ⟨RJ1, "charAt", "([BI)C"⟩
abbrev cJ1_canEncode_9a6ad : ByteArray := prog_13_method_4_code
def yJ1_canEncode_9a6ad : MethodName := ⟨RJ1, "canEncode", "(I)Z"⟩
abbrev cJ1_indexOf_4cfef : ByteArray := prog_13_method_22_code
def yJ1_indexOf_4cfef : MethodName := ⟨RJ1, "indexOf", "([BIII)I"⟩
abbrev cJ1_indexOfChar_4cfef : ByteArray := prog_13_method_23_code
def yJ1_indexOfChar_4cfef : MethodName := ⟨RJ1, "indexOfChar", "([BIII)I"⟩
def RJ2 : String := "java/lang/StringUTF16"
def TJ2 : u_T := fun k => match k with
  | _ => ("", "", "", false)
def tyJ2 : Nat → FieldType := fun k => match k with
  | _ => .int
abbrev cJ2_getChar_3b067 : ByteArray := prog_14_method_5_code
def yJ2_getChar_3b067 : MethodName := ⟨RJ2, "getChar", "([BI)C"⟩
abbrev cJ2_length_9d52b : ByteArray := prog_14_method_6_code
def yJ2_length_9d52b : MethodName := ⟨RJ2, "length", "([B)I"⟩
abbrev cJ2_indexOf_4cfef : ByteArray := prog_14_method_40_code
def yJ2_indexOf_4cfef : MethodName := ⟨RJ2, "indexOf", "([BIII)I"⟩
abbrev cJ2_indexOfChar_4cfef : ByteArray := prog_14_method_47_code
def yJ2_indexOfChar_4cfef : MethodName := ⟨RJ2, "indexOfChar", "([BIII)I"⟩
abbrev cJ2_indexOfCharUnsafe_4cfef : ByteArray := prog_14_method_48_code
def yJ2_indexOfCharUnsafe_4cfef : MethodName := ⟨RJ2, "indexOfCharUnsafe", "([BIII)I"⟩
abbrev cJ2_indexOfSupplementary_4cfef : ByteArray := prog_14_method_49_code
def yJ2_indexOfSupplementary_4cfef : MethodName := ⟨RJ2, "indexOfSupplementary", "([BIII)I"⟩
abbrev cJ2_charAt_3b067 : ByteArray := prog_14_method_83_code
def yJ2_charAt_3b067 : MethodName := ⟨RJ2, "charAt", "([BI)C"⟩
abbrev cJ2_checkIndex_2214a : ByteArray := prog_14_method_91_code
def yJ2_checkIndex_2214a : MethodName := ⟨RJ2, "checkIndex", "(I[B)V"⟩
abbrev cJ2_checkBoundsBeginEnd_d044e : ByteArray := prog_14_method_93_code
def yJ2_checkBoundsBeginEnd_d044e : MethodName := ⟨RJ2, "checkBoundsBeginEnd", "(II[B)V"⟩
def RJ3 : String := "jdk/internal/util/Preconditions"
def TJ3 : u_T := fun k => match k with
  | _ => ("", "", "", false)
def tyJ3 : Nat → FieldType := fun k => match k with
  | _ => .int
abbrev cJ3_checkIndex_8e157 : ByteArray := prog_15_method_11_code
def yJ3_checkIndex_8e157 : MethodName := ⟨RJ3, "checkIndex", "(IILjava/util/function/BiFunction;)I"⟩
abbrev cJ3_checkFromToIndex_8c36e : ByteArray := prog_15_method_12_code
def yJ3_checkFromToIndex_8c36e : MethodName := ⟨RJ3, "checkFromToIndex", "(IIILjava/util/function/BiFunction;)I"⟩
def RL : String := "GoneIntoItsTunnelLaw"
abbrev cL_law : ByteArray := code
def yL_law : MethodName := ⟨RL, "law", "([I)Z"⟩
end
section
theorem dX0_init_0 : decode cX0_init 0 = .ok (.aload_n 0, 1) := by decide +kernel
theorem dX0_init_1 : decode cX0_init 1 = .ok (.invokespecial 3, 3) := by decide +kernel
theorem dX0_init_4 : decode cX0_init 4 = .ok (.aload_n 0, 1) := by decide +kernel
theorem dX0_init_5 : decode cX0_init 5 = .ok (.bipush 12, 2) := by decide +kernel
theorem dX0_init_7 : decode cX0_init 7 = .ok (.newarray .int, 2) := by decide +kernel
theorem dX0_init_9 : decode cX0_init 9 = .ok (.putfield 9, 3) := by decide +kernel
theorem dX0_init_12 : decode cX0_init 12 = .ok (.aload_n 0, 1) := by decide +kernel
theorem dX0_init_13 : decode cX0_init 13 = .ok (.bipush 12, 2) := by decide +kernel
theorem dX0_init_15 : decode cX0_init 15 = .ok (.newarray .int, 2) := by decide +kernel
theorem dX0_init_17 : decode cX0_init 17 = .ok (.putfield 15, 3) := by decide +kernel
theorem dX0_init_20 : decode cX0_init 20 = .ok (.aload_n 0, 1) := by decide +kernel
theorem dX0_init_21 : decode cX0_init 21 = .ok (.bipush 6, 2) := by decide +kernel
theorem dX0_init_23 : decode cX0_init 23 = .ok (.putfield 18, 3) := by decide +kernel
theorem dX0_init_26 : decode cX0_init 26 = .ok (.aload_n 0, 1) := by decide +kernel
theorem dX0_init_27 : decode cX0_init 27 = .ok (.bipush (-8), 2) := by decide +kernel
theorem dX0_init_29 : decode cX0_init 29 = .ok (.putfield 22, 3) := by decide +kernel
theorem dX0_init_32 : decode cX0_init 32 = .ok (.aload_n 0, 1) := by decide +kernel
theorem dX0_init_33 : decode cX0_init 33 = .ok (.bipush (-8), 2) := by decide +kernel
theorem dX0_init_35 : decode cX0_init 35 = .ok (.putfield 25, 3) := by decide +kernel
theorem dX0_init_38 : decode cX0_init 38 = .ok (.aload_n 0, 1) := by decide +kernel
theorem dX0_init_39 : decode cX0_init 39 = .ok (.iconst 0, 1) := by decide +kernel
theorem dX0_init_40 : decode cX0_init 40 = .ok (.putfield 28, 3) := by decide +kernel
theorem dX0_init_43 : decode cX0_init 43 = .ok (.aload_n 0, 1) := by decide +kernel
theorem dX0_init_44 : decode cX0_init 44 = .ok (.iconst 0, 1) := by decide +kernel
theorem dX0_init_45 : decode cX0_init 45 = .ok (.putfield 32, 3) := by decide +kernel
theorem dX0_init_48 : decode cX0_init 48 = .ok (.aload_n 0, 1) := by decide +kernel
theorem dX0_init_49 : decode cX0_init 49 = .ok (.iconst 0, 1) := by decide +kernel
theorem dX0_init_50 : decode cX0_init 50 = .ok (.putfield 35, 3) := by decide +kernel
theorem dX0_init_53 : decode cX0_init 53 = .ok (.aload_n 0, 1) := by decide +kernel
theorem dX0_init_54 : decode cX0_init 54 = .ok (.iconst 3, 1) := by decide +kernel
theorem dX0_init_55 : decode cX0_init 55 = .ok (.putfield 38, 3) := by decide +kernel
theorem dX0_init_58 : decode cX0_init 58 = .ok (.aload_n 0, 1) := by decide +kernel
theorem dX0_init_59 : decode cX0_init 59 = .ok (.iconst 3, 1) := by decide +kernel
theorem dX0_init_60 : decode cX0_init 60 = .ok (.putfield 41, 3) := by decide +kernel
theorem dX0_init_63 : decode cX0_init 63 = .ok (.return_, 1) := by decide +kernel
theorem dX0_copyFrom_0 : decode cX0_copyFrom 0 = .ok (.iconst 0, 1) := by decide +kernel
theorem dX0_copyFrom_1 : decode cX0_copyFrom 1 = .ok (.istore_n 2, 1) := by decide +kernel
theorem dX0_copyFrom_2 : decode cX0_copyFrom 2 = .ok (.iload_n 2, 1) := by decide +kernel
theorem dX0_copyFrom_3 : decode cX0_copyFrom 3 = .ok (.bipush 12, 2) := by decide +kernel
theorem dX0_copyFrom_5 : decode cX0_copyFrom 5 = .ok (.if_icmp .ge 24, 3) := by decide +kernel
theorem dX0_copyFrom_8 : decode cX0_copyFrom 8 = .ok (.aload_n 0, 1) := by decide +kernel
theorem dX0_copyFrom_9 : decode cX0_copyFrom 9 = .ok (.iload_n 2, 1) := by decide +kernel
theorem dX0_copyFrom_10 : decode cX0_copyFrom 10 = .ok (.aload_n 1, 1) := by decide +kernel
theorem dX0_copyFrom_11 : decode cX0_copyFrom 11 = .ok (.iload_n 2, 1) := by decide +kernel
theorem dX0_copyFrom_12 : decode cX0_copyFrom 12 = .ok (.invokevirtual 44, 3) := by decide +kernel
theorem dX0_copyFrom_15 : decode cX0_copyFrom 15 = .ok (.aload_n 1, 1) := by decide +kernel
theorem dX0_copyFrom_16 : decode cX0_copyFrom 16 = .ok (.iload_n 2, 1) := by decide +kernel
theorem dX0_copyFrom_17 : decode cX0_copyFrom 17 = .ok (.invokevirtual 48, 3) := by decide +kernel
theorem dX0_copyFrom_20 : decode cX0_copyFrom 20 = .ok (.invokevirtual 51, 3) := by decide +kernel
theorem dX0_copyFrom_23 : decode cX0_copyFrom 23 = .ok (.iinc 2 1, 3) := by decide +kernel
theorem dX0_copyFrom_26 : decode cX0_copyFrom 26 = .ok (.goto (-24), 3) := by decide +kernel
theorem dX0_copyFrom_29 : decode cX0_copyFrom 29 = .ok (.aload_n 0, 1) := by decide +kernel
theorem dX0_copyFrom_30 : decode cX0_copyFrom 30 = .ok (.aload_n 1, 1) := by decide +kernel
theorem dX0_copyFrom_31 : decode cX0_copyFrom 31 = .ok (.getfield 18, 3) := by decide +kernel
theorem dX0_copyFrom_34 : decode cX0_copyFrom 34 = .ok (.putfield 18, 3) := by decide +kernel
theorem dX0_copyFrom_37 : decode cX0_copyFrom 37 = .ok (.aload_n 0, 1) := by decide +kernel
theorem dX0_copyFrom_38 : decode cX0_copyFrom 38 = .ok (.aload_n 1, 1) := by decide +kernel
theorem dX0_copyFrom_39 : decode cX0_copyFrom 39 = .ok (.getfield 22, 3) := by decide +kernel
theorem dX0_copyFrom_42 : decode cX0_copyFrom 42 = .ok (.putfield 22, 3) := by decide +kernel
theorem dX0_copyFrom_45 : decode cX0_copyFrom 45 = .ok (.aload_n 0, 1) := by decide +kernel
theorem dX0_copyFrom_46 : decode cX0_copyFrom 46 = .ok (.aload_n 1, 1) := by decide +kernel
theorem dX0_copyFrom_47 : decode cX0_copyFrom 47 = .ok (.getfield 25, 3) := by decide +kernel
theorem dX0_copyFrom_50 : decode cX0_copyFrom 50 = .ok (.putfield 25, 3) := by decide +kernel
theorem dX0_copyFrom_53 : decode cX0_copyFrom 53 = .ok (.aload_n 0, 1) := by decide +kernel
theorem dX0_copyFrom_54 : decode cX0_copyFrom 54 = .ok (.aload_n 1, 1) := by decide +kernel
theorem dX0_copyFrom_55 : decode cX0_copyFrom 55 = .ok (.getfield 28, 3) := by decide +kernel
theorem dX0_copyFrom_58 : decode cX0_copyFrom 58 = .ok (.putfield 28, 3) := by decide +kernel
theorem dX0_copyFrom_61 : decode cX0_copyFrom 61 = .ok (.aload_n 0, 1) := by decide +kernel
theorem dX0_copyFrom_62 : decode cX0_copyFrom 62 = .ok (.aload_n 1, 1) := by decide +kernel
theorem dX0_copyFrom_63 : decode cX0_copyFrom 63 = .ok (.getfield 32, 3) := by decide +kernel
theorem dX0_copyFrom_66 : decode cX0_copyFrom 66 = .ok (.putfield 32, 3) := by decide +kernel
theorem dX0_copyFrom_69 : decode cX0_copyFrom 69 = .ok (.aload_n 0, 1) := by decide +kernel
theorem dX0_copyFrom_70 : decode cX0_copyFrom 70 = .ok (.aload_n 1, 1) := by decide +kernel
theorem dX0_copyFrom_71 : decode cX0_copyFrom 71 = .ok (.getfield 35, 3) := by decide +kernel
theorem dX0_copyFrom_74 : decode cX0_copyFrom 74 = .ok (.putfield 35, 3) := by decide +kernel
theorem dX0_copyFrom_77 : decode cX0_copyFrom 77 = .ok (.aload_n 0, 1) := by decide +kernel
theorem dX0_copyFrom_78 : decode cX0_copyFrom 78 = .ok (.aload_n 1, 1) := by decide +kernel
theorem dX0_copyFrom_79 : decode cX0_copyFrom 79 = .ok (.getfield 38, 3) := by decide +kernel
theorem dX0_copyFrom_82 : decode cX0_copyFrom 82 = .ok (.putfield 38, 3) := by decide +kernel
theorem dX0_copyFrom_85 : decode cX0_copyFrom 85 = .ok (.aload_n 0, 1) := by decide +kernel
theorem dX0_copyFrom_86 : decode cX0_copyFrom 86 = .ok (.aload_n 1, 1) := by decide +kernel
theorem dX0_copyFrom_87 : decode cX0_copyFrom 87 = .ok (.getfield 41, 3) := by decide +kernel
theorem dX0_copyFrom_90 : decode cX0_copyFrom 90 = .ok (.putfield 41, 3) := by decide +kernel
theorem dX0_copyFrom_93 : decode cX0_copyFrom 93 = .ok (.return_, 1) := by decide +kernel
theorem dX0_hasInch_0 : decode cX0_hasInch 0 = .ok (.iload_n 1, 1) := by decide +kernel
theorem dX0_hasInch_1 : decode cX0_hasInch 1 = .ok (.ifCond .lt 15, 3) := by decide +kernel
theorem dX0_hasInch_4 : decode cX0_hasInch 4 = .ok (.iload_n 1, 1) := by decide +kernel
theorem dX0_hasInch_5 : decode cX0_hasInch 5 = .ok (.aload_n 0, 1) := by decide +kernel
theorem dX0_hasInch_6 : decode cX0_hasInch 6 = .ok (.getfield 18, 3) := by decide +kernel
theorem dX0_hasInch_9 : decode cX0_hasInch 9 = .ok (.if_icmp .ge 7, 3) := by decide +kernel
theorem dX0_hasInch_12 : decode cX0_hasInch 12 = .ok (.iconst 1, 1) := by decide +kernel
theorem dX0_hasInch_13 : decode cX0_hasInch 13 = .ok (.goto 4, 3) := by decide +kernel
theorem dX0_hasInch_16 : decode cX0_hasInch 16 = .ok (.iconst 0, 1) := by decide +kernel
theorem dX0_hasInch_17 : decode cX0_hasInch 17 = .ok (.ireturn, 1) := by decide +kernel
theorem dX0_kindAt_0 : decode cX0_kindAt 0 = .ok (.iload_n 1, 1) := by decide +kernel
theorem dX0_kindAt_1 : decode cX0_kindAt 1 = .ok (.ifCond .lt 21, 3) := by decide +kernel
theorem dX0_kindAt_4 : decode cX0_kindAt 4 = .ok (.iload_n 1, 1) := by decide +kernel
theorem dX0_kindAt_5 : decode cX0_kindAt 5 = .ok (.aload_n 0, 1) := by decide +kernel
theorem dX0_kindAt_6 : decode cX0_kindAt 6 = .ok (.getfield 9, 3) := by decide +kernel
theorem dX0_kindAt_9 : decode cX0_kindAt 9 = .ok (.arraylength, 1) := by decide +kernel
theorem dX0_kindAt_10 : decode cX0_kindAt 10 = .ok (.if_icmp .ge 12, 3) := by decide +kernel
theorem dX0_kindAt_13 : decode cX0_kindAt 13 = .ok (.aload_n 0, 1) := by decide +kernel
theorem dX0_kindAt_14 : decode cX0_kindAt 14 = .ok (.getfield 9, 3) := by decide +kernel
theorem dX0_kindAt_17 : decode cX0_kindAt 17 = .ok (.iload_n 1, 1) := by decide +kernel
theorem dX0_kindAt_18 : decode cX0_kindAt 18 = .ok (.iaload, 1) := by decide +kernel
theorem dX0_kindAt_19 : decode cX0_kindAt 19 = .ok (.goto 4, 3) := by decide +kernel
theorem dX0_kindAt_22 : decode cX0_kindAt 22 = .ok (.iconst 0, 1) := by decide +kernel
theorem dX0_kindAt_23 : decode cX0_kindAt 23 = .ok (.ireturn, 1) := by decide +kernel
theorem dX0_figureAt_0 : decode cX0_figureAt 0 = .ok (.iload_n 1, 1) := by decide +kernel
theorem dX0_figureAt_1 : decode cX0_figureAt 1 = .ok (.ifCond .lt 21, 3) := by decide +kernel
theorem dX0_figureAt_4 : decode cX0_figureAt 4 = .ok (.iload_n 1, 1) := by decide +kernel
theorem dX0_figureAt_5 : decode cX0_figureAt 5 = .ok (.aload_n 0, 1) := by decide +kernel
theorem dX0_figureAt_6 : decode cX0_figureAt 6 = .ok (.getfield 15, 3) := by decide +kernel
theorem dX0_figureAt_9 : decode cX0_figureAt 9 = .ok (.arraylength, 1) := by decide +kernel
theorem dX0_figureAt_10 : decode cX0_figureAt 10 = .ok (.if_icmp .ge 12, 3) := by decide +kernel
theorem dX0_figureAt_13 : decode cX0_figureAt 13 = .ok (.aload_n 0, 1) := by decide +kernel
theorem dX0_figureAt_14 : decode cX0_figureAt 14 = .ok (.getfield 15, 3) := by decide +kernel
theorem dX0_figureAt_17 : decode cX0_figureAt 17 = .ok (.iload_n 1, 1) := by decide +kernel
theorem dX0_figureAt_18 : decode cX0_figureAt 18 = .ok (.iaload, 1) := by decide +kernel
theorem dX0_figureAt_19 : decode cX0_figureAt 19 = .ok (.goto 4, 3) := by decide +kernel
theorem dX0_figureAt_22 : decode cX0_figureAt 22 = .ok (.iconst 0, 1) := by decide +kernel
theorem dX0_figureAt_23 : decode cX0_figureAt 23 = .ok (.ireturn, 1) := by decide +kernel
theorem dX0_make_0 : decode cX0_make 0 = .ok (.iload_n 1, 1) := by decide +kernel
theorem dX0_make_1 : decode cX0_make 1 = .ok (.ifCond .lt 35, 3) := by decide +kernel
theorem dX0_make_4 : decode cX0_make 4 = .ok (.iload_n 1, 1) := by decide +kernel
theorem dX0_make_5 : decode cX0_make 5 = .ok (.aload_n 0, 1) := by decide +kernel
theorem dX0_make_6 : decode cX0_make 6 = .ok (.getfield 9, 3) := by decide +kernel
theorem dX0_make_9 : decode cX0_make 9 = .ok (.arraylength, 1) := by decide +kernel
theorem dX0_make_10 : decode cX0_make 10 = .ok (.if_icmp .ge 26, 3) := by decide +kernel
theorem dX0_make_13 : decode cX0_make 13 = .ok (.iload_n 1, 1) := by decide +kernel
theorem dX0_make_14 : decode cX0_make 14 = .ok (.aload_n 0, 1) := by decide +kernel
theorem dX0_make_15 : decode cX0_make 15 = .ok (.getfield 15, 3) := by decide +kernel
theorem dX0_make_18 : decode cX0_make 18 = .ok (.arraylength, 1) := by decide +kernel
theorem dX0_make_19 : decode cX0_make 19 = .ok (.if_icmp .ge 17, 3) := by decide +kernel
theorem dX0_make_22 : decode cX0_make 22 = .ok (.aload_n 0, 1) := by decide +kernel
theorem dX0_make_23 : decode cX0_make 23 = .ok (.getfield 9, 3) := by decide +kernel
theorem dX0_make_26 : decode cX0_make 26 = .ok (.iload_n 1, 1) := by decide +kernel
theorem dX0_make_27 : decode cX0_make 27 = .ok (.iload_n 2, 1) := by decide +kernel
theorem dX0_make_28 : decode cX0_make 28 = .ok (.iastore, 1) := by decide +kernel
theorem dX0_make_29 : decode cX0_make 29 = .ok (.aload_n 0, 1) := by decide +kernel
theorem dX0_make_30 : decode cX0_make 30 = .ok (.getfield 15, 3) := by decide +kernel
theorem dX0_make_33 : decode cX0_make 33 = .ok (.iload_n 1, 1) := by decide +kernel
theorem dX0_make_34 : decode cX0_make 34 = .ok (.iload_n 3, 1) := by decide +kernel
theorem dX0_make_35 : decode cX0_make 35 = .ok (.iastore, 1) := by decide +kernel
theorem dX0_make_36 : decode cX0_make 36 = .ok (.return_, 1) := by decide +kernel
theorem dX0_bunchMove_0 : decode cX0_bunchMove 0 = .ok (.aload_n 0, 1) := by decide +kernel
theorem dX0_bunchMove_1 : decode cX0_bunchMove 1 = .ok (.iload_n 1, 1) := by decide +kernel
theorem dX0_bunchMove_2 : decode cX0_bunchMove 2 = .ok (.invokevirtual 44, 3) := by decide +kernel
theorem dX0_bunchMove_5 : decode cX0_bunchMove 5 = .ok (.invokestatic 57, 3) := by decide +kernel
theorem dX0_bunchMove_8 : decode cX0_bunchMove 8 = .ok (.ireturn, 1) := by decide +kernel
theorem dX0_bunchSeconds_0 : decode cX0_bunchSeconds 0 = .ok (.aload_n 0, 1) := by decide +kernel
theorem dX0_bunchSeconds_1 : decode cX0_bunchSeconds 1 = .ok (.iload_n 1, 1) := by decide +kernel
theorem dX0_bunchSeconds_2 : decode cX0_bunchSeconds 2 = .ok (.invokevirtual 44, 3) := by decide +kernel
theorem dX0_bunchSeconds_5 : decode cX0_bunchSeconds 5 = .ok (.aload_n 0, 1) := by decide +kernel
theorem dX0_bunchSeconds_6 : decode cX0_bunchSeconds 6 = .ok (.iload_n 1, 1) := by decide +kernel
theorem dX0_bunchSeconds_7 : decode cX0_bunchSeconds 7 = .ok (.invokevirtual 48, 3) := by decide +kernel
theorem dX0_bunchSeconds_10 : decode cX0_bunchSeconds 10 = .ok (.invokestatic 60, 3) := by decide +kernel
theorem dX0_bunchSeconds_13 : decode cX0_bunchSeconds 13 = .ok (.ireturn, 1) := by decide +kernel
theorem dX0_threadSeconds_0 : decode cX0_threadSeconds 0 = .ok (.aload_n 0, 1) := by decide +kernel
theorem dX0_threadSeconds_1 : decode cX0_threadSeconds 1 = .ok (.iload_n 1, 1) := by decide +kernel
theorem dX0_threadSeconds_2 : decode cX0_threadSeconds 2 = .ok (.invokevirtual 44, 3) := by decide +kernel
theorem dX0_threadSeconds_5 : decode cX0_threadSeconds 5 = .ok (.aload_n 0, 1) := by decide +kernel
theorem dX0_threadSeconds_6 : decode cX0_threadSeconds 6 = .ok (.iload_n 1, 1) := by decide +kernel
theorem dX0_threadSeconds_7 : decode cX0_threadSeconds 7 = .ok (.invokevirtual 48, 3) := by decide +kernel
theorem dX0_threadSeconds_10 : decode cX0_threadSeconds 10 = .ok (.invokestatic 64, 3) := by decide +kernel
theorem dX0_threadSeconds_13 : decode cX0_threadSeconds 13 = .ok (.ireturn, 1) := by decide +kernel
theorem dX0_washDraw_0 : decode cX0_washDraw 0 = .ok (.aload_n 0, 1) := by decide +kernel
theorem dX0_washDraw_1 : decode cX0_washDraw 1 = .ok (.iload_n 1, 1) := by decide +kernel
theorem dX0_washDraw_2 : decode cX0_washDraw 2 = .ok (.invokevirtual 44, 3) := by decide +kernel
theorem dX0_washDraw_5 : decode cX0_washDraw 5 = .ok (.aload_n 0, 1) := by decide +kernel
theorem dX0_washDraw_6 : decode cX0_washDraw 6 = .ok (.getfield 41, 3) := by decide +kernel
theorem dX0_washDraw_9 : decode cX0_washDraw 9 = .ok (.invokestatic 67, 3) := by decide +kernel
theorem dX0_washDraw_12 : decode cX0_washDraw 12 = .ok (.ireturn, 1) := by decide +kernel
theorem dX0_seams_0 : decode cX0_seams 0 = .ok (.iconst 0, 1) := by decide +kernel
theorem dX0_seams_1 : decode cX0_seams 1 = .ok (.istore_n 1, 1) := by decide +kernel
theorem dX0_seams_2 : decode cX0_seams 2 = .ok (.iconst 0, 1) := by decide +kernel
theorem dX0_seams_3 : decode cX0_seams 3 = .ok (.istore_n 2, 1) := by decide +kernel
theorem dX0_seams_4 : decode cX0_seams 4 = .ok (.iload_n 2, 1) := by decide +kernel
theorem dX0_seams_5 : decode cX0_seams 5 = .ok (.aload_n 0, 1) := by decide +kernel
theorem dX0_seams_6 : decode cX0_seams 6 = .ok (.getfield 18, 3) := by decide +kernel
theorem dX0_seams_9 : decode cX0_seams 9 = .ok (.if_icmp .ge 28, 3) := by decide +kernel
theorem dX0_seams_12 : decode cX0_seams 12 = .ok (.iload_n 1, 1) := by decide +kernel
theorem dX0_seams_13 : decode cX0_seams 13 = .ok (.aload_n 0, 1) := by decide +kernel
theorem dX0_seams_14 : decode cX0_seams 14 = .ok (.iload_n 2, 1) := by decide +kernel
theorem dX0_seams_15 : decode cX0_seams 15 = .ok (.invokevirtual 44, 3) := by decide +kernel
theorem dX0_seams_18 : decode cX0_seams 18 = .ok (.invokestatic 70, 3) := by decide +kernel
theorem dX0_seams_21 : decode cX0_seams 21 = .ok (.ifCond .eq 7, 3) := by decide +kernel
theorem dX0_seams_24 : decode cX0_seams 24 = .ok (.iconst 1, 1) := by decide +kernel
theorem dX0_seams_25 : decode cX0_seams 25 = .ok (.goto 4, 3) := by decide +kernel
theorem dX0_seams_28 : decode cX0_seams 28 = .ok (.iconst 0, 1) := by decide +kernel
theorem dX0_seams_29 : decode cX0_seams 29 = .ok (.iadd, 1) := by decide +kernel
theorem dX0_seams_30 : decode cX0_seams 30 = .ok (.istore_n 1, 1) := by decide +kernel
theorem dX0_seams_31 : decode cX0_seams 31 = .ok (.iinc 2 1, 3) := by decide +kernel
theorem dX0_seams_34 : decode cX0_seams 34 = .ok (.goto (-30), 3) := by decide +kernel
theorem dX0_seams_37 : decode cX0_seams 37 = .ok (.iload_n 1, 1) := by decide +kernel
theorem dX0_seams_38 : decode cX0_seams 38 = .ok (.ireturn, 1) := by decide +kernel
theorem dX0_secondsAnewOf_0 : decode cX0_secondsAnewOf 0 = .ok (.aload_n 0, 1) := by decide +kernel
theorem dX0_secondsAnewOf_1 : decode cX0_secondsAnewOf 1 = .ok (.iload_n 1, 1) := by decide +kernel
theorem dX0_secondsAnewOf_2 : decode cX0_secondsAnewOf 2 = .ok (.invokevirtual 74, 3) := by decide +kernel
theorem dX0_secondsAnewOf_5 : decode cX0_secondsAnewOf 5 = .ok (.aload_n 0, 1) := by decide +kernel
theorem dX0_secondsAnewOf_6 : decode cX0_secondsAnewOf 6 = .ok (.iload_n 1, 1) := by decide +kernel
theorem dX0_secondsAnewOf_7 : decode cX0_secondsAnewOf 7 = .ok (.invokevirtual 44, 3) := by decide +kernel
theorem dX0_secondsAnewOf_10 : decode cX0_secondsAnewOf 10 = .ok (.invokestatic 70, 3) := by decide +kernel
theorem dX0_secondsAnewOf_13 : decode cX0_secondsAnewOf 13 = .ok (.ifCond .eq 10, 3) := by decide +kernel
theorem dX0_secondsAnewOf_16 : decode cX0_secondsAnewOf 16 = .ok (.bipush 10, 2) := by decide +kernel
theorem dX0_secondsAnewOf_18 : decode cX0_secondsAnewOf 18 = .ok (.iload_n 2, 1) := by decide +kernel
theorem dX0_secondsAnewOf_19 : decode cX0_secondsAnewOf 19 = .ok (.isub, 1) := by decide +kernel
theorem dX0_secondsAnewOf_20 : decode cX0_secondsAnewOf 20 = .ok (.goto 4, 3) := by decide +kernel
theorem dX0_secondsAnewOf_23 : decode cX0_secondsAnewOf 23 = .ok (.iconst 0, 1) := by decide +kernel
theorem dX0_secondsAnewOf_24 : decode cX0_secondsAnewOf 24 = .ok (.iadd, 1) := by decide +kernel
theorem dX0_secondsAnewOf_25 : decode cX0_secondsAnewOf 25 = .ok (.ireturn, 1) := by decide +kernel
theorem dX0_secondsAnew_0 : decode cX0_secondsAnew 0 = .ok (.iconst 0, 1) := by decide +kernel
theorem dX0_secondsAnew_1 : decode cX0_secondsAnew 1 = .ok (.istore_n 2, 1) := by decide +kernel
theorem dX0_secondsAnew_2 : decode cX0_secondsAnew 2 = .ok (.iconst 0, 1) := by decide +kernel
theorem dX0_secondsAnew_3 : decode cX0_secondsAnew 3 = .ok (.istore_n 3, 1) := by decide +kernel
theorem dX0_secondsAnew_4 : decode cX0_secondsAnew 4 = .ok (.iload_n 3, 1) := by decide +kernel
theorem dX0_secondsAnew_5 : decode cX0_secondsAnew 5 = .ok (.aload_n 0, 1) := by decide +kernel
theorem dX0_secondsAnew_6 : decode cX0_secondsAnew 6 = .ok (.getfield 18, 3) := by decide +kernel
theorem dX0_secondsAnew_9 : decode cX0_secondsAnew 9 = .ok (.if_icmp .ge 18, 3) := by decide +kernel
theorem dX0_secondsAnew_12 : decode cX0_secondsAnew 12 = .ok (.iload_n 2, 1) := by decide +kernel
theorem dX0_secondsAnew_13 : decode cX0_secondsAnew 13 = .ok (.aload_n 0, 1) := by decide +kernel
theorem dX0_secondsAnew_14 : decode cX0_secondsAnew 14 = .ok (.iload_n 3, 1) := by decide +kernel
theorem dX0_secondsAnew_15 : decode cX0_secondsAnew 15 = .ok (.iload_n 1, 1) := by decide +kernel
theorem dX0_secondsAnew_16 : decode cX0_secondsAnew 16 = .ok (.invokevirtual 76, 3) := by decide +kernel
theorem dX0_secondsAnew_19 : decode cX0_secondsAnew 19 = .ok (.iadd, 1) := by decide +kernel
theorem dX0_secondsAnew_20 : decode cX0_secondsAnew 20 = .ok (.istore_n 2, 1) := by decide +kernel
theorem dX0_secondsAnew_21 : decode cX0_secondsAnew 21 = .ok (.iinc 3 1, 3) := by decide +kernel
theorem dX0_secondsAnew_24 : decode cX0_secondsAnew 24 = .ok (.goto (-20), 3) := by decide +kernel
theorem dX0_secondsAnew_27 : decode cX0_secondsAnew 27 = .ok (.iload_n 2, 1) := by decide +kernel
theorem dX0_secondsAnew_28 : decode cX0_secondsAnew 28 = .ok (.ireturn, 1) := by decide +kernel
theorem dX0_threadAnew_0 : decode cX0_threadAnew 0 = .ok (.aload_n 0, 1) := by decide +kernel
theorem dX0_threadAnew_1 : decode cX0_threadAnew 1 = .ok (.bipush (-8), 2) := by decide +kernel
theorem dX0_threadAnew_3 : decode cX0_threadAnew 3 = .ok (.putfield 22, 3) := by decide +kernel
theorem dX0_threadAnew_6 : decode cX0_threadAnew 6 = .ok (.aload_n 0, 1) := by decide +kernel
theorem dX0_threadAnew_7 : decode cX0_threadAnew 7 = .ok (.bipush (-8), 2) := by decide +kernel
theorem dX0_threadAnew_9 : decode cX0_threadAnew 9 = .ok (.putfield 25, 3) := by decide +kernel
theorem dX0_threadAnew_12 : decode cX0_threadAnew 12 = .ok (.return_, 1) := by decide +kernel
theorem dX0_depth_0 : decode cX0_depth 0 = .ok (.iload_n 1, 1) := by decide +kernel
theorem dX0_depth_1 : decode cX0_depth 1 = .ok (.ifCond .ne 10, 3) := by decide +kernel
theorem dX0_depth_4 : decode cX0_depth 4 = .ok (.aload_n 0, 1) := by decide +kernel
theorem dX0_depth_5 : decode cX0_depth 5 = .ok (.getfield 22, 3) := by decide +kernel
theorem dX0_depth_8 : decode cX0_depth 8 = .ok (.goto 7, 3) := by decide +kernel
theorem dX0_depth_11 : decode cX0_depth 11 = .ok (.aload_n 0, 1) := by decide +kernel
theorem dX0_depth_12 : decode cX0_depth 12 = .ok (.getfield 25, 3) := by decide +kernel
theorem dX0_depth_15 : decode cX0_depth 15 = .ok (.ireturn, 1) := by decide +kernel
theorem dX0_place_0 : decode cX0_place 0 = .ok (.iload_n 1, 1) := by decide +kernel
theorem dX0_place_1 : decode cX0_place 1 = .ok (.ifCond .ne 11, 3) := by decide +kernel
theorem dX0_place_4 : decode cX0_place 4 = .ok (.aload_n 0, 1) := by decide +kernel
theorem dX0_place_5 : decode cX0_place 5 = .ok (.iload_n 2, 1) := by decide +kernel
theorem dX0_place_6 : decode cX0_place 6 = .ok (.putfield 22, 3) := by decide +kernel
theorem dX0_place_9 : decode cX0_place 9 = .ok (.goto 8, 3) := by decide +kernel
theorem dX0_place_12 : decode cX0_place 12 = .ok (.aload_n 0, 1) := by decide +kernel
theorem dX0_place_13 : decode cX0_place 13 = .ok (.iload_n 2, 1) := by decide +kernel
theorem dX0_place_14 : decode cX0_place 14 = .ok (.putfield 25, 3) := by decide +kernel
theorem dX0_place_17 : decode cX0_place 17 = .ok (.return_, 1) := by decide +kernel
theorem dX0_isKnotted_0 : decode cX0_isKnotted 0 = .ok (.iload_n 1, 1) := by decide +kernel
theorem dX0_isKnotted_1 : decode cX0_isKnotted 1 = .ok (.ifCond .ne 10, 3) := by decide +kernel
theorem dX0_isKnotted_4 : decode cX0_isKnotted 4 = .ok (.aload_n 0, 1) := by decide +kernel
theorem dX0_isKnotted_5 : decode cX0_isKnotted 5 = .ok (.getfield 28, 3) := by decide +kernel
theorem dX0_isKnotted_8 : decode cX0_isKnotted 8 = .ok (.goto 7, 3) := by decide +kernel
theorem dX0_isKnotted_11 : decode cX0_isKnotted 11 = .ok (.aload_n 0, 1) := by decide +kernel
theorem dX0_isKnotted_12 : decode cX0_isKnotted 12 = .ok (.getfield 32, 3) := by decide +kernel
theorem dX0_isKnotted_15 : decode cX0_isKnotted 15 = .ok (.ireturn, 1) := by decide +kernel
theorem dX0_knot_0 : decode cX0_knot 0 = .ok (.iload_n 1, 1) := by decide +kernel
theorem dX0_knot_1 : decode cX0_knot 1 = .ok (.ifCond .ne 11, 3) := by decide +kernel
theorem dX0_knot_4 : decode cX0_knot 4 = .ok (.aload_n 0, 1) := by decide +kernel
theorem dX0_knot_5 : decode cX0_knot 5 = .ok (.iload_n 2, 1) := by decide +kernel
theorem dX0_knot_6 : decode cX0_knot 6 = .ok (.putfield 28, 3) := by decide +kernel
theorem dX0_knot_9 : decode cX0_knot 9 = .ok (.goto 8, 3) := by decide +kernel
theorem dX0_knot_12 : decode cX0_knot 12 = .ok (.aload_n 0, 1) := by decide +kernel
theorem dX0_knot_13 : decode cX0_knot 13 = .ok (.iload_n 2, 1) := by decide +kernel
theorem dX0_knot_14 : decode cX0_knot 14 = .ok (.putfield 32, 3) := by decide +kernel
theorem dX0_knot_17 : decode cX0_knot 17 = .ok (.return_, 1) := by decide +kernel
theorem dX0_isLost_0 : decode cX0_isLost 0 = .ok (.aload_n 0, 1) := by decide +kernel
theorem dX0_isLost_1 : decode cX0_isLost 1 = .ok (.iload_n 1, 1) := by decide +kernel
theorem dX0_isLost_2 : decode cX0_isLost 2 = .ok (.invokevirtual 79, 3) := by decide +kernel
theorem dX0_isLost_5 : decode cX0_isLost 5 = .ok (.iconst 1, 1) := by decide +kernel
theorem dX0_isLost_6 : decode cX0_isLost 6 = .ok (.if_icmp .lt 7, 3) := by decide +kernel
theorem dX0_isLost_9 : decode cX0_isLost 9 = .ok (.iconst 1, 1) := by decide +kernel
theorem dX0_isLost_10 : decode cX0_isLost 10 = .ok (.goto 4, 3) := by decide +kernel
theorem dX0_isLost_13 : decode cX0_isLost 13 = .ok (.iconst 0, 1) := by decide +kernel
theorem dX0_isLost_14 : decode cX0_isLost 14 = .ok (.ireturn, 1) := by decide +kernel
theorem dX0_lostEnds_0 : decode cX0_lostEnds 0 = .ok (.aload_n 0, 1) := by decide +kernel
theorem dX0_lostEnds_1 : decode cX0_lostEnds 1 = .ok (.iconst 0, 1) := by decide +kernel
theorem dX0_lostEnds_2 : decode cX0_lostEnds 2 = .ok (.invokevirtual 82, 3) := by decide +kernel
theorem dX0_lostEnds_5 : decode cX0_lostEnds 5 = .ok (.ifCond .eq 7, 3) := by decide +kernel
theorem dX0_lostEnds_8 : decode cX0_lostEnds 8 = .ok (.iconst 1, 1) := by decide +kernel
theorem dX0_lostEnds_9 : decode cX0_lostEnds 9 = .ok (.goto 4, 3) := by decide +kernel
theorem dX0_lostEnds_12 : decode cX0_lostEnds 12 = .ok (.iconst 0, 1) := by decide +kernel
theorem dX0_lostEnds_13 : decode cX0_lostEnds 13 = .ok (.aload_n 0, 1) := by decide +kernel
theorem dX0_lostEnds_14 : decode cX0_lostEnds 14 = .ok (.iconst 1, 1) := by decide +kernel
theorem dX0_lostEnds_15 : decode cX0_lostEnds 15 = .ok (.invokevirtual 82, 3) := by decide +kernel
theorem dX0_lostEnds_18 : decode cX0_lostEnds 18 = .ok (.ifCond .eq 7, 3) := by decide +kernel
theorem dX0_lostEnds_21 : decode cX0_lostEnds 21 = .ok (.iconst 1, 1) := by decide +kernel
theorem dX0_lostEnds_22 : decode cX0_lostEnds 22 = .ok (.goto 4, 3) := by decide +kernel
theorem dX0_lostEnds_25 : decode cX0_lostEnds 25 = .ok (.iconst 0, 1) := by decide +kernel
theorem dX0_lostEnds_26 : decode cX0_lostEnds 26 = .ok (.iadd, 1) := by decide +kernel
theorem dX0_lostEnds_27 : decode cX0_lostEnds 27 = .ok (.ireturn, 1) := by decide +kernel
theorem dX0_inchAt_0 : decode cX0_inchAt 0 = .ok (.iload_n 2, 1) := by decide +kernel
theorem dX0_inchAt_1 : decode cX0_inchAt 1 = .ok (.iconst 1, 1) := by decide +kernel
theorem dX0_inchAt_2 : decode cX0_inchAt 2 = .ok (.if_icmp .lt 20, 3) := by decide +kernel
theorem dX0_inchAt_5 : decode cX0_inchAt 5 = .ok (.iload_n 2, 1) := by decide +kernel
theorem dX0_inchAt_6 : decode cX0_inchAt 6 = .ok (.iconst 1, 1) := by decide +kernel
theorem dX0_inchAt_7 : decode cX0_inchAt 7 = .ok (.isub, 1) := by decide +kernel
theorem dX0_inchAt_8 : decode cX0_inchAt 8 = .ok (.iconst 2, 1) := by decide +kernel
theorem dX0_inchAt_9 : decode cX0_inchAt 9 = .ok (.idiv, 1) := by decide +kernel
theorem dX0_inchAt_10 : decode cX0_inchAt 10 = .ok (.aload_n 0, 1) := by decide +kernel
theorem dX0_inchAt_11 : decode cX0_inchAt 11 = .ok (.getfield 18, 3) := by decide +kernel
theorem dX0_inchAt_14 : decode cX0_inchAt 14 = .ok (.iconst 1, 1) := by decide +kernel
theorem dX0_inchAt_15 : decode cX0_inchAt 15 = .ok (.isub, 1) := by decide +kernel
theorem dX0_inchAt_16 : decode cX0_inchAt 16 = .ok (.invokestatic 85, 3) := by decide +kernel
theorem dX0_inchAt_19 : decode cX0_inchAt 19 = .ok (.goto 4, 3) := by decide +kernel
theorem dX0_inchAt_22 : decode cX0_inchAt 22 = .ok (.iconst 0, 1) := by decide +kernel
theorem dX0_inchAt_23 : decode cX0_inchAt 23 = .ok (.istore_n 3, 1) := by decide +kernel
theorem dX0_inchAt_24 : decode cX0_inchAt 24 = .ok (.iload_n 1, 1) := by decide +kernel
theorem dX0_inchAt_25 : decode cX0_inchAt 25 = .ok (.ifCond .ne 7, 3) := by decide +kernel
theorem dX0_inchAt_28 : decode cX0_inchAt 28 = .ok (.iload_n 3, 1) := by decide +kernel
theorem dX0_inchAt_29 : decode cX0_inchAt 29 = .ok (.goto 11, 3) := by decide +kernel
theorem dX0_inchAt_32 : decode cX0_inchAt 32 = .ok (.aload_n 0, 1) := by decide +kernel
theorem dX0_inchAt_33 : decode cX0_inchAt 33 = .ok (.getfield 18, 3) := by decide +kernel
theorem dX0_inchAt_36 : decode cX0_inchAt 36 = .ok (.iconst 1, 1) := by decide +kernel
theorem dX0_inchAt_37 : decode cX0_inchAt 37 = .ok (.isub, 1) := by decide +kernel
theorem dX0_inchAt_38 : decode cX0_inchAt 38 = .ok (.iload_n 3, 1) := by decide +kernel
theorem dX0_inchAt_39 : decode cX0_inchAt 39 = .ok (.isub, 1) := by decide +kernel
theorem dX0_inchAt_40 : decode cX0_inchAt 40 = .ok (.ireturn, 1) := by decide +kernel
theorem dX0_canDraw_0 : decode cX0_canDraw 0 = .ok (.aload_n 0, 1) := by decide +kernel
theorem dX0_canDraw_1 : decode cX0_canDraw 1 = .ok (.getfield 35, 3) := by decide +kernel
theorem dX0_canDraw_4 : decode cX0_canDraw 4 = .ok (.ifCond .eq 5, 3) := by decide +kernel
theorem dX0_canDraw_7 : decode cX0_canDraw 7 = .ok (.iconst 0, 1) := by decide +kernel
theorem dX0_canDraw_8 : decode cX0_canDraw 8 = .ok (.ireturn, 1) := by decide +kernel
theorem dX0_canDraw_9 : decode cX0_canDraw 9 = .ok (.iload_n 1, 1) := by decide +kernel
theorem dX0_canDraw_10 : decode cX0_canDraw 10 = .ok (.ifCond .ne 10, 3) := by decide +kernel
theorem dX0_canDraw_13 : decode cX0_canDraw 13 = .ok (.aload_n 0, 1) := by decide +kernel
theorem dX0_canDraw_14 : decode cX0_canDraw 14 = .ok (.getfield 22, 3) := by decide +kernel
theorem dX0_canDraw_17 : decode cX0_canDraw 17 = .ok (.goto 7, 3) := by decide +kernel
theorem dX0_canDraw_20 : decode cX0_canDraw 20 = .ok (.aload_n 0, 1) := by decide +kernel
theorem dX0_canDraw_21 : decode cX0_canDraw 21 = .ok (.getfield 25, 3) := by decide +kernel
theorem dX0_canDraw_24 : decode cX0_canDraw 24 = .ok (.istore_n 3, 1) := by decide +kernel
theorem dX0_canDraw_25 : decode cX0_canDraw 25 = .ok (.iload_n 1, 1) := by decide +kernel
theorem dX0_canDraw_26 : decode cX0_canDraw 26 = .ok (.ifCond .ne 10, 3) := by decide +kernel
theorem dX0_canDraw_29 : decode cX0_canDraw 29 = .ok (.aload_n 0, 1) := by decide +kernel
theorem dX0_canDraw_30 : decode cX0_canDraw 30 = .ok (.getfield 25, 3) := by decide +kernel
theorem dX0_canDraw_33 : decode cX0_canDraw 33 = .ok (.goto 7, 3) := by decide +kernel
theorem dX0_canDraw_36 : decode cX0_canDraw 36 = .ok (.aload_n 0, 1) := by decide +kernel
theorem dX0_canDraw_37 : decode cX0_canDraw 37 = .ok (.getfield 22, 3) := by decide +kernel
theorem dX0_canDraw_40 : decode cX0_canDraw 40 = .ok (.istore 4, 2) := by decide +kernel
theorem dX0_canDraw_42 : decode cX0_canDraw 42 = .ok (.iload_n 1, 1) := by decide +kernel
theorem dX0_canDraw_43 : decode cX0_canDraw 43 = .ok (.ifCond .ne 10, 3) := by decide +kernel
theorem dX0_canDraw_46 : decode cX0_canDraw 46 = .ok (.aload_n 0, 1) := by decide +kernel
theorem dX0_canDraw_47 : decode cX0_canDraw 47 = .ok (.getfield 32, 3) := by decide +kernel
theorem dX0_canDraw_50 : decode cX0_canDraw 50 = .ok (.goto 7, 3) := by decide +kernel
theorem dX0_canDraw_53 : decode cX0_canDraw 53 = .ok (.aload_n 0, 1) := by decide +kernel
theorem dX0_canDraw_54 : decode cX0_canDraw 54 = .ok (.getfield 28, 3) := by decide +kernel
theorem dX0_canDraw_57 : decode cX0_canDraw 57 = .ok (.istore 5, 2) := by decide +kernel
theorem dX0_canDraw_59 : decode cX0_canDraw 59 = .ok (.iload_n 3, 1) := by decide +kernel
theorem dX0_canDraw_60 : decode cX0_canDraw 60 = .ok (.bipush (-40), 2) := by decide +kernel
theorem dX0_canDraw_62 : decode cX0_canDraw 62 = .ok (.isub, 1) := by decide +kernel
theorem dX0_canDraw_63 : decode cX0_canDraw 63 = .ok (.iload 5, 2) := by decide +kernel
theorem dX0_canDraw_65 : decode cX0_canDraw 65 = .ok (.ifCond .eq 7, 3) := by decide +kernel
theorem dX0_canDraw_68 : decode cX0_canDraw 68 = .ok (.iconst 0, 1) := by decide +kernel
theorem dX0_canDraw_69 : decode cX0_canDraw 69 = .ok (.goto 5, 3) := by decide +kernel
theorem dX0_canDraw_72 : decode cX0_canDraw 72 = .ok (.bipush 24, 2) := by decide +kernel
theorem dX0_canDraw_74 : decode cX0_canDraw 74 = .ok (.iload 4, 2) := by decide +kernel
theorem dX0_canDraw_76 : decode cX0_canDraw 76 = .ok (.isub, 1) := by decide +kernel
theorem dX0_canDraw_77 : decode cX0_canDraw 77 = .ok (.invokestatic 85, 3) := by decide +kernel
theorem dX0_canDraw_80 : decode cX0_canDraw 80 = .ok (.istore 6, 2) := by decide +kernel
theorem dX0_canDraw_82 : decode cX0_canDraw 82 = .ok (.iconst 0, 1) := by decide +kernel
theorem dX0_canDraw_83 : decode cX0_canDraw 83 = .ok (.iload_n 2, 1) := by decide +kernel
theorem dX0_canDraw_84 : decode cX0_canDraw 84 = .ok (.iload 6, 2) := by decide +kernel
theorem dX0_canDraw_86 : decode cX0_canDraw 86 = .ok (.invokestatic 85, 3) := by decide +kernel
theorem dX0_canDraw_89 : decode cX0_canDraw 89 = .ok (.invokestatic 90, 3) := by decide +kernel
theorem dX0_canDraw_92 : decode cX0_canDraw 92 = .ok (.ireturn, 1) := by decide +kernel
theorem dX0_draw_0 : decode cX0_draw 0 = .ok (.aload_n 0, 1) := by decide +kernel
theorem dX0_draw_1 : decode cX0_draw 1 = .ok (.iload_n 1, 1) := by decide +kernel
theorem dX0_draw_2 : decode cX0_draw 2 = .ok (.iload_n 2, 1) := by decide +kernel
theorem dX0_draw_3 : decode cX0_draw 3 = .ok (.invokevirtual 93, 3) := by decide +kernel
theorem dX0_draw_6 : decode cX0_draw 6 = .ok (.istore_n 3, 1) := by decide +kernel
theorem dX0_draw_7 : decode cX0_draw 7 = .ok (.iconst 1, 1) := by decide +kernel
theorem dX0_draw_8 : decode cX0_draw 8 = .ok (.iload_n 1, 1) := by decide +kernel
theorem dX0_draw_9 : decode cX0_draw 9 = .ok (.isub, 1) := by decide +kernel
theorem dX0_draw_10 : decode cX0_draw 10 = .ok (.istore 4, 2) := by decide +kernel
theorem dX0_draw_12 : decode cX0_draw 12 = .ok (.aload_n 0, 1) := by decide +kernel
theorem dX0_draw_13 : decode cX0_draw 13 = .ok (.iload_n 1, 1) := by decide +kernel
theorem dX0_draw_14 : decode cX0_draw 14 = .ok (.aload_n 0, 1) := by decide +kernel
theorem dX0_draw_15 : decode cX0_draw 15 = .ok (.iload_n 1, 1) := by decide +kernel
theorem dX0_draw_16 : decode cX0_draw 16 = .ok (.invokevirtual 79, 3) := by decide +kernel
theorem dX0_draw_19 : decode cX0_draw 19 = .ok (.iload_n 3, 1) := by decide +kernel
theorem dX0_draw_20 : decode cX0_draw 20 = .ok (.isub, 1) := by decide +kernel
theorem dX0_draw_21 : decode cX0_draw 21 = .ok (.invokevirtual 96, 3) := by decide +kernel
theorem dX0_draw_24 : decode cX0_draw 24 = .ok (.aload_n 0, 1) := by decide +kernel
theorem dX0_draw_25 : decode cX0_draw 25 = .ok (.iload 4, 2) := by decide +kernel
theorem dX0_draw_27 : decode cX0_draw 27 = .ok (.aload_n 0, 1) := by decide +kernel
theorem dX0_draw_28 : decode cX0_draw 28 = .ok (.iload 4, 2) := by decide +kernel
theorem dX0_draw_30 : decode cX0_draw 30 = .ok (.invokevirtual 79, 3) := by decide +kernel
theorem dX0_draw_33 : decode cX0_draw 33 = .ok (.iload_n 3, 1) := by decide +kernel
theorem dX0_draw_34 : decode cX0_draw 34 = .ok (.iadd, 1) := by decide +kernel
theorem dX0_draw_35 : decode cX0_draw 35 = .ok (.invokevirtual 96, 3) := by decide +kernel
theorem dX0_draw_38 : decode cX0_draw 38 = .ok (.iload_n 3, 1) := by decide +kernel
theorem dX0_draw_39 : decode cX0_draw 39 = .ok (.ireturn, 1) := by decide +kernel
theorem dX0_washOnce_0 : decode cX0_washOnce 0 = .ok (.aload_n 0, 1) := by decide +kernel
theorem dX0_washOnce_1 : decode cX0_washOnce 1 = .ok (.getfield 25, 3) := by decide +kernel
theorem dX0_washOnce_4 : decode cX0_washOnce 4 = .ok (.aload_n 0, 1) := by decide +kernel
theorem dX0_washOnce_5 : decode cX0_washOnce 5 = .ok (.getfield 22, 3) := by decide +kernel
theorem dX0_washOnce_8 : decode cX0_washOnce 8 = .ok (.if_icmp .le 7, 3) := by decide +kernel
theorem dX0_washOnce_11 : decode cX0_washOnce 11 = .ok (.iconst 1, 1) := by decide +kernel
theorem dX0_washOnce_12 : decode cX0_washOnce 12 = .ok (.goto 4, 3) := by decide +kernel
theorem dX0_washOnce_15 : decode cX0_washOnce 15 = .ok (.iconst 0, 1) := by decide +kernel
theorem dX0_washOnce_16 : decode cX0_washOnce 16 = .ok (.istore_n 1, 1) := by decide +kernel
theorem dX0_washOnce_17 : decode cX0_washOnce 17 = .ok (.aload_n 0, 1) := by decide +kernel
theorem dX0_washOnce_18 : decode cX0_washOnce 18 = .ok (.iconst 1, 1) := by decide +kernel
theorem dX0_washOnce_19 : decode cX0_washOnce 19 = .ok (.iload_n 1, 1) := by decide +kernel
theorem dX0_washOnce_20 : decode cX0_washOnce 20 = .ok (.isub, 1) := by decide +kernel
theorem dX0_washOnce_21 : decode cX0_washOnce 21 = .ok (.aload_n 0, 1) := by decide +kernel
theorem dX0_washOnce_22 : decode cX0_washOnce 22 = .ok (.aload_n 0, 1) := by decide +kernel
theorem dX0_washOnce_23 : decode cX0_washOnce 23 = .ok (.iload_n 1, 1) := by decide +kernel
theorem dX0_washOnce_24 : decode cX0_washOnce 24 = .ok (.aload_n 0, 1) := by decide +kernel
theorem dX0_washOnce_25 : decode cX0_washOnce 25 = .ok (.iload_n 1, 1) := by decide +kernel
theorem dX0_washOnce_26 : decode cX0_washOnce 26 = .ok (.invokevirtual 79, 3) := by decide +kernel
theorem dX0_washOnce_29 : decode cX0_washOnce 29 = .ok (.invokevirtual 100, 3) := by decide +kernel
theorem dX0_washOnce_32 : decode cX0_washOnce 32 = .ok (.invokevirtual 103, 3) := by decide +kernel
theorem dX0_washOnce_35 : decode cX0_washOnce 35 = .ok (.invokevirtual 105, 3) := by decide +kernel
theorem dX0_washOnce_38 : decode cX0_washOnce 38 = .ok (.ireturn, 1) := by decide +kernel
theorem dX0_washTimes_0 : decode cX0_washTimes 0 = .ok (.iconst 0, 1) := by decide +kernel
theorem dX0_washTimes_1 : decode cX0_washTimes 1 = .ok (.istore_n 2, 1) := by decide +kernel
theorem dX0_washTimes_2 : decode cX0_washTimes 2 = .ok (.iload_n 2, 1) := by decide +kernel
theorem dX0_washTimes_3 : decode cX0_washTimes 3 = .ok (.iload_n 1, 1) := by decide +kernel
theorem dX0_washTimes_4 : decode cX0_washTimes 4 = .ok (.if_icmp .ge 17, 3) := by decide +kernel
theorem dX0_washTimes_7 : decode cX0_washTimes 7 = .ok (.aload_n 0, 1) := by decide +kernel
theorem dX0_washTimes_8 : decode cX0_washTimes 8 = .ok (.invokevirtual 108, 3) := by decide +kernel
theorem dX0_washTimes_11 : decode cX0_washTimes 11 = .ok (.ifCond .ne 4, 3) := by decide +kernel
theorem dX0_washTimes_14 : decode cX0_washTimes 14 = .ok (.return_, 1) := by decide +kernel
theorem dX0_washTimes_15 : decode cX0_washTimes 15 = .ok (.iinc 2 1, 3) := by decide +kernel
theorem dX0_washTimes_18 : decode cX0_washTimes 18 = .ok (.goto (-16), 3) := by decide +kernel
theorem dX0_washTimes_21 : decode cX0_washTimes 21 = .ok (.return_, 1) := by decide +kernel
theorem dX1_isSign_0 : decode cX1_isSign 0 = .ok (.ldc 9, 2) := by decide +kernel
theorem dX1_isSign_2 : decode cX1_isSign 2 = .ok (.iload_n 0, 1) := by decide +kernel
theorem dX1_isSign_3 : decode cX1_isSign 3 = .ok (.i2c, 1) := by decide +kernel
theorem dX1_isSign_4 : decode cX1_isSign 4 = .ok (.invokevirtual 11, 3) := by decide +kernel
theorem dX1_isSign_7 : decode cX1_isSign 7 = .ok (.ifCond .lt 7, 3) := by decide +kernel
theorem dX1_isSign_10 : decode cX1_isSign 10 = .ok (.iconst 1, 1) := by decide +kernel
theorem dX1_isSign_11 : decode cX1_isSign 11 = .ok (.goto 4, 3) := by decide +kernel
theorem dX1_isSign_14 : decode cX1_isSign 14 = .ok (.iconst 0, 1) := by decide +kernel
theorem dX1_isSign_15 : decode cX1_isSign 15 = .ok (.ireturn, 1) := by decide +kernel
theorem dX1_ofSign_0 : decode cX1_ofSign 0 = .ok (.iconst 0, 1) := by decide +kernel
theorem dX1_ofSign_1 : decode cX1_ofSign 1 = .ok (.ldc 9, 2) := by decide +kernel
theorem dX1_ofSign_3 : decode cX1_ofSign 3 = .ok (.iload_n 0, 1) := by decide +kernel
theorem dX1_ofSign_4 : decode cX1_ofSign 4 = .ok (.i2c, 1) := by decide +kernel
theorem dX1_ofSign_5 : decode cX1_ofSign 5 = .ok (.invokevirtual 11, 3) := by decide +kernel
theorem dX1_ofSign_8 : decode cX1_ofSign 8 = .ok (.invokestatic 17, 3) := by decide +kernel
theorem dX1_ofSign_11 : decode cX1_ofSign 11 = .ok (.ireturn, 1) := by decide +kernel
theorem dX1_isSeam_0 : decode cX1_isSeam 0 = .ok (.iload_n 0, 1) := by decide +kernel
theorem dX1_isSeam_1 : decode cX1_isSeam 1 = .ok (.iconst 1, 1) := by decide +kernel
theorem dX1_isSeam_2 : decode cX1_isSeam 2 = .ok (.if_icmp .eq 13, 3) := by decide +kernel
theorem dX1_isSeam_5 : decode cX1_isSeam 5 = .ok (.iload_n 0, 1) := by decide +kernel
theorem dX1_isSeam_6 : decode cX1_isSeam 6 = .ok (.iconst 3, 1) := by decide +kernel
theorem dX1_isSeam_7 : decode cX1_isSeam 7 = .ok (.if_icmp .eq 8, 3) := by decide +kernel
theorem dX1_isSeam_10 : decode cX1_isSeam 10 = .ok (.iload_n 0, 1) := by decide +kernel
theorem dX1_isSeam_11 : decode cX1_isSeam 11 = .ok (.iconst 5, 1) := by decide +kernel
theorem dX1_isSeam_12 : decode cX1_isSeam 12 = .ok (.if_icmp .ne 7, 3) := by decide +kernel
theorem dX1_isSeam_15 : decode cX1_isSeam 15 = .ok (.iconst 1, 1) := by decide +kernel
theorem dX1_isSeam_16 : decode cX1_isSeam 16 = .ok (.goto 4, 3) := by decide +kernel
theorem dX1_isSeam_19 : decode cX1_isSeam 19 = .ok (.iconst 0, 1) := by decide +kernel
theorem dX1_isSeam_20 : decode cX1_isSeam 20 = .ok (.ireturn, 1) := by decide +kernel
theorem dX1_bunchMove_0 : decode cX1_bunchMove 0 = .ok (.iload_n 0, 1) := by decide +kernel
theorem dX1_bunchMove_1 : decode cX1_bunchMove 1 = .ok (.tableswitch 41 1 5 #[35, 39, 37, 41, 35], 35) := by decide +kernel
theorem dX1_bunchMove_36 : decode cX1_bunchMove 36 = .ok (.iconst 1, 1) := by decide +kernel
theorem dX1_bunchMove_37 : decode cX1_bunchMove 37 = .ok (.ireturn, 1) := by decide +kernel
theorem dX1_bunchMove_38 : decode cX1_bunchMove 38 = .ok (.iconst 0, 1) := by decide +kernel
theorem dX1_bunchMove_39 : decode cX1_bunchMove 39 = .ok (.ireturn, 1) := by decide +kernel
theorem dX1_bunchMove_40 : decode cX1_bunchMove 40 = .ok (.iconst 3, 1) := by decide +kernel
theorem dX1_bunchMove_41 : decode cX1_bunchMove 41 = .ok (.ireturn, 1) := by decide +kernel
theorem dX1_bunchMove_42 : decode cX1_bunchMove 42 = .ok (.iconst 2, 1) := by decide +kernel
theorem dX1_bunchMove_43 : decode cX1_bunchMove 43 = .ok (.ireturn, 1) := by decide +kernel
theorem dX1_bunchSeconds_0 : decode cX1_bunchSeconds 0 = .ok (.iload_n 0, 1) := by decide +kernel
theorem dX1_bunchSeconds_1 : decode cX1_bunchSeconds 1 = .ok (.tableswitch 41 1 5 #[35, 41, 35, 37, 35], 35) := by decide +kernel
theorem dX1_bunchSeconds_36 : decode cX1_bunchSeconds 36 = .ok (.iconst 5, 1) := by decide +kernel
theorem dX1_bunchSeconds_37 : decode cX1_bunchSeconds 37 = .ok (.ireturn, 1) := by decide +kernel
theorem dX1_bunchSeconds_38 : decode cX1_bunchSeconds 38 = .ok (.iconst 3, 1) := by decide +kernel
theorem dX1_bunchSeconds_39 : decode cX1_bunchSeconds 39 = .ok (.iload_n 1, 1) := by decide +kernel
theorem dX1_bunchSeconds_40 : decode cX1_bunchSeconds 40 = .ok (.iadd, 1) := by decide +kernel
theorem dX1_bunchSeconds_41 : decode cX1_bunchSeconds 41 = .ok (.ireturn, 1) := by decide +kernel
theorem dX1_bunchSeconds_42 : decode cX1_bunchSeconds 42 = .ok (.iconst 3, 1) := by decide +kernel
theorem dX1_bunchSeconds_43 : decode cX1_bunchSeconds 43 = .ok (.ireturn, 1) := by decide +kernel
theorem dX1_threadSeconds_0 : decode cX1_threadSeconds 0 = .ok (.iload_n 0, 1) := by decide +kernel
theorem dX1_threadSeconds_1 : decode cX1_threadSeconds 1 = .ok (.tableswitch 46 1 5 #[35, 46, 38, 43, 35], 35) := by decide +kernel
theorem dX1_threadSeconds_36 : decode cX1_threadSeconds 36 = .ok (.bipush 9, 2) := by decide +kernel
theorem dX1_threadSeconds_38 : decode cX1_threadSeconds 38 = .ok (.ireturn, 1) := by decide +kernel
theorem dX1_threadSeconds_39 : decode cX1_threadSeconds 39 = .ok (.bipush 9, 2) := by decide +kernel
theorem dX1_threadSeconds_41 : decode cX1_threadSeconds 41 = .ok (.iload_n 1, 1) := by decide +kernel
theorem dX1_threadSeconds_42 : decode cX1_threadSeconds 42 = .ok (.iadd, 1) := by decide +kernel
theorem dX1_threadSeconds_43 : decode cX1_threadSeconds 43 = .ok (.ireturn, 1) := by decide +kernel
theorem dX1_threadSeconds_44 : decode cX1_threadSeconds 44 = .ok (.bipush 6, 2) := by decide +kernel
theorem dX1_threadSeconds_46 : decode cX1_threadSeconds 46 = .ok (.ireturn, 1) := by decide +kernel
theorem dX1_threadSeconds_47 : decode cX1_threadSeconds 47 = .ok (.iconst 4, 1) := by decide +kernel
theorem dX1_threadSeconds_48 : decode cX1_threadSeconds 48 = .ok (.ireturn, 1) := by decide +kernel
theorem dX1_washDraw_0 : decode cX1_washDraw 0 = .ok (.iload_n 0, 1) := by decide +kernel
theorem dX1_washDraw_1 : decode cX1_washDraw 1 = .ok (.tableswitch 45 1 5 #[35, 41, 35, 45, 39], 35) := by decide +kernel
theorem dX1_washDraw_36 : decode cX1_washDraw 36 = .ok (.iload_n 1, 1) := by decide +kernel
theorem dX1_washDraw_37 : decode cX1_washDraw 37 = .ok (.iconst 2, 1) := by decide +kernel
theorem dX1_washDraw_38 : decode cX1_washDraw 38 = .ok (.idiv, 1) := by decide +kernel
theorem dX1_washDraw_39 : decode cX1_washDraw 39 = .ok (.ireturn, 1) := by decide +kernel
theorem dX1_washDraw_40 : decode cX1_washDraw 40 = .ok (.iconst 0, 1) := by decide +kernel
theorem dX1_washDraw_41 : decode cX1_washDraw 41 = .ok (.ireturn, 1) := by decide +kernel
theorem dX1_washDraw_42 : decode cX1_washDraw 42 = .ok (.iload_n 1, 1) := by decide +kernel
theorem dX1_washDraw_43 : decode cX1_washDraw 43 = .ok (.iconst 1, 1) := by decide +kernel
theorem dX1_washDraw_44 : decode cX1_washDraw 44 = .ok (.iadd, 1) := by decide +kernel
theorem dX1_washDraw_45 : decode cX1_washDraw 45 = .ok (.ireturn, 1) := by decide +kernel
theorem dX1_washDraw_46 : decode cX1_washDraw 46 = .ok (.iload_n 1, 1) := by decide +kernel
theorem dX1_washDraw_47 : decode cX1_washDraw 47 = .ok (.ireturn, 1) := by decide +kernel
theorem dX2_init_0 : decode cX2_init 0 = .ok (.aload_n 0, 1) := by decide +kernel
theorem dX2_init_1 : decode cX2_init 1 = .ok (.invokespecial 3, 3) := by decide +kernel
theorem dX2_init_4 : decode cX2_init 4 = .ok (.aload_n 0, 1) := by decide +kernel
theorem dX2_init_5 : decode cX2_init 5 = .ok (.bipush 96, 2) := by decide +kernel
theorem dX2_init_7 : decode cX2_init 7 = .ok (.newarray .int, 2) := by decide +kernel
theorem dX2_init_9 : decode cX2_init 9 = .ok (.putfield 11, 3) := by decide +kernel
theorem dX2_init_12 : decode cX2_init 12 = .ok (.aload_n 0, 1) := by decide +kernel
theorem dX2_init_13 : decode cX2_init 13 = .ok (.iconst 0, 1) := by decide +kernel
theorem dX2_init_14 : decode cX2_init 14 = .ok (.putfield 15, 3) := by decide +kernel
theorem dX2_init_17 : decode cX2_init 17 = .ok (.return_, 1) := by decide +kernel
theorem dX2_isFull_0 : decode cX2_isFull 0 = .ok (.aload_n 0, 1) := by decide +kernel
theorem dX2_isFull_1 : decode cX2_isFull 1 = .ok (.getfield 15, 3) := by decide +kernel
theorem dX2_isFull_4 : decode cX2_isFull 4 = .ok (.aload_n 0, 1) := by decide +kernel
theorem dX2_isFull_5 : decode cX2_isFull 5 = .ok (.getfield 11, 3) := by decide +kernel
theorem dX2_isFull_8 : decode cX2_isFull 8 = .ok (.arraylength, 1) := by decide +kernel
theorem dX2_isFull_9 : decode cX2_isFull 9 = .ok (.if_icmp .lt 7, 3) := by decide +kernel
theorem dX2_isFull_12 : decode cX2_isFull 12 = .ok (.iconst 1, 1) := by decide +kernel
theorem dX2_isFull_13 : decode cX2_isFull 13 = .ok (.goto 4, 3) := by decide +kernel
theorem dX2_isFull_16 : decode cX2_isFull 16 = .ok (.iconst 0, 1) := by decide +kernel
theorem dX2_isFull_17 : decode cX2_isFull 17 = .ok (.ireturn, 1) := by decide +kernel
theorem dX2_add_0 : decode cX2_add 0 = .ok (.aload_n 0, 1) := by decide +kernel
theorem dX2_add_1 : decode cX2_add 1 = .ok (.getfield 15, 3) := by decide +kernel
theorem dX2_add_4 : decode cX2_add 4 = .ok (.ifCond .lt 35, 3) := by decide +kernel
theorem dX2_add_7 : decode cX2_add 7 = .ok (.aload_n 0, 1) := by decide +kernel
theorem dX2_add_8 : decode cX2_add 8 = .ok (.getfield 15, 3) := by decide +kernel
theorem dX2_add_11 : decode cX2_add 11 = .ok (.aload_n 0, 1) := by decide +kernel
theorem dX2_add_12 : decode cX2_add 12 = .ok (.getfield 11, 3) := by decide +kernel
theorem dX2_add_15 : decode cX2_add 15 = .ok (.arraylength, 1) := by decide +kernel
theorem dX2_add_16 : decode cX2_add 16 = .ok (.if_icmp .ge 23, 3) := by decide +kernel
theorem dX2_add_19 : decode cX2_add 19 = .ok (.aload_n 0, 1) := by decide +kernel
theorem dX2_add_20 : decode cX2_add 20 = .ok (.getfield 11, 3) := by decide +kernel
theorem dX2_add_23 : decode cX2_add 23 = .ok (.aload_n 0, 1) := by decide +kernel
theorem dX2_add_24 : decode cX2_add 24 = .ok (.getfield 15, 3) := by decide +kernel
theorem dX2_add_27 : decode cX2_add 27 = .ok (.iload_n 1, 1) := by decide +kernel
theorem dX2_add_28 : decode cX2_add 28 = .ok (.iastore, 1) := by decide +kernel
theorem dX2_add_29 : decode cX2_add 29 = .ok (.aload_n 0, 1) := by decide +kernel
theorem dX2_add_30 : decode cX2_add 30 = .ok (.dup, 1) := by decide +kernel
theorem dX2_add_31 : decode cX2_add 31 = .ok (.getfield 15, 3) := by decide +kernel
theorem dX2_add_34 : decode cX2_add 34 = .ok (.iconst 1, 1) := by decide +kernel
theorem dX2_add_35 : decode cX2_add 35 = .ok (.iadd, 1) := by decide +kernel
theorem dX2_add_36 : decode cX2_add 36 = .ok (.putfield 15, 3) := by decide +kernel
theorem dX2_add_39 : decode cX2_add 39 = .ok (.return_, 1) := by decide +kernel
theorem dX2_clear_0 : decode cX2_clear 0 = .ok (.aload_n 0, 1) := by decide +kernel
theorem dX2_clear_1 : decode cX2_clear 1 = .ok (.iconst 0, 1) := by decide +kernel
theorem dX2_clear_2 : decode cX2_clear 2 = .ok (.putfield 15, 3) := by decide +kernel
theorem dX2_clear_5 : decode cX2_clear 5 = .ok (.return_, 1) := by decide +kernel
theorem dX2_signAt_0 : decode cX2_signAt 0 = .ok (.iload_n 1, 1) := by decide +kernel
theorem dX2_signAt_1 : decode cX2_signAt 1 = .ok (.ifCond .lt 29, 3) := by decide +kernel
theorem dX2_signAt_4 : decode cX2_signAt 4 = .ok (.iload_n 1, 1) := by decide +kernel
theorem dX2_signAt_5 : decode cX2_signAt 5 = .ok (.aload_n 0, 1) := by decide +kernel
theorem dX2_signAt_6 : decode cX2_signAt 6 = .ok (.getfield 15, 3) := by decide +kernel
theorem dX2_signAt_9 : decode cX2_signAt 9 = .ok (.if_icmp .ge 21, 3) := by decide +kernel
theorem dX2_signAt_12 : decode cX2_signAt 12 = .ok (.iload_n 1, 1) := by decide +kernel
theorem dX2_signAt_13 : decode cX2_signAt 13 = .ok (.aload_n 0, 1) := by decide +kernel
theorem dX2_signAt_14 : decode cX2_signAt 14 = .ok (.getfield 11, 3) := by decide +kernel
theorem dX2_signAt_17 : decode cX2_signAt 17 = .ok (.arraylength, 1) := by decide +kernel
theorem dX2_signAt_18 : decode cX2_signAt 18 = .ok (.if_icmp .ge 12, 3) := by decide +kernel
theorem dX2_signAt_21 : decode cX2_signAt 21 = .ok (.aload_n 0, 1) := by decide +kernel
theorem dX2_signAt_22 : decode cX2_signAt 22 = .ok (.getfield 11, 3) := by decide +kernel
theorem dX2_signAt_25 : decode cX2_signAt 25 = .ok (.iload_n 1, 1) := by decide +kernel
theorem dX2_signAt_26 : decode cX2_signAt 26 = .ok (.iaload, 1) := by decide +kernel
theorem dX2_signAt_27 : decode cX2_signAt 27 = .ok (.goto 4, 3) := by decide +kernel
theorem dX2_signAt_30 : decode cX2_signAt 30 = .ok (.iconst 0, 1) := by decide +kernel
theorem dX2_signAt_31 : decode cX2_signAt 31 = .ok (.ireturn, 1) := by decide +kernel
theorem dX2_digit_0 : decode cX2_digit 0 = .ok (.aload_n 0, 1) := by decide +kernel
theorem dX2_digit_1 : decode cX2_digit 1 = .ok (.iload_n 1, 1) := by decide +kernel
theorem dX2_digit_2 : decode cX2_digit 2 = .ok (.invokevirtual 19, 3) := by decide +kernel
theorem dX2_digit_5 : decode cX2_digit 5 = .ok (.bipush 48, 2) := by decide +kernel
theorem dX2_digit_7 : decode cX2_digit 7 = .ok (.isub, 1) := by decide +kernel
theorem dX2_digit_8 : decode cX2_digit 8 = .ok (.ireturn, 1) := by decide +kernel
theorem dX2_number_0 : decode cX2_number 0 = .ok (.bipush 10, 2) := by decide +kernel
theorem dX2_number_2 : decode cX2_number 2 = .ok (.aload_n 0, 1) := by decide +kernel
theorem dX2_number_3 : decode cX2_number 3 = .ok (.iload_n 1, 1) := by decide +kernel
theorem dX2_number_4 : decode cX2_number 4 = .ok (.invokevirtual 23, 3) := by decide +kernel
theorem dX2_number_7 : decode cX2_number 7 = .ok (.imul, 1) := by decide +kernel
theorem dX2_number_8 : decode cX2_number 8 = .ok (.aload_n 0, 1) := by decide +kernel
theorem dX2_number_9 : decode cX2_number 9 = .ok (.iload_n 1, 1) := by decide +kernel
theorem dX2_number_10 : decode cX2_number 10 = .ok (.iconst 1, 1) := by decide +kernel
theorem dX2_number_11 : decode cX2_number 11 = .ok (.iadd, 1) := by decide +kernel
theorem dX2_number_12 : decode cX2_number 12 = .ok (.invokevirtual 23, 3) := by decide +kernel
theorem dX2_number_15 : decode cX2_number 15 = .ok (.iadd, 1) := by decide +kernel
theorem dX2_number_16 : decode cX2_number 16 = .ok (.ireturn, 1) := by decide +kernel
theorem dX2_signed_0 : decode cX2_signed 0 = .ok (.aload_n 0, 1) := by decide +kernel
theorem dX2_signed_1 : decode cX2_signed 1 = .ok (.iload_n 1, 1) := by decide +kernel
theorem dX2_signed_2 : decode cX2_signed 2 = .ok (.invokevirtual 19, 3) := by decide +kernel
theorem dX2_signed_5 : decode cX2_signed 5 = .ok (.bipush 45, 2) := by decide +kernel
theorem dX2_signed_7 : decode cX2_signed 7 = .ok (.if_icmp .ne 14, 3) := by decide +kernel
theorem dX2_signed_10 : decode cX2_signed 10 = .ok (.aload_n 0, 1) := by decide +kernel
theorem dX2_signed_11 : decode cX2_signed 11 = .ok (.iload_n 1, 1) := by decide +kernel
theorem dX2_signed_12 : decode cX2_signed 12 = .ok (.iconst 1, 1) := by decide +kernel
theorem dX2_signed_13 : decode cX2_signed 13 = .ok (.iadd, 1) := by decide +kernel
theorem dX2_signed_14 : decode cX2_signed 14 = .ok (.invokevirtual 26, 3) := by decide +kernel
theorem dX2_signed_17 : decode cX2_signed 17 = .ok (.ineg, 1) := by decide +kernel
theorem dX2_signed_18 : decode cX2_signed 18 = .ok (.goto 10, 3) := by decide +kernel
theorem dX2_signed_21 : decode cX2_signed 21 = .ok (.aload_n 0, 1) := by decide +kernel
theorem dX2_signed_22 : decode cX2_signed 22 = .ok (.iload_n 1, 1) := by decide +kernel
theorem dX2_signed_23 : decode cX2_signed 23 = .ok (.iconst 1, 1) := by decide +kernel
theorem dX2_signed_24 : decode cX2_signed 24 = .ok (.iadd, 1) := by decide +kernel
theorem dX2_signed_25 : decode cX2_signed 25 = .ok (.invokevirtual 26, 3) := by decide +kernel
theorem dX2_signed_28 : decode cX2_signed 28 = .ok (.ireturn, 1) := by decide +kernel
theorem dX2_lengthBehind_0 : decode cX2_lengthBehind 0 = .ok (.aload_n 0, 1) := by decide +kernel
theorem dX2_lengthBehind_1 : decode cX2_lengthBehind 1 = .ok (.iload_n 1, 1) := by decide +kernel
theorem dX2_lengthBehind_2 : decode cX2_lengthBehind 2 = .ok (.invokevirtual 19, 3) := by decide +kernel
theorem dX2_lengthBehind_5 : decode cX2_lengthBehind 5 = .ok (.invokestatic 29, 3) := by decide +kernel
theorem dX2_lengthBehind_8 : decode cX2_lengthBehind 8 = .ok (.invokevirtual 33, 3) := by decide +kernel
theorem dX2_lengthBehind_11 : decode cX2_lengthBehind 11 = .ok (.ireturn, 1) := by decide +kernel
theorem dX2_firstUnfit_0 : decode cX2_firstUnfit 0 = .ok (.iconst 0, 1) := by decide +kernel
theorem dX2_firstUnfit_1 : decode cX2_firstUnfit 1 = .ok (.istore_n 1, 1) := by decide +kernel
theorem dX2_firstUnfit_2 : decode cX2_firstUnfit 2 = .ok (.aload_n 0, 1) := by decide +kernel
theorem dX2_firstUnfit_3 : decode cX2_firstUnfit 3 = .ok (.iload_n 1, 1) := by decide +kernel
theorem dX2_firstUnfit_4 : decode cX2_firstUnfit 4 = .ok (.invokevirtual 19, 3) := by decide +kernel
theorem dX2_firstUnfit_7 : decode cX2_firstUnfit 7 = .ok (.invokestatic 29, 3) := by decide +kernel
theorem dX2_firstUnfit_10 : decode cX2_firstUnfit 10 = .ok (.astore_n 2, 1) := by decide +kernel
theorem dX2_firstUnfit_11 : decode cX2_firstUnfit 11 = .ok (.iload_n 1, 1) := by decide +kernel
theorem dX2_firstUnfit_12 : decode cX2_firstUnfit 12 = .ok (.aload_n 0, 1) := by decide +kernel
theorem dX2_firstUnfit_13 : decode cX2_firstUnfit 13 = .ok (.getfield 15, 3) := by decide +kernel
theorem dX2_firstUnfit_16 : decode cX2_firstUnfit 16 = .ok (.if_icmp .ge 10, 3) := by decide +kernel
theorem dX2_firstUnfit_19 : decode cX2_firstUnfit 19 = .ok (.aload_n 2, 1) := by decide +kernel
theorem dX2_firstUnfit_20 : decode cX2_firstUnfit 20 = .ok (.invokevirtual 39, 3) := by decide +kernel
theorem dX2_firstUnfit_23 : decode cX2_firstUnfit 23 = .ok (.ifCond .eq 5, 3) := by decide +kernel
theorem dX2_firstUnfit_26 : decode cX2_firstUnfit 26 = .ok (.iload_n 1, 1) := by decide +kernel
theorem dX2_firstUnfit_27 : decode cX2_firstUnfit 27 = .ok (.ireturn, 1) := by decide +kernel
theorem dX2_firstUnfit_28 : decode cX2_firstUnfit 28 = .ok (.iinc 1 1, 3) := by decide +kernel
theorem dX2_firstUnfit_31 : decode cX2_firstUnfit 31 = .ok (.iconst 0, 1) := by decide +kernel
theorem dX2_firstUnfit_32 : decode cX2_firstUnfit 32 = .ok (.istore_n 3, 1) := by decide +kernel
theorem dX2_firstUnfit_33 : decode cX2_firstUnfit 33 = .ok (.iload_n 3, 1) := by decide +kernel
theorem dX2_firstUnfit_34 : decode cX2_firstUnfit 34 = .ok (.aload_n 2, 1) := by decide +kernel
theorem dX2_firstUnfit_35 : decode cX2_firstUnfit 35 = .ok (.invokevirtual 33, 3) := by decide +kernel
theorem dX2_firstUnfit_38 : decode cX2_firstUnfit 38 = .ok (.if_icmp .ge 38, 3) := by decide +kernel
theorem dX2_firstUnfit_41 : decode cX2_firstUnfit 41 = .ok (.iload_n 1, 1) := by decide +kernel
theorem dX2_firstUnfit_42 : decode cX2_firstUnfit 42 = .ok (.aload_n 0, 1) := by decide +kernel
theorem dX2_firstUnfit_43 : decode cX2_firstUnfit 43 = .ok (.getfield 15, 3) := by decide +kernel
theorem dX2_firstUnfit_46 : decode cX2_firstUnfit 46 = .ok (.if_icmp .ge 19, 3) := by decide +kernel
theorem dX2_firstUnfit_49 : decode cX2_firstUnfit 49 = .ok (.aload_n 2, 1) := by decide +kernel
theorem dX2_firstUnfit_50 : decode cX2_firstUnfit 50 = .ok (.iload_n 3, 1) := by decide +kernel
theorem dX2_firstUnfit_51 : decode cX2_firstUnfit 51 = .ok (.invokevirtual 43, 3) := by decide +kernel
theorem dX2_firstUnfit_54 : decode cX2_firstUnfit 54 = .ok (.aload_n 0, 1) := by decide +kernel
theorem dX2_firstUnfit_55 : decode cX2_firstUnfit 55 = .ok (.iload_n 1, 1) := by decide +kernel
theorem dX2_firstUnfit_56 : decode cX2_firstUnfit 56 = .ok (.invokevirtual 19, 3) := by decide +kernel
theorem dX2_firstUnfit_59 : decode cX2_firstUnfit 59 = .ok (.invokestatic 47, 3) := by decide +kernel
theorem dX2_firstUnfit_62 : decode cX2_firstUnfit 62 = .ok (.ifCond .ne 5, 3) := by decide +kernel
theorem dX2_firstUnfit_65 : decode cX2_firstUnfit 65 = .ok (.iload_n 1, 1) := by decide +kernel
theorem dX2_firstUnfit_66 : decode cX2_firstUnfit 66 = .ok (.ireturn, 1) := by decide +kernel
theorem dX2_firstUnfit_67 : decode cX2_firstUnfit 67 = .ok (.iinc 1 1, 3) := by decide +kernel
theorem dX2_firstUnfit_70 : decode cX2_firstUnfit 70 = .ok (.iinc 3 1, 3) := by decide +kernel
theorem dX2_firstUnfit_73 : decode cX2_firstUnfit 73 = .ok (.goto (-40), 3) := by decide +kernel
theorem dX2_firstUnfit_76 : decode cX2_firstUnfit 76 = .ok (.iload_n 1, 1) := by decide +kernel
theorem dX2_firstUnfit_77 : decode cX2_firstUnfit 77 = .ok (.aload_n 0, 1) := by decide +kernel
theorem dX2_firstUnfit_78 : decode cX2_firstUnfit 78 = .ok (.getfield 15, 3) := by decide +kernel
theorem dX2_firstUnfit_81 : decode cX2_firstUnfit 81 = .ok (.if_icmp .lt (-79), 3) := by decide +kernel
theorem dX2_firstUnfit_84 : decode cX2_firstUnfit 84 = .ok (.bipush (-9), 2) := by decide +kernel
theorem dX2_firstUnfit_86 : decode cX2_firstUnfit 86 = .ok (.ireturn, 1) := by decide +kernel
theorem dX2_formBehind_0 : decode cX2_formBehind 0 = .ok (.iload_n 0, 1) := by decide +kernel
theorem dX2_formBehind_1 : decode cX2_formBehind 1 = .ok (.tableswitch 106 101 119 #[97, 106, 106, 106, 94, 106, 100, 106, 106, 91, 106, 91, 106, 106, 103, 106, 106, 106, 91], 91) := by decide +kernel
theorem dX2_formBehind_92 : decode cX2_formBehind 92 = .ok (.ldc 51, 2) := by decide +kernel
theorem dX2_formBehind_94 : decode cX2_formBehind 94 = .ok (.areturn, 1) := by decide +kernel
theorem dX2_formBehind_95 : decode cX2_formBehind 95 = .ok (.ldc 53, 2) := by decide +kernel
theorem dX2_formBehind_97 : decode cX2_formBehind 97 = .ok (.areturn, 1) := by decide +kernel
theorem dX2_formBehind_98 : decode cX2_formBehind 98 = .ok (.ldc 55, 2) := by decide +kernel
theorem dX2_formBehind_100 : decode cX2_formBehind 100 = .ok (.areturn, 1) := by decide +kernel
theorem dX2_formBehind_101 : decode cX2_formBehind 101 = .ok (.ldc 57, 2) := by decide +kernel
theorem dX2_formBehind_103 : decode cX2_formBehind 103 = .ok (.areturn, 1) := by decide +kernel
theorem dX2_formBehind_104 : decode cX2_formBehind 104 = .ok (.ldc 59, 2) := by decide +kernel
theorem dX2_formBehind_106 : decode cX2_formBehind 106 = .ok (.areturn, 1) := by decide +kernel
theorem dX2_formBehind_107 : decode cX2_formBehind 107 = .ok (.ldc 61, 2) := by decide +kernel
theorem dX2_formBehind_109 : decode cX2_formBehind 109 = .ok (.areturn, 1) := by decide +kernel
theorem dX2_fits_0 : decode cX2_fits 0 = .ok (.iload_n 0, 1) := by decide +kernel
theorem dX2_fits_1 : decode cX2_fits 1 = .ok (.lookupswitch 76 #[(35, 35), (43, 58), (107, 53)], 35) := by decide +kernel
theorem dX2_fits_36 : decode cX2_fits 36 = .ok (.iload_n 1, 1) := by decide +kernel
theorem dX2_fits_37 : decode cX2_fits 37 = .ok (.bipush 48, 2) := by decide +kernel
theorem dX2_fits_39 : decode cX2_fits 39 = .ok (.if_icmp .lt 13, 3) := by decide +kernel
theorem dX2_fits_42 : decode cX2_fits 42 = .ok (.iload_n 1, 1) := by decide +kernel
theorem dX2_fits_43 : decode cX2_fits 43 = .ok (.bipush 57, 2) := by decide +kernel
theorem dX2_fits_45 : decode cX2_fits 45 = .ok (.if_icmp .gt 7, 3) := by decide +kernel
theorem dX2_fits_48 : decode cX2_fits 48 = .ok (.iconst 1, 1) := by decide +kernel
theorem dX2_fits_49 : decode cX2_fits 49 = .ok (.goto 4, 3) := by decide +kernel
theorem dX2_fits_52 : decode cX2_fits 52 = .ok (.iconst 0, 1) := by decide +kernel
theorem dX2_fits_53 : decode cX2_fits 53 = .ok (.ireturn, 1) := by decide +kernel
theorem dX2_fits_54 : decode cX2_fits 54 = .ok (.iload_n 1, 1) := by decide +kernel
theorem dX2_fits_55 : decode cX2_fits 55 = .ok (.invokestatic 63, 3) := by decide +kernel
theorem dX2_fits_58 : decode cX2_fits 58 = .ok (.ireturn, 1) := by decide +kernel
theorem dX2_fits_59 : decode cX2_fits 59 = .ok (.iload_n 1, 1) := by decide +kernel
theorem dX2_fits_60 : decode cX2_fits 60 = .ok (.bipush 43, 2) := by decide +kernel
theorem dX2_fits_62 : decode cX2_fits 62 = .ok (.if_icmp .eq 9, 3) := by decide +kernel
theorem dX2_fits_65 : decode cX2_fits 65 = .ok (.iload_n 1, 1) := by decide +kernel
theorem dX2_fits_66 : decode cX2_fits 66 = .ok (.bipush 45, 2) := by decide +kernel
theorem dX2_fits_68 : decode cX2_fits 68 = .ok (.if_icmp .ne 7, 3) := by decide +kernel
theorem dX2_fits_71 : decode cX2_fits 71 = .ok (.iconst 1, 1) := by decide +kernel
theorem dX2_fits_72 : decode cX2_fits 72 = .ok (.goto 4, 3) := by decide +kernel
theorem dX2_fits_75 : decode cX2_fits 75 = .ok (.iconst 0, 1) := by decide +kernel
theorem dX2_fits_76 : decode cX2_fits 76 = .ok (.ireturn, 1) := by decide +kernel
theorem dX2_fits_77 : decode cX2_fits 77 = .ok (.iload_n 1, 1) := by decide +kernel
theorem dX2_fits_78 : decode cX2_fits 78 = .ok (.iload_n 0, 1) := by decide +kernel
theorem dX2_fits_79 : decode cX2_fits 79 = .ok (.if_icmp .ne 7, 3) := by decide +kernel
theorem dX2_fits_82 : decode cX2_fits 82 = .ok (.iconst 1, 1) := by decide +kernel
theorem dX2_fits_83 : decode cX2_fits 83 = .ok (.goto 4, 3) := by decide +kernel
theorem dX2_fits_86 : decode cX2_fits 86 = .ok (.iconst 0, 1) := by decide +kernel
theorem dX2_fits_87 : decode cX2_fits 87 = .ok (.ireturn, 1) := by decide +kernel
theorem dX3_init_0 : decode cX3_init 0 = .ok (.aload_n 0, 1) := by decide +kernel
theorem dX3_init_1 : decode cX3_init 1 = .ok (.invokespecial 1, 3) := by decide +kernel
theorem dX3_init_4 : decode cX3_init 4 = .ok (.aload_n 0, 1) := by decide +kernel
theorem dX3_init_5 : decode cX3_init 5 = .ok (.iconst 0, 1) := by decide +kernel
theorem dX3_init_6 : decode cX3_init 6 = .ok (.putfield 7, 3) := by decide +kernel
theorem dX3_init_9 : decode cX3_init 9 = .ok (.aload_n 0, 1) := by decide +kernel
theorem dX3_init_10 : decode cX3_init 10 = .ok (.iconst 0, 1) := by decide +kernel
theorem dX3_init_11 : decode cX3_init 11 = .ok (.putfield 13, 3) := by decide +kernel
theorem dX3_init_14 : decode cX3_init 14 = .ok (.return_, 1) := by decide +kernel
theorem dX3_goOn_0 : decode cX3_goOn 0 = .ok (.aload_n 0, 1) := by decide +kernel
theorem dX3_goOn_1 : decode cX3_goOn 1 = .ok (.iconst 0, 1) := by decide +kernel
theorem dX3_goOn_2 : decode cX3_goOn 2 = .ok (.putfield 7, 3) := by decide +kernel
theorem dX3_goOn_5 : decode cX3_goOn 5 = .ok (.aload_n 0, 1) := by decide +kernel
theorem dX3_goOn_6 : decode cX3_goOn 6 = .ok (.iconst 0, 1) := by decide +kernel
theorem dX3_goOn_7 : decode cX3_goOn 7 = .ok (.putfield 13, 3) := by decide +kernel
theorem dX3_goOn_10 : decode cX3_goOn 10 = .ok (.aload_n 1, 1) := by decide +kernel
theorem dX3_goOn_11 : decode cX3_goOn 11 = .ok (.aload_n 1, 1) := by decide +kernel
theorem dX3_goOn_12 : decode cX3_goOn 12 = .ok (.getfield 16, 3) := by decide +kernel
theorem dX3_goOn_15 : decode cX3_goOn 15 = .ok (.invokevirtual 21, 3) := by decide +kernel
theorem dX3_goOn_18 : decode cX3_goOn 18 = .ok (.istore 4, 2) := by decide +kernel
theorem dX3_goOn_20 : decode cX3_goOn 20 = .ok (.iconst 0, 1) := by decide +kernel
theorem dX3_goOn_21 : decode cX3_goOn 21 = .ok (.istore 5, 2) := by decide +kernel
theorem dX3_goOn_23 : decode cX3_goOn 23 = .ok (.iload 5, 2) := by decide +kernel
theorem dX3_goOn_25 : decode cX3_goOn 25 = .ok (.iload_n 3, 1) := by decide +kernel
theorem dX3_goOn_26 : decode cX3_goOn 26 = .ok (.if_icmp .ge 54, 3) := by decide +kernel
theorem dX3_goOn_29 : decode cX3_goOn 29 = .ok (.aload_n 0, 1) := by decide +kernel
theorem dX3_goOn_30 : decode cX3_goOn 30 = .ok (.getfield 7, 3) := by decide +kernel
theorem dX3_goOn_33 : decode cX3_goOn 33 = .ok (.istore 6, 2) := by decide +kernel
theorem dX3_goOn_35 : decode cX3_goOn 35 = .ok (.aload_n 1, 1) := by decide +kernel
theorem dX3_goOn_36 : decode cX3_goOn 36 = .ok (.invokevirtual 25, 3) := by decide +kernel
theorem dX3_goOn_39 : decode cX3_goOn 39 = .ok (.istore 7, 2) := by decide +kernel
theorem dX3_goOn_41 : decode cX3_goOn 41 = .ok (.aload_n 0, 1) := by decide +kernel
theorem dX3_goOn_42 : decode cX3_goOn 42 = .ok (.aload_n 1, 1) := by decide +kernel
theorem dX3_goOn_43 : decode cX3_goOn 43 = .ok (.aload_n 2, 1) := by decide +kernel
theorem dX3_goOn_44 : decode cX3_goOn 44 = .ok (.iconst 0, 1) := by decide +kernel
theorem dX3_goOn_45 : decode cX3_goOn 45 = .ok (.iload 4, 2) := by decide +kernel
theorem dX3_goOn_47 : decode cX3_goOn 47 = .ok (.invokevirtual 29, 3) := by decide +kernel
theorem dX3_goOn_50 : decode cX3_goOn 50 = .ok (.aload_n 0, 1) := by decide +kernel
theorem dX3_goOn_51 : decode cX3_goOn 51 = .ok (.aload_n 1, 1) := by decide +kernel
theorem dX3_goOn_52 : decode cX3_goOn 52 = .ok (.aload_n 2, 1) := by decide +kernel
theorem dX3_goOn_53 : decode cX3_goOn 53 = .ok (.iconst 1, 1) := by decide +kernel
theorem dX3_goOn_54 : decode cX3_goOn 54 = .ok (.iload 4, 2) := by decide +kernel
theorem dX3_goOn_56 : decode cX3_goOn 56 = .ok (.invokevirtual 29, 3) := by decide +kernel
theorem dX3_goOn_59 : decode cX3_goOn 59 = .ok (.iload 7, 2) := by decide +kernel
theorem dX3_goOn_61 : decode cX3_goOn 61 = .ok (.ifCond .ne 13, 3) := by decide +kernel
theorem dX3_goOn_64 : decode cX3_goOn 64 = .ok (.aload_n 0, 1) := by decide +kernel
theorem dX3_goOn_65 : decode cX3_goOn 65 = .ok (.getfield 7, 3) := by decide +kernel
theorem dX3_goOn_68 : decode cX3_goOn 68 = .ok (.iload 6, 2) := by decide +kernel
theorem dX3_goOn_70 : decode cX3_goOn 70 = .ok (.if_icmp .ne 4, 3) := by decide +kernel
theorem dX3_goOn_73 : decode cX3_goOn 73 = .ok (.return_, 1) := by decide +kernel
theorem dX3_goOn_74 : decode cX3_goOn 74 = .ok (.iinc 5 1, 3) := by decide +kernel
theorem dX3_goOn_77 : decode cX3_goOn 77 = .ok (.goto (-54), 3) := by decide +kernel
theorem dX3_goOn_80 : decode cX3_goOn 80 = .ok (.return_, 1) := by decide +kernel
theorem dX3_mend_0 : decode cX3_mend 0 = .ok (.aload_n 1, 1) := by decide +kernel
theorem dX3_mend_1 : decode cX3_mend 1 = .ok (.iload_n 3, 1) := by decide +kernel
theorem dX3_mend_2 : decode cX3_mend 2 = .ok (.invokevirtual 33, 3) := by decide +kernel
theorem dX3_mend_5 : decode cX3_mend 5 = .ok (.ifCond .ne 4, 3) := by decide +kernel
theorem dX3_mend_8 : decode cX3_mend 8 = .ok (.return_, 1) := by decide +kernel
theorem dX3_mend_9 : decode cX3_mend 9 = .ok (.aload_n 0, 1) := by decide +kernel
theorem dX3_mend_10 : decode cX3_mend 10 = .ok (.dup, 1) := by decide +kernel
theorem dX3_mend_11 : decode cX3_mend 11 = .ok (.getfield 7, 3) := by decide +kernel
theorem dX3_mend_14 : decode cX3_mend 14 = .ok (.iconst 1, 1) := by decide +kernel
theorem dX3_mend_15 : decode cX3_mend 15 = .ok (.iadd, 1) := by decide +kernel
theorem dX3_mend_16 : decode cX3_mend 16 = .ok (.putfield 7, 3) := by decide +kernel
theorem dX3_mend_19 : decode cX3_mend 19 = .ok (.aload_n 2, 1) := by decide +kernel
theorem dX3_mend_20 : decode cX3_mend 20 = .ok (.aload_n 1, 1) := by decide +kernel
theorem dX3_mend_21 : decode cX3_mend 21 = .ok (.iload_n 3, 1) := by decide +kernel
theorem dX3_mend_22 : decode cX3_mend 22 = .ok (.aload_n 1, 1) := by decide +kernel
theorem dX3_mend_23 : decode cX3_mend 23 = .ok (.iload_n 3, 1) := by decide +kernel
theorem dX3_mend_24 : decode cX3_mend 24 = .ok (.invokevirtual 37, 3) := by decide +kernel
theorem dX3_mend_27 : decode cX3_mend 27 = .ok (.invokevirtual 40, 3) := by decide +kernel
theorem dX3_mend_30 : decode cX3_mend 30 = .ok (.aload_n 2, 1) := by decide +kernel
theorem dX3_mend_31 : decode cX3_mend 31 = .ok (.invokevirtual 46, 3) := by decide +kernel
theorem dX3_mend_34 : decode cX3_mend 34 = .ok (.ifCond .eq 12, 3) := by decide +kernel
theorem dX3_mend_37 : decode cX3_mend 37 = .ok (.iload 4, 2) := by decide +kernel
theorem dX3_mend_39 : decode cX3_mend 39 = .ok (.aload_n 2, 1) := by decide +kernel
theorem dX3_mend_40 : decode cX3_mend 40 = .ok (.getfield 50, 3) := by decide +kernel
theorem dX3_mend_43 : decode cX3_mend 43 = .ok (.if_icmp .ge 21, 3) := by decide +kernel
theorem dX3_mend_46 : decode cX3_mend 46 = .ok (.aload_n 1, 1) := by decide +kernel
theorem dX3_mend_47 : decode cX3_mend 47 = .ok (.invokevirtual 51, 3) := by decide +kernel
theorem dX3_mend_50 : decode cX3_mend 50 = .ok (.aload_n 0, 1) := by decide +kernel
theorem dX3_mend_51 : decode cX3_mend 51 = .ok (.dup, 1) := by decide +kernel
theorem dX3_mend_52 : decode cX3_mend 52 = .ok (.getfield 13, 3) := by decide +kernel
theorem dX3_mend_55 : decode cX3_mend 55 = .ok (.iload 4, 2) := by decide +kernel
theorem dX3_mend_57 : decode cX3_mend 57 = .ok (.iadd, 1) := by decide +kernel
theorem dX3_mend_58 : decode cX3_mend 58 = .ok (.putfield 13, 3) := by decide +kernel
theorem dX3_mend_61 : decode cX3_mend 61 = .ok (.goto 22, 3) := by decide +kernel
theorem dX3_mend_64 : decode cX3_mend 64 = .ok (.aload_n 1, 1) := by decide +kernel
theorem dX3_mend_65 : decode cX3_mend 65 = .ok (.iload_n 3, 1) := by decide +kernel
theorem dX3_mend_66 : decode cX3_mend 66 = .ok (.iconst 0, 1) := by decide +kernel
theorem dX3_mend_67 : decode cX3_mend 67 = .ok (.invokevirtual 54, 3) := by decide +kernel
theorem dX3_mend_70 : decode cX3_mend 70 = .ok (.aload_n 0, 1) := by decide +kernel
theorem dX3_mend_71 : decode cX3_mend 71 = .ok (.dup, 1) := by decide +kernel
theorem dX3_mend_72 : decode cX3_mend 72 = .ok (.getfield 13, 3) := by decide +kernel
theorem dX3_mend_75 : decode cX3_mend 75 = .ok (.aload_n 2, 1) := by decide +kernel
theorem dX3_mend_76 : decode cX3_mend 76 = .ok (.getfield 50, 3) := by decide +kernel
theorem dX3_mend_79 : decode cX3_mend 79 = .ok (.iadd, 1) := by decide +kernel
theorem dX3_mend_80 : decode cX3_mend 80 = .ok (.putfield 13, 3) := by decide +kernel
theorem dX3_mend_83 : decode cX3_mend 83 = .ok (.return_, 1) := by decide +kernel
theorem dX4_init_0 : decode cX4_init 0 = .ok (.aload_n 0, 1) := by decide +kernel
theorem dX4_init_1 : decode cX4_init 1 = .ok (.invokespecial 3, 3) := by decide +kernel
theorem dX4_init_4 : decode cX4_init 4 = .ok (.aload_n 0, 1) := by decide +kernel
theorem dX4_init_5 : decode cX4_init 5 = .ok (.bipush 12, 2) := by decide +kernel
theorem dX4_init_7 : decode cX4_init 7 = .ok (.newarray .int, 2) := by decide +kernel
theorem dX4_init_9 : decode cX4_init 9 = .ok (.putfield 11, 3) := by decide +kernel
theorem dX4_init_12 : decode cX4_init 12 = .ok (.aload_n 0, 1) := by decide +kernel
theorem dX4_init_13 : decode cX4_init 13 = .ok (.iconst 0, 1) := by decide +kernel
theorem dX4_init_14 : decode cX4_init 14 = .ok (.putfield 15, 3) := by decide +kernel
theorem dX4_init_17 : decode cX4_init 17 = .ok (.return_, 1) := by decide +kernel
theorem dX4_isFull_0 : decode cX4_isFull 0 = .ok (.aload_n 0, 1) := by decide +kernel
theorem dX4_isFull_1 : decode cX4_isFull 1 = .ok (.getfield 15, 3) := by decide +kernel
theorem dX4_isFull_4 : decode cX4_isFull 4 = .ok (.aload_n 0, 1) := by decide +kernel
theorem dX4_isFull_5 : decode cX4_isFull 5 = .ok (.getfield 11, 3) := by decide +kernel
theorem dX4_isFull_8 : decode cX4_isFull 8 = .ok (.arraylength, 1) := by decide +kernel
theorem dX4_isFull_9 : decode cX4_isFull 9 = .ok (.if_icmp .lt 7, 3) := by decide +kernel
theorem dX4_isFull_12 : decode cX4_isFull 12 = .ok (.iconst 1, 1) := by decide +kernel
theorem dX4_isFull_13 : decode cX4_isFull 13 = .ok (.goto 4, 3) := by decide +kernel
theorem dX4_isFull_16 : decode cX4_isFull 16 = .ok (.iconst 0, 1) := by decide +kernel
theorem dX4_isFull_17 : decode cX4_isFull 17 = .ok (.ireturn, 1) := by decide +kernel
theorem dX4_add_0 : decode cX4_add 0 = .ok (.aload_n 0, 1) := by decide +kernel
theorem dX4_add_1 : decode cX4_add 1 = .ok (.getfield 15, 3) := by decide +kernel
theorem dX4_add_4 : decode cX4_add 4 = .ok (.ifCond .lt 35, 3) := by decide +kernel
theorem dX4_add_7 : decode cX4_add 7 = .ok (.aload_n 0, 1) := by decide +kernel
theorem dX4_add_8 : decode cX4_add 8 = .ok (.getfield 15, 3) := by decide +kernel
theorem dX4_add_11 : decode cX4_add 11 = .ok (.aload_n 0, 1) := by decide +kernel
theorem dX4_add_12 : decode cX4_add 12 = .ok (.getfield 11, 3) := by decide +kernel
theorem dX4_add_15 : decode cX4_add 15 = .ok (.arraylength, 1) := by decide +kernel
theorem dX4_add_16 : decode cX4_add 16 = .ok (.if_icmp .ge 23, 3) := by decide +kernel
theorem dX4_add_19 : decode cX4_add 19 = .ok (.aload_n 0, 1) := by decide +kernel
theorem dX4_add_20 : decode cX4_add 20 = .ok (.getfield 11, 3) := by decide +kernel
theorem dX4_add_23 : decode cX4_add 23 = .ok (.aload_n 0, 1) := by decide +kernel
theorem dX4_add_24 : decode cX4_add 24 = .ok (.getfield 15, 3) := by decide +kernel
theorem dX4_add_27 : decode cX4_add 27 = .ok (.iload_n 1, 1) := by decide +kernel
theorem dX4_add_28 : decode cX4_add 28 = .ok (.iastore, 1) := by decide +kernel
theorem dX4_add_29 : decode cX4_add 29 = .ok (.aload_n 0, 1) := by decide +kernel
theorem dX4_add_30 : decode cX4_add 30 = .ok (.dup, 1) := by decide +kernel
theorem dX4_add_31 : decode cX4_add 31 = .ok (.getfield 15, 3) := by decide +kernel
theorem dX4_add_34 : decode cX4_add 34 = .ok (.iconst 1, 1) := by decide +kernel
theorem dX4_add_35 : decode cX4_add 35 = .ok (.iadd, 1) := by decide +kernel
theorem dX4_add_36 : decode cX4_add 36 = .ok (.putfield 15, 3) := by decide +kernel
theorem dX4_add_39 : decode cX4_add 39 = .ok (.return_, 1) := by decide +kernel
theorem dX4_clear_0 : decode cX4_clear 0 = .ok (.aload_n 0, 1) := by decide +kernel
theorem dX4_clear_1 : decode cX4_clear 1 = .ok (.iconst 0, 1) := by decide +kernel
theorem dX4_clear_2 : decode cX4_clear 2 = .ok (.putfield 15, 3) := by decide +kernel
theorem dX4_clear_5 : decode cX4_clear 5 = .ok (.return_, 1) := by decide +kernel
theorem dX4_firstNotSo_0 : decode cX4_firstNotSo 0 = .ok (.iconst 0, 1) := by decide +kernel
theorem dX4_firstNotSo_1 : decode cX4_firstNotSo 1 = .ok (.istore_n 3, 1) := by decide +kernel
theorem dX4_firstNotSo_2 : decode cX4_firstNotSo 2 = .ok (.iload_n 3, 1) := by decide +kernel
theorem dX4_firstNotSo_3 : decode cX4_firstNotSo 3 = .ok (.aload_n 0, 1) := by decide +kernel
theorem dX4_firstNotSo_4 : decode cX4_firstNotSo 4 = .ok (.getfield 15, 3) := by decide +kernel
theorem dX4_firstNotSo_7 : decode cX4_firstNotSo 7 = .ok (.if_icmp .ge 42, 3) := by decide +kernel
theorem dX4_firstNotSo_10 : decode cX4_firstNotSo 10 = .ok (.iload_n 3, 1) := by decide +kernel
theorem dX4_firstNotSo_11 : decode cX4_firstNotSo 11 = .ok (.aload_n 0, 1) := by decide +kernel
theorem dX4_firstNotSo_12 : decode cX4_firstNotSo 12 = .ok (.getfield 11, 3) := by decide +kernel
theorem dX4_firstNotSo_15 : decode cX4_firstNotSo 15 = .ok (.arraylength, 1) := by decide +kernel
theorem dX4_firstNotSo_16 : decode cX4_firstNotSo 16 = .ok (.if_icmp .ge 33, 3) := by decide +kernel
theorem dX4_firstNotSo_19 : decode cX4_firstNotSo 19 = .ok (.aload_n 0, 1) := by decide +kernel
theorem dX4_firstNotSo_20 : decode cX4_firstNotSo 20 = .ok (.getfield 11, 3) := by decide +kernel
theorem dX4_firstNotSo_23 : decode cX4_firstNotSo 23 = .ok (.iload_n 3, 1) := by decide +kernel
theorem dX4_firstNotSo_24 : decode cX4_firstNotSo 24 = .ok (.iaload, 1) := by decide +kernel
theorem dX4_firstNotSo_25 : decode cX4_firstNotSo 25 = .ok (.aload_n 1, 1) := by decide +kernel
theorem dX4_firstNotSo_26 : decode cX4_firstNotSo 26 = .ok (.iload_n 2, 1) := by decide +kernel
theorem dX4_firstNotSo_27 : decode cX4_firstNotSo 27 = .ok (.invokevirtual 19, 3) := by decide +kernel
theorem dX4_firstNotSo_30 : decode cX4_firstNotSo 30 = .ok (.bipush 50, 2) := by decide +kernel
theorem dX4_firstNotSo_32 : decode cX4_firstNotSo 32 = .ok (.iadd, 1) := by decide +kernel
theorem dX4_firstNotSo_33 : decode cX4_firstNotSo 33 = .ok (.if_icmp .eq 5, 3) := by decide +kernel
theorem dX4_firstNotSo_36 : decode cX4_firstNotSo 36 = .ok (.iload_n 3, 1) := by decide +kernel
theorem dX4_firstNotSo_37 : decode cX4_firstNotSo 37 = .ok (.ireturn, 1) := by decide +kernel
theorem dX4_firstNotSo_38 : decode cX4_firstNotSo 38 = .ok (.aload_n 1, 1) := by decide +kernel
theorem dX4_firstNotSo_39 : decode cX4_firstNotSo 39 = .ok (.invokevirtual 25, 3) := by decide +kernel
theorem dX4_firstNotSo_42 : decode cX4_firstNotSo 42 = .ok (.pop, 1) := by decide +kernel
theorem dX4_firstNotSo_43 : decode cX4_firstNotSo 43 = .ok (.iinc 3 1, 3) := by decide +kernel
theorem dX4_firstNotSo_46 : decode cX4_firstNotSo 46 = .ok (.goto (-44), 3) := by decide +kernel
theorem dX4_firstNotSo_49 : decode cX4_firstNotSo 49 = .ok (.bipush (-9), 2) := by decide +kernel
theorem dX4_firstNotSo_51 : decode cX4_firstNotSo 51 = .ok (.ireturn, 1) := by decide +kernel
theorem dX5_init_0 : decode cX5_init 0 = .ok (.aload_n 0, 1) := by decide +kernel
theorem dX5_init_1 : decode cX5_init 1 = .ok (.invokespecial 3, 3) := by decide +kernel
theorem dX5_init_4 : decode cX5_init 4 = .ok (.aload_n 0, 1) := by decide +kernel
theorem dX5_init_5 : decode cX5_init 5 = .ok (.iconst 0, 1) := by decide +kernel
theorem dX5_init_6 : decode cX5_init 6 = .ok (.putfield 9, 3) := by decide +kernel
theorem dX5_init_9 : decode cX5_init 9 = .ok (.aload_n 0, 1) := by decide +kernel
theorem dX5_init_10 : decode cX5_init 10 = .ok (.iconst 0, 1) := by decide +kernel
theorem dX5_init_11 : decode cX5_init 11 = .ok (.putfield 15, 3) := by decide +kernel
theorem dX5_init_14 : decode cX5_init 14 = .ok (.aload_n 0, 1) := by decide +kernel
theorem dX5_init_15 : decode cX5_init 15 = .ok (.bipush (-9), 2) := by decide +kernel
theorem dX5_init_17 : decode cX5_init 17 = .ok (.putfield 18, 3) := by decide +kernel
theorem dX5_init_20 : decode cX5_init 20 = .ok (.return_, 1) := by decide +kernel
theorem dX5_measure_0 : decode cX5_measure 0 = .ok (.aload_n 0, 1) := by decide +kernel
theorem dX5_measure_1 : decode cX5_measure 1 = .ok (.iconst 0, 1) := by decide +kernel
theorem dX5_measure_2 : decode cX5_measure 2 = .ok (.putfield 9, 3) := by decide +kernel
theorem dX5_measure_5 : decode cX5_measure 5 = .ok (.aload_n 0, 1) := by decide +kernel
theorem dX5_measure_6 : decode cX5_measure 6 = .ok (.iconst 0, 1) := by decide +kernel
theorem dX5_measure_7 : decode cX5_measure 7 = .ok (.putfield 15, 3) := by decide +kernel
theorem dX5_measure_10 : decode cX5_measure 10 = .ok (.aload_n 0, 1) := by decide +kernel
theorem dX5_measure_11 : decode cX5_measure 11 = .ok (.bipush (-9), 2) := by decide +kernel
theorem dX5_measure_13 : decode cX5_measure 13 = .ok (.putfield 18, 3) := by decide +kernel
theorem dX5_measure_16 : decode cX5_measure 16 = .ok (.iload_n 3, 1) := by decide +kernel
theorem dX5_measure_17 : decode cX5_measure 17 = .ok (.istore 4, 2) := by decide +kernel
theorem dX5_measure_19 : decode cX5_measure 19 = .ok (.iconst 0, 1) := by decide +kernel
theorem dX5_measure_20 : decode cX5_measure 20 = .ok (.istore 5, 2) := by decide +kernel
theorem dX5_measure_22 : decode cX5_measure 22 = .ok (.iconst 0, 1) := by decide +kernel
theorem dX5_measure_23 : decode cX5_measure 23 = .ok (.istore 6, 2) := by decide +kernel
theorem dX5_measure_25 : decode cX5_measure 25 = .ok (.bipush (-9), 2) := by decide +kernel
theorem dX5_measure_27 : decode cX5_measure 27 = .ok (.istore 7, 2) := by decide +kernel
theorem dX5_measure_29 : decode cX5_measure 29 = .ok (.iconst 0, 1) := by decide +kernel
theorem dX5_measure_30 : decode cX5_measure 30 = .ok (.istore 8, 2) := by decide +kernel
theorem dX5_measure_32 : decode cX5_measure 32 = .ok (.iload 8, 2) := by decide +kernel
theorem dX5_measure_34 : decode cX5_measure 34 = .ok (.bipush 24, 2) := by decide +kernel
theorem dX5_measure_36 : decode cX5_measure 36 = .ok (.if_icmp .ge 122, 3) := by decide +kernel
theorem dX5_measure_39 : decode cX5_measure 39 = .ok (.iload 4, 2) := by decide +kernel
theorem dX5_measure_41 : decode cX5_measure 41 = .ok (.iconst 1, 1) := by decide +kernel
theorem dX5_measure_42 : decode cX5_measure 42 = .ok (.if_icmp .lt 116, 3) := by decide +kernel
theorem dX5_measure_45 : decode cX5_measure 45 = .ok (.aload_n 1, 1) := by decide +kernel
theorem dX5_measure_46 : decode cX5_measure 46 = .ok (.iload_n 2, 1) := by decide +kernel
theorem dX5_measure_47 : decode cX5_measure 47 = .ok (.iload 4, 2) := by decide +kernel
theorem dX5_measure_49 : decode cX5_measure 49 = .ok (.invokevirtual 21, 3) := by decide +kernel
theorem dX5_measure_52 : decode cX5_measure 52 = .ok (.istore 9, 2) := by decide +kernel
theorem dX5_measure_54 : decode cX5_measure 54 = .ok (.aload_n 1, 1) := by decide +kernel
theorem dX5_measure_55 : decode cX5_measure 55 = .ok (.iload 9, 2) := by decide +kernel
theorem dX5_measure_57 : decode cX5_measure 57 = .ok (.invokevirtual 27, 3) := by decide +kernel
theorem dX5_measure_60 : decode cX5_measure 60 = .ok (.istore 10, 2) := by decide +kernel
theorem dX5_measure_62 : decode cX5_measure 62 = .ok (.iload 10, 2) := by decide +kernel
theorem dX5_measure_64 : decode cX5_measure 64 = .ok (.ifCond .gt 8, 3) := by decide +kernel
theorem dX5_measure_67 : decode cX5_measure 67 = .ok (.aload_n 0, 1) := by decide +kernel
theorem dX5_measure_68 : decode cX5_measure 68 = .ok (.invokevirtual 31, 3) := by decide +kernel
theorem dX5_measure_71 : decode cX5_measure 71 = .ok (.return_, 1) := by decide +kernel
theorem dX5_measure_72 : decode cX5_measure 72 = .ok (.iload 9, 2) := by decide +kernel
theorem dX5_measure_74 : decode cX5_measure 74 = .ok (.iload 7, 2) := by decide +kernel
theorem dX5_measure_76 : decode cX5_measure 76 = .ok (.if_icmp .ne 15, 3) := by decide +kernel
theorem dX5_measure_79 : decode cX5_measure 79 = .ok (.iload 6, 2) := by decide +kernel
theorem dX5_measure_81 : decode cX5_measure 81 = .ok (.aload_n 1, 1) := by decide +kernel
theorem dX5_measure_82 : decode cX5_measure 82 = .ok (.iload 9, 2) := by decide +kernel
theorem dX5_measure_84 : decode cX5_measure 84 = .ok (.invokevirtual 34, 3) := by decide +kernel
theorem dX5_measure_87 : decode cX5_measure 87 = .ok (.iadd, 1) := by decide +kernel
theorem dX5_measure_88 : decode cX5_measure 88 = .ok (.goto 9, 3) := by decide +kernel
theorem dX5_measure_91 : decode cX5_measure 91 = .ok (.aload_n 1, 1) := by decide +kernel
theorem dX5_measure_92 : decode cX5_measure 92 = .ok (.iload 9, 2) := by decide +kernel
theorem dX5_measure_94 : decode cX5_measure 94 = .ok (.invokevirtual 34, 3) := by decide +kernel
theorem dX5_measure_97 : decode cX5_measure 97 = .ok (.istore 6, 2) := by decide +kernel
theorem dX5_measure_99 : decode cX5_measure 99 = .ok (.iload 9, 2) := by decide +kernel
theorem dX5_measure_101 : decode cX5_measure 101 = .ok (.istore 7, 2) := by decide +kernel
theorem dX5_measure_103 : decode cX5_measure 103 = .ok (.iload 6, 2) := by decide +kernel
theorem dX5_measure_105 : decode cX5_measure 105 = .ok (.iload 5, 2) := by decide +kernel
theorem dX5_measure_107 : decode cX5_measure 107 = .ok (.if_icmp .lt 13, 3) := by decide +kernel
theorem dX5_measure_110 : decode cX5_measure 110 = .ok (.iload 6, 2) := by decide +kernel
theorem dX5_measure_112 : decode cX5_measure 112 = .ok (.istore 5, 2) := by decide +kernel
theorem dX5_measure_114 : decode cX5_measure 114 = .ok (.aload_n 0, 1) := by decide +kernel
theorem dX5_measure_115 : decode cX5_measure 115 = .ok (.iload 9, 2) := by decide +kernel
theorem dX5_measure_117 : decode cX5_measure 117 = .ok (.putfield 18, 3) := by decide +kernel
theorem dX5_measure_120 : decode cX5_measure 120 = .ok (.aload_n 0, 1) := by decide +kernel
theorem dX5_measure_121 : decode cX5_measure 121 = .ok (.dup, 1) := by decide +kernel
theorem dX5_measure_122 : decode cX5_measure 122 = .ok (.getfield 9, 3) := by decide +kernel
theorem dX5_measure_125 : decode cX5_measure 125 = .ok (.iconst 1, 1) := by decide +kernel
theorem dX5_measure_126 : decode cX5_measure 126 = .ok (.iadd, 1) := by decide +kernel
theorem dX5_measure_127 : decode cX5_measure 127 = .ok (.putfield 9, 3) := by decide +kernel
theorem dX5_measure_130 : decode cX5_measure 130 = .ok (.aload_n 0, 1) := by decide +kernel
theorem dX5_measure_131 : decode cX5_measure 131 = .ok (.dup, 1) := by decide +kernel
theorem dX5_measure_132 : decode cX5_measure 132 = .ok (.getfield 15, 3) := by decide +kernel
theorem dX5_measure_135 : decode cX5_measure 135 = .ok (.aload_n 1, 1) := by decide +kernel
theorem dX5_measure_136 : decode cX5_measure 136 = .ok (.iload 9, 2) := by decide +kernel
theorem dX5_measure_138 : decode cX5_measure 138 = .ok (.invokevirtual 34, 3) := by decide +kernel
theorem dX5_measure_141 : decode cX5_measure 141 = .ok (.iadd, 1) := by decide +kernel
theorem dX5_measure_142 : decode cX5_measure 142 = .ok (.putfield 15, 3) := by decide +kernel
theorem dX5_measure_145 : decode cX5_measure 145 = .ok (.iload 4, 2) := by decide +kernel
theorem dX5_measure_147 : decode cX5_measure 147 = .ok (.iload 10, 2) := by decide +kernel
theorem dX5_measure_149 : decode cX5_measure 149 = .ok (.isub, 1) := by decide +kernel
theorem dX5_measure_150 : decode cX5_measure 150 = .ok (.istore 4, 2) := by decide +kernel
theorem dX5_measure_152 : decode cX5_measure 152 = .ok (.iinc 8 1, 3) := by decide +kernel
theorem dX5_measure_155 : decode cX5_measure 155 = .ok (.goto (-123), 3) := by decide +kernel
theorem dX5_measure_158 : decode cX5_measure 158 = .ok (.return_, 1) := by decide +kernel
theorem dX5_neverIsOut_0 : decode cX5_neverIsOut 0 = .ok (.aload_n 0, 1) := by decide +kernel
theorem dX5_neverIsOut_1 : decode cX5_neverIsOut 1 = .ok (.bipush (-9), 2) := by decide +kernel
theorem dX5_neverIsOut_3 : decode cX5_neverIsOut 3 = .ok (.putfield 9, 3) := by decide +kernel
theorem dX5_neverIsOut_6 : decode cX5_neverIsOut 6 = .ok (.aload_n 0, 1) := by decide +kernel
theorem dX5_neverIsOut_7 : decode cX5_neverIsOut 7 = .ok (.bipush (-9), 2) := by decide +kernel
theorem dX5_neverIsOut_9 : decode cX5_neverIsOut 9 = .ok (.putfield 15, 3) := by decide +kernel
theorem dX5_neverIsOut_12 : decode cX5_neverIsOut 12 = .ok (.aload_n 0, 1) := by decide +kernel
theorem dX5_neverIsOut_13 : decode cX5_neverIsOut 13 = .ok (.bipush (-9), 2) := by decide +kernel
theorem dX5_neverIsOut_15 : decode cX5_neverIsOut 15 = .ok (.putfield 18, 3) := by decide +kernel
theorem dX5_neverIsOut_18 : decode cX5_neverIsOut 18 = .ok (.return_, 1) := by decide +kernel
theorem dX5_isAWay_0 : decode cX5_isAWay 0 = .ok (.aload_n 0, 1) := by decide +kernel
theorem dX5_isAWay_1 : decode cX5_isAWay 1 = .ok (.getfield 15, 3) := by decide +kernel
theorem dX5_isAWay_4 : decode cX5_isAWay 4 = .ok (.bipush (-9), 2) := by decide +kernel
theorem dX5_isAWay_6 : decode cX5_isAWay 6 = .ok (.if_icmp .eq 7, 3) := by decide +kernel
theorem dX5_isAWay_9 : decode cX5_isAWay 9 = .ok (.iconst 1, 1) := by decide +kernel
theorem dX5_isAWay_10 : decode cX5_isAWay 10 = .ok (.goto 4, 3) := by decide +kernel
theorem dX5_isAWay_13 : decode cX5_isAWay 13 = .ok (.iconst 0, 1) := by decide +kernel
theorem dX5_isAWay_14 : decode cX5_isAWay 14 = .ok (.ireturn, 1) := by decide +kernel
theorem dX5_rank_0 : decode cX5_rank 0 = .ok (.aload_n 0, 1) := by decide +kernel
theorem dX5_rank_1 : decode cX5_rank 1 = .ok (.invokevirtual 37, 3) := by decide +kernel
theorem dX5_rank_4 : decode cX5_rank 4 = .ok (.ifCond .eq 10, 3) := by decide +kernel
theorem dX5_rank_7 : decode cX5_rank 7 = .ok (.aload_n 0, 1) := by decide +kernel
theorem dX5_rank_8 : decode cX5_rank 8 = .ok (.getfield 15, 3) := by decide +kernel
theorem dX5_rank_11 : decode cX5_rank 11 = .ok (.goto 5, 3) := by decide +kernel
theorem dX5_rank_14 : decode cX5_rank 14 = .ok (.ldc 41, 2) := by decide +kernel
theorem dX5_rank_16 : decode cX5_rank 16 = .ok (.ireturn, 1) := by decide +kernel
theorem dX5_secondsOfAll_0 : decode cX5_secondsOfAll 0 = .ok (.iconst 0, 1) := by decide +kernel
theorem dX5_secondsOfAll_1 : decode cX5_secondsOfAll 1 = .ok (.istore_n 2, 1) := by decide +kernel
theorem dX5_secondsOfAll_2 : decode cX5_secondsOfAll 2 = .ok (.iconst 0, 1) := by decide +kernel
theorem dX5_secondsOfAll_3 : decode cX5_secondsOfAll 3 = .ok (.istore_n 3, 1) := by decide +kernel
theorem dX5_secondsOfAll_4 : decode cX5_secondsOfAll 4 = .ok (.iload_n 3, 1) := by decide +kernel
theorem dX5_secondsOfAll_5 : decode cX5_secondsOfAll 5 = .ok (.iconst 1, 1) := by decide +kernel
theorem dX5_secondsOfAll_6 : decode cX5_secondsOfAll 6 = .ok (.if_icmp .gt 37, 3) := by decide +kernel
theorem dX5_secondsOfAll_9 : decode cX5_secondsOfAll 9 = .ok (.aload_n 0, 1) := by decide +kernel
theorem dX5_secondsOfAll_10 : decode cX5_secondsOfAll 10 = .ok (.aload_n 1, 1) := by decide +kernel
theorem dX5_secondsOfAll_11 : decode cX5_secondsOfAll 11 = .ok (.iload_n 3, 1) := by decide +kernel
theorem dX5_secondsOfAll_12 : decode cX5_secondsOfAll 12 = .ok (.aload_n 1, 1) := by decide +kernel
theorem dX5_secondsOfAll_13 : decode cX5_secondsOfAll 13 = .ok (.iload_n 3, 1) := by decide +kernel
theorem dX5_secondsOfAll_14 : decode cX5_secondsOfAll 14 = .ok (.invokevirtual 42, 3) := by decide +kernel
theorem dX5_secondsOfAll_17 : decode cX5_secondsOfAll 17 = .ok (.invokevirtual 45, 3) := by decide +kernel
theorem dX5_secondsOfAll_20 : decode cX5_secondsOfAll 20 = .ok (.aload_n 0, 1) := by decide +kernel
theorem dX5_secondsOfAll_21 : decode cX5_secondsOfAll 21 = .ok (.invokevirtual 37, 3) := by decide +kernel
theorem dX5_secondsOfAll_24 : decode cX5_secondsOfAll 24 = .ok (.ifCond .ne 6, 3) := by decide +kernel
theorem dX5_secondsOfAll_27 : decode cX5_secondsOfAll 27 = .ok (.bipush (-9), 2) := by decide +kernel
theorem dX5_secondsOfAll_29 : decode cX5_secondsOfAll 29 = .ok (.ireturn, 1) := by decide +kernel
theorem dX5_secondsOfAll_30 : decode cX5_secondsOfAll 30 = .ok (.iload_n 2, 1) := by decide +kernel
theorem dX5_secondsOfAll_31 : decode cX5_secondsOfAll 31 = .ok (.aload_n 0, 1) := by decide +kernel
theorem dX5_secondsOfAll_32 : decode cX5_secondsOfAll 32 = .ok (.getfield 15, 3) := by decide +kernel
theorem dX5_secondsOfAll_35 : decode cX5_secondsOfAll 35 = .ok (.iadd, 1) := by decide +kernel
theorem dX5_secondsOfAll_36 : decode cX5_secondsOfAll 36 = .ok (.istore_n 2, 1) := by decide +kernel
theorem dX5_secondsOfAll_37 : decode cX5_secondsOfAll 37 = .ok (.iinc 3 1, 3) := by decide +kernel
theorem dX5_secondsOfAll_40 : decode cX5_secondsOfAll 40 = .ok (.goto (-36), 3) := by decide +kernel
theorem dX5_secondsOfAll_43 : decode cX5_secondsOfAll 43 = .ok (.iload_n 2, 1) := by decide +kernel
theorem dX5_secondsOfAll_44 : decode cX5_secondsOfAll 44 = .ok (.ireturn, 1) := by decide +kernel
theorem dX6_init_0 : decode cX6_init 0 = .ok (.aload_n 0, 1) := by decide +kernel
theorem dX6_init_1 : decode cX6_init 1 = .ok (.invokespecial 1, 3) := by decide +kernel
theorem dX6_init_4 : decode cX6_init 4 = .ok (.aload_n 0, 1) := by decide +kernel
theorem dX6_init_5 : decode cX6_init 5 = .ok (.new 7, 3) := by decide +kernel
theorem dX6_init_8 : decode cX6_init 8 = .ok (.dup, 1) := by decide +kernel
theorem dX6_init_9 : decode cX6_init 9 = .ok (.invokespecial 9, 3) := by decide +kernel
theorem dX6_init_12 : decode cX6_init 12 = .ok (.putfield 10, 3) := by decide +kernel
theorem dX6_init_15 : decode cX6_init 15 = .ok (.aload_n 0, 1) := by decide +kernel
theorem dX6_init_16 : decode cX6_init 16 = .ok (.new 7, 3) := by decide +kernel
theorem dX6_init_19 : decode cX6_init 19 = .ok (.dup, 1) := by decide +kernel
theorem dX6_init_20 : decode cX6_init 20 = .ok (.invokespecial 9, 3) := by decide +kernel
theorem dX6_init_23 : decode cX6_init 23 = .ok (.putfield 16, 3) := by decide +kernel
theorem dX6_init_26 : decode cX6_init 26 = .ok (.aload_n 0, 1) := by decide +kernel
theorem dX6_init_27 : decode cX6_init 27 = .ok (.new 7, 3) := by decide +kernel
theorem dX6_init_30 : decode cX6_init 30 = .ok (.dup, 1) := by decide +kernel
theorem dX6_init_31 : decode cX6_init 31 = .ok (.invokespecial 9, 3) := by decide +kernel
theorem dX6_init_34 : decode cX6_init 34 = .ok (.putfield 19, 3) := by decide +kernel
theorem dX6_init_37 : decode cX6_init 37 = .ok (.aload_n 0, 1) := by decide +kernel
theorem dX6_init_38 : decode cX6_init 38 = .ok (.iconst 0, 1) := by decide +kernel
theorem dX6_init_39 : decode cX6_init 39 = .ok (.putfield 22, 3) := by decide +kernel
theorem dX6_init_42 : decode cX6_init 42 = .ok (.aload_n 0, 1) := by decide +kernel
theorem dX6_init_43 : decode cX6_init 43 = .ok (.new 26, 3) := by decide +kernel
theorem dX6_init_46 : decode cX6_init 46 = .ok (.dup, 1) := by decide +kernel
theorem dX6_init_47 : decode cX6_init 47 = .ok (.invokespecial 28, 3) := by decide +kernel
theorem dX6_init_50 : decode cX6_init 50 = .ok (.putfield 29, 3) := by decide +kernel
theorem dX6_init_53 : decode cX6_init 53 = .ok (.aload_n 0, 1) := by decide +kernel
theorem dX6_init_54 : decode cX6_init 54 = .ok (.new 33, 3) := by decide +kernel
theorem dX6_init_57 : decode cX6_init 57 = .ok (.dup, 1) := by decide +kernel
theorem dX6_init_58 : decode cX6_init 58 = .ok (.invokespecial 35, 3) := by decide +kernel
theorem dX6_init_61 : decode cX6_init 61 = .ok (.putfield 36, 3) := by decide +kernel
theorem dX6_init_64 : decode cX6_init 64 = .ok (.aload_n 0, 1) := by decide +kernel
theorem dX6_init_65 : decode cX6_init 65 = .ok (.new 40, 3) := by decide +kernel
theorem dX6_init_68 : decode cX6_init 68 = .ok (.dup, 1) := by decide +kernel
theorem dX6_init_69 : decode cX6_init 69 = .ok (.invokespecial 42, 3) := by decide +kernel
theorem dX6_init_72 : decode cX6_init 72 = .ok (.putfield 43, 3) := by decide +kernel
theorem dX6_init_75 : decode cX6_init 75 = .ok (.aload_n 0, 1) := by decide +kernel
theorem dX6_init_76 : decode cX6_init 76 = .ok (.new 47, 3) := by decide +kernel
theorem dX6_init_79 : decode cX6_init 79 = .ok (.dup, 1) := by decide +kernel
theorem dX6_init_80 : decode cX6_init 80 = .ok (.invokespecial 49, 3) := by decide +kernel
theorem dX6_init_83 : decode cX6_init 83 = .ok (.putfield 50, 3) := by decide +kernel
theorem dX6_init_86 : decode cX6_init 86 = .ok (.aload_n 0, 1) := by decide +kernel
theorem dX6_init_87 : decode cX6_init 87 = .ok (.bipush 7, 2) := by decide +kernel
theorem dX6_init_89 : decode cX6_init 89 = .ok (.newarray .int, 2) := by decide +kernel
theorem dX6_init_91 : decode cX6_init 91 = .ok (.putfield 54, 3) := by decide +kernel
theorem dX6_init_94 : decode cX6_init 94 = .ok (.return_, 1) := by decide +kernel
theorem dX6_letter_0 : decode cX6_letter 0 = .ok (.iload_n 1, 1) := by decide +kernel
theorem dX6_letter_1 : decode cX6_letter 1 = .ok (.iconst 0, 1) := by decide +kernel
theorem dX6_letter_2 : decode cX6_letter 2 = .ok (.sipush 255, 3) := by decide +kernel
theorem dX6_letter_5 : decode cX6_letter 5 = .ok (.invokestatic 58, 3) := by decide +kernel
theorem dX6_letter_8 : decode cX6_letter 8 = .ok (.istore_n 2, 1) := by decide +kernel
theorem dX6_letter_9 : decode cX6_letter 9 = .ok (.iload_n 2, 1) := by decide +kernel
theorem dX6_letter_10 : decode cX6_letter 10 = .ok (.ifCond .eq 9, 3) := by decide +kernel
theorem dX6_letter_13 : decode cX6_letter 13 = .ok (.aload_n 0, 1) := by decide +kernel
theorem dX6_letter_14 : decode cX6_letter 14 = .ok (.iload_n 2, 1) := by decide +kernel
theorem dX6_letter_15 : decode cX6_letter 15 = .ok (.invokevirtual 62, 3) := by decide +kernel
theorem dX6_letter_18 : decode cX6_letter 18 = .ok (.ireturn, 1) := by decide +kernel
theorem dX6_letter_19 : decode cX6_letter 19 = .ok (.aload_n 0, 1) := by decide +kernel
theorem dX6_letter_20 : decode cX6_letter 20 = .ok (.getfield 43, 3) := by decide +kernel
theorem dX6_letter_23 : decode cX6_letter 23 = .ok (.invokevirtual 66, 3) := by decide +kernel
theorem dX6_letter_26 : decode cX6_letter 26 = .ok (.ifCond .eq 10, 3) := by decide +kernel
theorem dX6_letter_29 : decode cX6_letter 29 = .ok (.aload_n 0, 1) := by decide +kernel
theorem dX6_letter_30 : decode cX6_letter 30 = .ok (.bipush (-6), 2) := by decide +kernel
theorem dX6_letter_32 : decode cX6_letter 32 = .ok (.invokevirtual 62, 3) := by decide +kernel
theorem dX6_letter_35 : decode cX6_letter 35 = .ok (.ireturn, 1) := by decide +kernel
theorem dX6_letter_36 : decode cX6_letter 36 = .ok (.aload_n 0, 1) := by decide +kernel
theorem dX6_letter_37 : decode cX6_letter 37 = .ok (.getfield 43, 3) := by decide +kernel
theorem dX6_letter_40 : decode cX6_letter 40 = .ok (.iload_n 1, 1) := by decide +kernel
theorem dX6_letter_41 : decode cX6_letter 41 = .ok (.invokevirtual 70, 3) := by decide +kernel
theorem dX6_letter_44 : decode cX6_letter 44 = .ok (.aload_n 0, 1) := by decide +kernel
theorem dX6_letter_45 : decode cX6_letter 45 = .ok (.getfield 43, 3) := by decide +kernel
theorem dX6_letter_48 : decode cX6_letter 48 = .ok (.getfield 74, 3) := by decide +kernel
theorem dX6_letter_51 : decode cX6_letter 51 = .ok (.ireturn, 1) := by decide +kernel
theorem dX6_hem_0 : decode cX6_hem 0 = .ok (.aload_n 0, 1) := by decide +kernel
theorem dX6_hem_1 : decode cX6_hem 1 = .ok (.getfield 43, 3) := by decide +kernel
theorem dX6_hem_4 : decode cX6_hem 4 = .ok (.invokevirtual 78, 3) := by decide +kernel
theorem dX6_hem_7 : decode cX6_hem 7 = .ok (.istore_n 1, 1) := by decide +kernel
theorem dX6_hem_8 : decode cX6_hem 8 = .ok (.iload_n 1, 1) := by decide +kernel
theorem dX6_hem_9 : decode cX6_hem 9 = .ok (.bipush (-9), 2) := by decide +kernel
theorem dX6_hem_11 : decode cX6_hem 11 = .ok (.if_icmp .ne 10, 3) := by decide +kernel
theorem dX6_hem_14 : decode cX6_hem 14 = .ok (.aload_n 0, 1) := by decide +kernel
theorem dX6_hem_15 : decode cX6_hem 15 = .ok (.invokevirtual 82, 3) := by decide +kernel
theorem dX6_hem_18 : decode cX6_hem 18 = .ok (.goto 8, 3) := by decide +kernel
theorem dX6_hem_21 : decode cX6_hem 21 = .ok (.sipush (-1000), 3) := by decide +kernel
theorem dX6_hem_24 : decode cX6_hem 24 = .ok (.iload_n 1, 1) := by decide +kernel
theorem dX6_hem_25 : decode cX6_hem 25 = .ok (.isub, 1) := by decide +kernel
theorem dX6_hem_26 : decode cX6_hem 26 = .ok (.istore_n 2, 1) := by decide +kernel
theorem dX6_hem_27 : decode cX6_hem 27 = .ok (.aload_n 0, 1) := by decide +kernel
theorem dX6_hem_28 : decode cX6_hem 28 = .ok (.getfield 43, 3) := by decide +kernel
theorem dX6_hem_31 : decode cX6_hem 31 = .ok (.invokevirtual 85, 3) := by decide +kernel
theorem dX6_hem_34 : decode cX6_hem 34 = .ok (.iload_n 2, 1) := by decide +kernel
theorem dX6_hem_35 : decode cX6_hem 35 = .ok (.ireturn, 1) := by decide +kernel
theorem dX6_inch_0 : decode cX6_inch 0 = .ok (.aload_n 0, 1) := by decide +kernel
theorem dX6_inch_1 : decode cX6_inch 1 = .ok (.getfield 10, 3) := by decide +kernel
theorem dX6_inch_4 : decode cX6_inch 4 = .ok (.iload_n 1, 1) := by decide +kernel
theorem dX6_inch_5 : decode cX6_inch 5 = .ok (.invokevirtual 88, 3) := by decide +kernel
theorem dX6_inch_8 : decode cX6_inch 8 = .ok (.ifCond .ne 9, 3) := by decide +kernel
theorem dX6_inch_11 : decode cX6_inch 11 = .ok (.aload_n 0, 1) := by decide +kernel
theorem dX6_inch_12 : decode cX6_inch 12 = .ok (.iconst (-1), 1) := by decide +kernel
theorem dX6_inch_13 : decode cX6_inch 13 = .ok (.invokevirtual 62, 3) := by decide +kernel
theorem dX6_inch_16 : decode cX6_inch 16 = .ok (.ireturn, 1) := by decide +kernel
theorem dX6_inch_17 : decode cX6_inch 17 = .ok (.iload_n 2, 1) := by decide +kernel
theorem dX6_inch_18 : decode cX6_inch 18 = .ok (.tableswitch 92 0 5 #[38, 47, 56, 65, 74, 83], 38) := by decide +kernel
theorem dX6_inch_56 : decode cX6_inch 56 = .ok (.aload_n 0, 1) := by decide +kernel
theorem dX6_inch_57 : decode cX6_inch 57 = .ok (.getfield 10, 3) := by decide +kernel
theorem dX6_inch_60 : decode cX6_inch 60 = .ok (.iload_n 1, 1) := by decide +kernel
theorem dX6_inch_61 : decode cX6_inch 61 = .ok (.invokevirtual 92, 3) := by decide +kernel
theorem dX6_inch_64 : decode cX6_inch 64 = .ok (.ireturn, 1) := by decide +kernel
theorem dX6_inch_65 : decode cX6_inch 65 = .ok (.aload_n 0, 1) := by decide +kernel
theorem dX6_inch_66 : decode cX6_inch 66 = .ok (.getfield 10, 3) := by decide +kernel
theorem dX6_inch_69 : decode cX6_inch 69 = .ok (.iload_n 1, 1) := by decide +kernel
theorem dX6_inch_70 : decode cX6_inch 70 = .ok (.invokevirtual 95, 3) := by decide +kernel
theorem dX6_inch_73 : decode cX6_inch 73 = .ok (.ireturn, 1) := by decide +kernel
theorem dX6_inch_74 : decode cX6_inch 74 = .ok (.aload_n 0, 1) := by decide +kernel
theorem dX6_inch_75 : decode cX6_inch 75 = .ok (.getfield 10, 3) := by decide +kernel
theorem dX6_inch_78 : decode cX6_inch 78 = .ok (.iload_n 1, 1) := by decide +kernel
theorem dX6_inch_79 : decode cX6_inch 79 = .ok (.invokevirtual 98, 3) := by decide +kernel
theorem dX6_inch_82 : decode cX6_inch 82 = .ok (.ireturn, 1) := by decide +kernel
theorem dX6_inch_83 : decode cX6_inch 83 = .ok (.aload_n 0, 1) := by decide +kernel
theorem dX6_inch_84 : decode cX6_inch 84 = .ok (.getfield 10, 3) := by decide +kernel
theorem dX6_inch_87 : decode cX6_inch 87 = .ok (.iload_n 1, 1) := by decide +kernel
theorem dX6_inch_88 : decode cX6_inch 88 = .ok (.invokevirtual 101, 3) := by decide +kernel
theorem dX6_inch_91 : decode cX6_inch 91 = .ok (.ireturn, 1) := by decide +kernel
theorem dX6_inch_92 : decode cX6_inch 92 = .ok (.aload_n 0, 1) := by decide +kernel
theorem dX6_inch_93 : decode cX6_inch 93 = .ok (.getfield 10, 3) := by decide +kernel
theorem dX6_inch_96 : decode cX6_inch 96 = .ok (.iload_n 1, 1) := by decide +kernel
theorem dX6_inch_97 : decode cX6_inch 97 = .ok (.invokevirtual 104, 3) := by decide +kernel
theorem dX6_inch_100 : decode cX6_inch 100 = .ok (.ireturn, 1) := by decide +kernel
theorem dX6_inch_101 : decode cX6_inch 101 = .ok (.aload_n 0, 1) := by decide +kernel
theorem dX6_inch_102 : decode cX6_inch 102 = .ok (.getfield 10, 3) := by decide +kernel
theorem dX6_inch_105 : decode cX6_inch 105 = .ok (.iload_n 1, 1) := by decide +kernel
theorem dX6_inch_106 : decode cX6_inch 106 = .ok (.invokevirtual 107, 3) := by decide +kernel
theorem dX6_inch_109 : decode cX6_inch 109 = .ok (.ireturn, 1) := by decide +kernel
theorem dX6_inch_110 : decode cX6_inch 110 = .ok (.aload_n 0, 1) := by decide +kernel
theorem dX6_inch_111 : decode cX6_inch 111 = .ok (.bipush (-2), 2) := by decide +kernel
theorem dX6_inch_113 : decode cX6_inch 113 = .ok (.invokevirtual 62, 3) := by decide +kernel
theorem dX6_inch_116 : decode cX6_inch 116 = .ok (.ireturn, 1) := by decide +kernel
theorem dX6_turn_0 : decode cX6_turn 0 = .ok (.aload_n 0, 1) := by decide +kernel
theorem dX6_turn_1 : decode cX6_turn 1 = .ok (.getfield 10, 3) := by decide +kernel
theorem dX6_turn_4 : decode cX6_turn 4 = .ok (.iload_n 1, 1) := by decide +kernel
theorem dX6_turn_5 : decode cX6_turn 5 = .ok (.invokevirtual 88, 3) := by decide +kernel
theorem dX6_turn_8 : decode cX6_turn 8 = .ok (.ifCond .ne 9, 3) := by decide +kernel
theorem dX6_turn_11 : decode cX6_turn 11 = .ok (.aload_n 0, 1) := by decide +kernel
theorem dX6_turn_12 : decode cX6_turn 12 = .ok (.iconst (-1), 1) := by decide +kernel
theorem dX6_turn_13 : decode cX6_turn 13 = .ok (.invokevirtual 62, 3) := by decide +kernel
theorem dX6_turn_16 : decode cX6_turn 16 = .ok (.ireturn, 1) := by decide +kernel
theorem dX6_turn_17 : decode cX6_turn 17 = .ok (.iload_n 2, 1) := by decide +kernel
theorem dX6_turn_18 : decode cX6_turn 18 = .ok (.ifCond .lt 9, 3) := by decide +kernel
theorem dX6_turn_21 : decode cX6_turn 21 = .ok (.iload_n 2, 1) := by decide +kernel
theorem dX6_turn_22 : decode cX6_turn 22 = .ok (.bipush 6, 2) := by decide +kernel
theorem dX6_turn_24 : decode cX6_turn 24 = .ok (.if_icmp .lt 10, 3) := by decide +kernel
theorem dX6_turn_27 : decode cX6_turn 27 = .ok (.aload_n 0, 1) := by decide +kernel
theorem dX6_turn_28 : decode cX6_turn 28 = .ok (.bipush (-2), 2) := by decide +kernel
theorem dX6_turn_30 : decode cX6_turn 30 = .ok (.invokevirtual 62, 3) := by decide +kernel
theorem dX6_turn_33 : decode cX6_turn 33 = .ok (.ireturn, 1) := by decide +kernel
theorem dX6_turn_34 : decode cX6_turn 34 = .ok (.iload_n 3, 1) := by decide +kernel
theorem dX6_turn_35 : decode cX6_turn 35 = .ok (.iconst 0, 1) := by decide +kernel
theorem dX6_turn_36 : decode cX6_turn 36 = .ok (.bipush 9, 2) := by decide +kernel
theorem dX6_turn_38 : decode cX6_turn 38 = .ok (.invokestatic 58, 3) := by decide +kernel
theorem dX6_turn_41 : decode cX6_turn 41 = .ok (.istore 4, 2) := by decide +kernel
theorem dX6_turn_43 : decode cX6_turn 43 = .ok (.iload 4, 2) := by decide +kernel
theorem dX6_turn_45 : decode cX6_turn 45 = .ok (.ifCond .eq 10, 3) := by decide +kernel
theorem dX6_turn_48 : decode cX6_turn 48 = .ok (.aload_n 0, 1) := by decide +kernel
theorem dX6_turn_49 : decode cX6_turn 49 = .ok (.iload 4, 2) := by decide +kernel
theorem dX6_turn_51 : decode cX6_turn 51 = .ok (.invokevirtual 62, 3) := by decide +kernel
theorem dX6_turn_54 : decode cX6_turn 54 = .ok (.ireturn, 1) := by decide +kernel
theorem dX6_turn_55 : decode cX6_turn 55 = .ok (.bipush 10, 2) := by decide +kernel
theorem dX6_turn_57 : decode cX6_turn 57 = .ok (.aload_n 0, 1) := by decide +kernel
theorem dX6_turn_58 : decode cX6_turn 58 = .ok (.getfield 10, 3) := by decide +kernel
theorem dX6_turn_61 : decode cX6_turn 61 = .ok (.iload_n 1, 1) := by decide +kernel
theorem dX6_turn_62 : decode cX6_turn 62 = .ok (.invokevirtual 92, 3) := by decide +kernel
theorem dX6_turn_65 : decode cX6_turn 65 = .ok (.imul, 1) := by decide +kernel
theorem dX6_turn_66 : decode cX6_turn 66 = .ok (.aload_n 0, 1) := by decide +kernel
theorem dX6_turn_67 : decode cX6_turn 67 = .ok (.getfield 10, 3) := by decide +kernel
theorem dX6_turn_70 : decode cX6_turn 70 = .ok (.iload_n 1, 1) := by decide +kernel
theorem dX6_turn_71 : decode cX6_turn 71 = .ok (.invokevirtual 95, 3) := by decide +kernel
theorem dX6_turn_74 : decode cX6_turn 74 = .ok (.iadd, 1) := by decide +kernel
theorem dX6_turn_75 : decode cX6_turn 75 = .ok (.istore 5, 2) := by decide +kernel
theorem dX6_turn_77 : decode cX6_turn 77 = .ok (.aload_n 0, 1) := by decide +kernel
theorem dX6_turn_78 : decode cX6_turn 78 = .ok (.getfield 10, 3) := by decide +kernel
theorem dX6_turn_81 : decode cX6_turn 81 = .ok (.iload_n 1, 1) := by decide +kernel
theorem dX6_turn_82 : decode cX6_turn 82 = .ok (.iload_n 2, 1) := by decide +kernel
theorem dX6_turn_83 : decode cX6_turn 83 = .ok (.iload_n 3, 1) := by decide +kernel
theorem dX6_turn_84 : decode cX6_turn 84 = .ok (.invokevirtual 112, 3) := by decide +kernel
theorem dX6_turn_87 : decode cX6_turn 87 = .ok (.iload 5, 2) := by decide +kernel
theorem dX6_turn_89 : decode cX6_turn 89 = .ok (.ireturn, 1) := by decide +kernel
theorem dX6_inches_0 : decode cX6_inches 0 = .ok (.iload_n 1, 1) := by decide +kernel
theorem dX6_inches_1 : decode cX6_inches 1 = .ok (.iconst 2, 1) := by decide +kernel
theorem dX6_inches_2 : decode cX6_inches 2 = .ok (.bipush 12, 2) := by decide +kernel
theorem dX6_inches_4 : decode cX6_inches 4 = .ok (.invokestatic 58, 3) := by decide +kernel
theorem dX6_inches_7 : decode cX6_inches 7 = .ok (.istore_n 2, 1) := by decide +kernel
theorem dX6_inches_8 : decode cX6_inches 8 = .ok (.iload_n 2, 1) := by decide +kernel
theorem dX6_inches_9 : decode cX6_inches 9 = .ok (.ifCond .eq 9, 3) := by decide +kernel
theorem dX6_inches_12 : decode cX6_inches 12 = .ok (.aload_n 0, 1) := by decide +kernel
theorem dX6_inches_13 : decode cX6_inches 13 = .ok (.iload_n 2, 1) := by decide +kernel
theorem dX6_inches_14 : decode cX6_inches 14 = .ok (.invokevirtual 62, 3) := by decide +kernel
theorem dX6_inches_17 : decode cX6_inches 17 = .ok (.ireturn, 1) := by decide +kernel
theorem dX6_inches_18 : decode cX6_inches 18 = .ok (.aload_n 0, 1) := by decide +kernel
theorem dX6_inches_19 : decode cX6_inches 19 = .ok (.getfield 10, 3) := by decide +kernel
theorem dX6_inches_22 : decode cX6_inches 22 = .ok (.getfield 116, 3) := by decide +kernel
theorem dX6_inches_25 : decode cX6_inches 25 = .ok (.istore_n 3, 1) := by decide +kernel
theorem dX6_inches_26 : decode cX6_inches 26 = .ok (.aload_n 0, 1) := by decide +kernel
theorem dX6_inches_27 : decode cX6_inches 27 = .ok (.getfield 10, 3) := by decide +kernel
theorem dX6_inches_30 : decode cX6_inches 30 = .ok (.iload_n 1, 1) := by decide +kernel
theorem dX6_inches_31 : decode cX6_inches 31 = .ok (.putfield 116, 3) := by decide +kernel
theorem dX6_inches_34 : decode cX6_inches 34 = .ok (.iload_n 3, 1) := by decide +kernel
theorem dX6_inches_35 : decode cX6_inches 35 = .ok (.ireturn, 1) := by decide +kernel
theorem dX6_end_0 : decode cX6_end 0 = .ok (.iload_n 1, 1) := by decide +kernel
theorem dX6_end_1 : decode cX6_end 1 = .ok (.invokestatic 119, 3) := by decide +kernel
theorem dX6_end_4 : decode cX6_end 4 = .ok (.ifCond .ne 9, 3) := by decide +kernel
theorem dX6_end_7 : decode cX6_end 7 = .ok (.aload_n 0, 1) := by decide +kernel
theorem dX6_end_8 : decode cX6_end 8 = .ok (.iconst (-1), 1) := by decide +kernel
theorem dX6_end_9 : decode cX6_end 9 = .ok (.invokevirtual 122, 3) := by decide +kernel
theorem dX6_end_12 : decode cX6_end 12 = .ok (.ireturn, 1) := by decide +kernel
theorem dX6_end_13 : decode cX6_end 13 = .ok (.iload_n 2, 1) := by decide +kernel
theorem dX6_end_14 : decode cX6_end 14 = .ok (.bipush (-40), 2) := by decide +kernel
theorem dX6_end_16 : decode cX6_end 16 = .ok (.bipush 24, 2) := by decide +kernel
theorem dX6_end_18 : decode cX6_end 18 = .ok (.invokestatic 58, 3) := by decide +kernel
theorem dX6_end_21 : decode cX6_end 21 = .ok (.istore_n 3, 1) := by decide +kernel
theorem dX6_end_22 : decode cX6_end 22 = .ok (.iload_n 3, 1) := by decide +kernel
theorem dX6_end_23 : decode cX6_end 23 = .ok (.ifCond .eq 9, 3) := by decide +kernel
theorem dX6_end_26 : decode cX6_end 26 = .ok (.aload_n 0, 1) := by decide +kernel
theorem dX6_end_27 : decode cX6_end 27 = .ok (.iload_n 3, 1) := by decide +kernel
theorem dX6_end_28 : decode cX6_end 28 = .ok (.invokevirtual 122, 3) := by decide +kernel
theorem dX6_end_31 : decode cX6_end 31 = .ok (.ireturn, 1) := by decide +kernel
theorem dX6_end_32 : decode cX6_end 32 = .ok (.aload_n 0, 1) := by decide +kernel
theorem dX6_end_33 : decode cX6_end 33 = .ok (.getfield 10, 3) := by decide +kernel
theorem dX6_end_36 : decode cX6_end 36 = .ok (.iload_n 1, 1) := by decide +kernel
theorem dX6_end_37 : decode cX6_end 37 = .ok (.invokevirtual 125, 3) := by decide +kernel
theorem dX6_end_40 : decode cX6_end 40 = .ok (.istore 4, 2) := by decide +kernel
theorem dX6_end_42 : decode cX6_end 42 = .ok (.aload_n 0, 1) := by decide +kernel
theorem dX6_end_43 : decode cX6_end 43 = .ok (.getfield 10, 3) := by decide +kernel
theorem dX6_end_46 : decode cX6_end 46 = .ok (.iload_n 1, 1) := by decide +kernel
theorem dX6_end_47 : decode cX6_end 47 = .ok (.iload_n 2, 1) := by decide +kernel
theorem dX6_end_48 : decode cX6_end 48 = .ok (.invokevirtual 128, 3) := by decide +kernel
theorem dX6_end_51 : decode cX6_end 51 = .ok (.iload 4, 2) := by decide +kernel
theorem dX6_end_53 : decode cX6_end 53 = .ok (.ireturn, 1) := by decide +kernel
theorem dX6_tie_0 : decode cX6_tie 0 = .ok (.iload_n 1, 1) := by decide +kernel
theorem dX6_tie_1 : decode cX6_tie 1 = .ok (.invokestatic 119, 3) := by decide +kernel
theorem dX6_tie_4 : decode cX6_tie 4 = .ok (.ifCond .ne 9, 3) := by decide +kernel
theorem dX6_tie_7 : decode cX6_tie 7 = .ok (.aload_n 0, 1) := by decide +kernel
theorem dX6_tie_8 : decode cX6_tie 8 = .ok (.iconst (-1), 1) := by decide +kernel
theorem dX6_tie_9 : decode cX6_tie 9 = .ok (.invokevirtual 62, 3) := by decide +kernel
theorem dX6_tie_12 : decode cX6_tie 12 = .ok (.ireturn, 1) := by decide +kernel
theorem dX6_tie_13 : decode cX6_tie 13 = .ok (.aload_n 0, 1) := by decide +kernel
theorem dX6_tie_14 : decode cX6_tie 14 = .ok (.getfield 10, 3) := by decide +kernel
theorem dX6_tie_17 : decode cX6_tie 17 = .ok (.iload_n 1, 1) := by decide +kernel
theorem dX6_tie_18 : decode cX6_tie 18 = .ok (.aload_n 0, 1) := by decide +kernel
theorem dX6_tie_19 : decode cX6_tie 19 = .ok (.getfield 10, 3) := by decide +kernel
theorem dX6_tie_22 : decode cX6_tie 22 = .ok (.iload_n 1, 1) := by decide +kernel
theorem dX6_tie_23 : decode cX6_tie 23 = .ok (.invokevirtual 132, 3) := by decide +kernel
theorem dX6_tie_26 : decode cX6_tie 26 = .ok (.ifCond .ne 7, 3) := by decide +kernel
theorem dX6_tie_29 : decode cX6_tie 29 = .ok (.iconst 1, 1) := by decide +kernel
theorem dX6_tie_30 : decode cX6_tie 30 = .ok (.goto 4, 3) := by decide +kernel
theorem dX6_tie_33 : decode cX6_tie 33 = .ok (.iconst 0, 1) := by decide +kernel
theorem dX6_tie_34 : decode cX6_tie 34 = .ok (.invokevirtual 135, 3) := by decide +kernel
theorem dX6_tie_37 : decode cX6_tie 37 = .ok (.aload_n 0, 1) := by decide +kernel
theorem dX6_tie_38 : decode cX6_tie 38 = .ok (.getfield 10, 3) := by decide +kernel
theorem dX6_tie_41 : decode cX6_tie 41 = .ok (.iload_n 1, 1) := by decide +kernel
theorem dX6_tie_42 : decode cX6_tie 42 = .ok (.invokevirtual 132, 3) := by decide +kernel
theorem dX6_tie_45 : decode cX6_tie 45 = .ok (.ifCond .eq 7, 3) := by decide +kernel
theorem dX6_tie_48 : decode cX6_tie 48 = .ok (.iconst 1, 1) := by decide +kernel
theorem dX6_tie_49 : decode cX6_tie 49 = .ok (.goto 4, 3) := by decide +kernel
theorem dX6_tie_52 : decode cX6_tie 52 = .ok (.iconst 0, 1) := by decide +kernel
theorem dX6_tie_53 : decode cX6_tie 53 = .ok (.ireturn, 1) := by decide +kernel
theorem dX6_sew_0 : decode cX6_sew 0 = .ok (.aload_n 0, 1) := by decide +kernel
theorem dX6_sew_1 : decode cX6_sew 1 = .ok (.getfield 10, 3) := by decide +kernel
theorem dX6_sew_4 : decode cX6_sew 4 = .ok (.aload_n 0, 1) := by decide +kernel
theorem dX6_sew_5 : decode cX6_sew 5 = .ok (.getfield 10, 3) := by decide +kernel
theorem dX6_sew_8 : decode cX6_sew 8 = .ok (.getfield 139, 3) := by decide +kernel
end
section
theorem dX6_sew_11 : decode cX6_sew 11 = .ok (.ifCond .ne 7, 3) := by decide +kernel
theorem dX6_sew_14 : decode cX6_sew 14 = .ok (.iconst 1, 1) := by decide +kernel
theorem dX6_sew_15 : decode cX6_sew 15 = .ok (.goto 4, 3) := by decide +kernel
theorem dX6_sew_18 : decode cX6_sew 18 = .ok (.iconst 0, 1) := by decide +kernel
theorem dX6_sew_19 : decode cX6_sew 19 = .ok (.putfield 139, 3) := by decide +kernel
theorem dX6_sew_22 : decode cX6_sew 22 = .ok (.aload_n 0, 1) := by decide +kernel
theorem dX6_sew_23 : decode cX6_sew 23 = .ok (.getfield 10, 3) := by decide +kernel
theorem dX6_sew_26 : decode cX6_sew 26 = .ok (.getfield 139, 3) := by decide +kernel
theorem dX6_sew_29 : decode cX6_sew 29 = .ok (.ifCond .eq 7, 3) := by decide +kernel
theorem dX6_sew_32 : decode cX6_sew 32 = .ok (.iconst 1, 1) := by decide +kernel
theorem dX6_sew_33 : decode cX6_sew 33 = .ok (.goto 4, 3) := by decide +kernel
theorem dX6_sew_36 : decode cX6_sew 36 = .ok (.iconst 0, 1) := by decide +kernel
theorem dX6_sew_37 : decode cX6_sew 37 = .ok (.ireturn, 1) := by decide +kernel
theorem dX6_set_0 : decode cX6_set 0 = .ok (.iload_n 1, 1) := by decide +kernel
theorem dX6_set_1 : decode cX6_set 1 = .ok (.ifCond .eq 15, 3) := by decide +kernel
theorem dX6_set_4 : decode cX6_set 4 = .ok (.iload_n 1, 1) := by decide +kernel
theorem dX6_set_5 : decode cX6_set 5 = .ok (.iconst 1, 1) := by decide +kernel
theorem dX6_set_6 : decode cX6_set 6 = .ok (.if_icmp .eq 10, 3) := by decide +kernel
theorem dX6_set_9 : decode cX6_set 9 = .ok (.aload_n 0, 1) := by decide +kernel
theorem dX6_set_10 : decode cX6_set 10 = .ok (.bipush (-2), 2) := by decide +kernel
theorem dX6_set_12 : decode cX6_set 12 = .ok (.invokevirtual 62, 3) := by decide +kernel
theorem dX6_set_15 : decode cX6_set 15 = .ok (.ireturn, 1) := by decide +kernel
theorem dX6_set_16 : decode cX6_set 16 = .ok (.iload_n 2, 1) := by decide +kernel
theorem dX6_set_17 : decode cX6_set 17 = .ok (.iload_n 1, 1) := by decide +kernel
theorem dX6_set_18 : decode cX6_set 18 = .ok (.ifCond .ne 7, 3) := by decide +kernel
theorem dX6_set_21 : decode cX6_set 21 = .ok (.iconst 1, 1) := by decide +kernel
theorem dX6_set_22 : decode cX6_set 22 = .ok (.goto 4, 3) := by decide +kernel
theorem dX6_set_25 : decode cX6_set 25 = .ok (.iconst 0, 1) := by decide +kernel
theorem dX6_set_26 : decode cX6_set 26 = .ok (.bipush 9, 2) := by decide +kernel
theorem dX6_set_28 : decode cX6_set 28 = .ok (.invokestatic 58, 3) := by decide +kernel
theorem dX6_set_31 : decode cX6_set 31 = .ok (.istore_n 3, 1) := by decide +kernel
theorem dX6_set_32 : decode cX6_set 32 = .ok (.iload_n 3, 1) := by decide +kernel
theorem dX6_set_33 : decode cX6_set 33 = .ok (.ifCond .eq 9, 3) := by decide +kernel
theorem dX6_set_36 : decode cX6_set 36 = .ok (.aload_n 0, 1) := by decide +kernel
theorem dX6_set_37 : decode cX6_set 37 = .ok (.iload_n 3, 1) := by decide +kernel
theorem dX6_set_38 : decode cX6_set 38 = .ok (.invokevirtual 62, 3) := by decide +kernel
theorem dX6_set_41 : decode cX6_set 41 = .ok (.ireturn, 1) := by decide +kernel
theorem dX6_set_42 : decode cX6_set 42 = .ok (.iload_n 1, 1) := by decide +kernel
theorem dX6_set_43 : decode cX6_set 43 = .ok (.ifCond .ne 13, 3) := by decide +kernel
theorem dX6_set_46 : decode cX6_set 46 = .ok (.aload_n 0, 1) := by decide +kernel
theorem dX6_set_47 : decode cX6_set 47 = .ok (.getfield 10, 3) := by decide +kernel
theorem dX6_set_50 : decode cX6_set 50 = .ok (.getfield 142, 3) := by decide +kernel
theorem dX6_set_53 : decode cX6_set 53 = .ok (.goto 10, 3) := by decide +kernel
theorem dX6_set_56 : decode cX6_set 56 = .ok (.aload_n 0, 1) := by decide +kernel
theorem dX6_set_57 : decode cX6_set 57 = .ok (.getfield 10, 3) := by decide +kernel
theorem dX6_set_60 : decode cX6_set 60 = .ok (.getfield 145, 3) := by decide +kernel
theorem dX6_set_63 : decode cX6_set 63 = .ok (.istore 4, 2) := by decide +kernel
theorem dX6_set_65 : decode cX6_set 65 = .ok (.iload_n 1, 1) := by decide +kernel
theorem dX6_set_66 : decode cX6_set 66 = .ok (.ifCond .ne 14, 3) := by decide +kernel
theorem dX6_set_69 : decode cX6_set 69 = .ok (.aload_n 0, 1) := by decide +kernel
theorem dX6_set_70 : decode cX6_set 70 = .ok (.getfield 10, 3) := by decide +kernel
theorem dX6_set_73 : decode cX6_set 73 = .ok (.iload_n 2, 1) := by decide +kernel
theorem dX6_set_74 : decode cX6_set 74 = .ok (.putfield 142, 3) := by decide +kernel
theorem dX6_set_77 : decode cX6_set 77 = .ok (.goto 11, 3) := by decide +kernel
theorem dX6_set_80 : decode cX6_set 80 = .ok (.aload_n 0, 1) := by decide +kernel
theorem dX6_set_81 : decode cX6_set 81 = .ok (.getfield 10, 3) := by decide +kernel
theorem dX6_set_84 : decode cX6_set 84 = .ok (.iload_n 2, 1) := by decide +kernel
theorem dX6_set_85 : decode cX6_set 85 = .ok (.putfield 145, 3) := by decide +kernel
theorem dX6_set_88 : decode cX6_set 88 = .ok (.iload 4, 2) := by decide +kernel
theorem dX6_set_90 : decode cX6_set 90 = .ok (.ireturn, 1) := by decide +kernel
theorem dX6_pull_0 : decode cX6_pull 0 = .ok (.iload_n 1, 1) := by decide +kernel
theorem dX6_pull_1 : decode cX6_pull 1 = .ok (.invokestatic 119, 3) := by decide +kernel
theorem dX6_pull_4 : decode cX6_pull 4 = .ok (.ifCond .ne 9, 3) := by decide +kernel
theorem dX6_pull_7 : decode cX6_pull 7 = .ok (.aload_n 0, 1) := by decide +kernel
theorem dX6_pull_8 : decode cX6_pull 8 = .ok (.iconst (-1), 1) := by decide +kernel
theorem dX6_pull_9 : decode cX6_pull 9 = .ok (.invokevirtual 122, 3) := by decide +kernel
theorem dX6_pull_12 : decode cX6_pull 12 = .ok (.ireturn, 1) := by decide +kernel
theorem dX6_pull_13 : decode cX6_pull 13 = .ok (.iload_n 2, 1) := by decide +kernel
theorem dX6_pull_14 : decode cX6_pull 14 = .ok (.iconst 1, 1) := by decide +kernel
theorem dX6_pull_15 : decode cX6_pull 15 = .ok (.bipush 40, 2) := by decide +kernel
theorem dX6_pull_17 : decode cX6_pull 17 = .ok (.invokestatic 58, 3) := by decide +kernel
theorem dX6_pull_20 : decode cX6_pull 20 = .ok (.istore_n 3, 1) := by decide +kernel
theorem dX6_pull_21 : decode cX6_pull 21 = .ok (.iload_n 3, 1) := by decide +kernel
theorem dX6_pull_22 : decode cX6_pull 22 = .ok (.ifCond .eq 9, 3) := by decide +kernel
theorem dX6_pull_25 : decode cX6_pull 25 = .ok (.aload_n 0, 1) := by decide +kernel
theorem dX6_pull_26 : decode cX6_pull 26 = .ok (.iload_n 3, 1) := by decide +kernel
theorem dX6_pull_27 : decode cX6_pull 27 = .ok (.invokevirtual 122, 3) := by decide +kernel
theorem dX6_pull_30 : decode cX6_pull 30 = .ok (.ireturn, 1) := by decide +kernel
theorem dX6_pull_31 : decode cX6_pull 31 = .ok (.aload_n 0, 1) := by decide +kernel
theorem dX6_pull_32 : decode cX6_pull 32 = .ok (.getfield 10, 3) := by decide +kernel
theorem dX6_pull_35 : decode cX6_pull 35 = .ok (.iload_n 1, 1) := by decide +kernel
theorem dX6_pull_36 : decode cX6_pull 36 = .ok (.iload_n 2, 1) := by decide +kernel
theorem dX6_pull_37 : decode cX6_pull 37 = .ok (.invokevirtual 148, 3) := by decide +kernel
theorem dX6_pull_40 : decode cX6_pull 40 = .ok (.ifCond .ne 10, 3) := by decide +kernel
theorem dX6_pull_43 : decode cX6_pull 43 = .ok (.aload_n 0, 1) := by decide +kernel
theorem dX6_pull_44 : decode cX6_pull 44 = .ok (.bipush (-3), 2) := by decide +kernel
theorem dX6_pull_46 : decode cX6_pull 46 = .ok (.invokevirtual 122, 3) := by decide +kernel
theorem dX6_pull_49 : decode cX6_pull 49 = .ok (.ireturn, 1) := by decide +kernel
theorem dX6_pull_50 : decode cX6_pull 50 = .ok (.aload_n 0, 1) := by decide +kernel
theorem dX6_pull_51 : decode cX6_pull 51 = .ok (.getfield 10, 3) := by decide +kernel
theorem dX6_pull_54 : decode cX6_pull 54 = .ok (.iload_n 1, 1) := by decide +kernel
theorem dX6_pull_55 : decode cX6_pull 55 = .ok (.invokevirtual 125, 3) := by decide +kernel
theorem dX6_pull_58 : decode cX6_pull 58 = .ok (.ireturn, 1) := by decide +kernel
theorem dX6_bunch_0 : decode cX6_bunch 0 = .ok (.iload_n 1, 1) := by decide +kernel
theorem dX6_bunch_1 : decode cX6_bunch 1 = .ok (.invokestatic 119, 3) := by decide +kernel
theorem dX6_bunch_4 : decode cX6_bunch 4 = .ok (.ifCond .ne 9, 3) := by decide +kernel
theorem dX6_bunch_7 : decode cX6_bunch 7 = .ok (.aload_n 0, 1) := by decide +kernel
theorem dX6_bunch_8 : decode cX6_bunch 8 = .ok (.iconst (-1), 1) := by decide +kernel
theorem dX6_bunch_9 : decode cX6_bunch 9 = .ok (.invokevirtual 122, 3) := by decide +kernel
theorem dX6_bunch_12 : decode cX6_bunch 12 = .ok (.ireturn, 1) := by decide +kernel
theorem dX6_bunch_13 : decode cX6_bunch 13 = .ok (.aload_n 0, 1) := by decide +kernel
theorem dX6_bunch_14 : decode cX6_bunch 14 = .ok (.getfield 10, 3) := by decide +kernel
theorem dX6_bunch_17 : decode cX6_bunch 17 = .ok (.iload_n 1, 1) := by decide +kernel
theorem dX6_bunch_18 : decode cX6_bunch 18 = .ok (.invokevirtual 152, 3) := by decide +kernel
theorem dX6_bunch_21 : decode cX6_bunch 21 = .ok (.ifCond .ne 10, 3) := by decide +kernel
theorem dX6_bunch_24 : decode cX6_bunch 24 = .ok (.aload_n 0, 1) := by decide +kernel
theorem dX6_bunch_25 : decode cX6_bunch 25 = .ok (.bipush (-3), 2) := by decide +kernel
theorem dX6_bunch_27 : decode cX6_bunch 27 = .ok (.invokevirtual 122, 3) := by decide +kernel
theorem dX6_bunch_30 : decode cX6_bunch 30 = .ok (.ireturn, 1) := by decide +kernel
theorem dX6_bunch_31 : decode cX6_bunch 31 = .ok (.aload_n 0, 1) := by decide +kernel
theorem dX6_bunch_32 : decode cX6_bunch 32 = .ok (.getfield 10, 3) := by decide +kernel
theorem dX6_bunch_35 : decode cX6_bunch 35 = .ok (.iload_n 1, 1) := by decide +kernel
theorem dX6_bunch_36 : decode cX6_bunch 36 = .ok (.aload_n 0, 1) := by decide +kernel
theorem dX6_bunch_37 : decode cX6_bunch 37 = .ok (.getfield 10, 3) := by decide +kernel
theorem dX6_bunch_40 : decode cX6_bunch 40 = .ok (.iload_n 1, 1) := by decide +kernel
theorem dX6_bunch_41 : decode cX6_bunch 41 = .ok (.invokevirtual 125, 3) := by decide +kernel
theorem dX6_bunch_44 : decode cX6_bunch 44 = .ok (.invokevirtual 155, 3) := by decide +kernel
theorem dX6_bunch_47 : decode cX6_bunch 47 = .ok (.istore_n 2, 1) := by decide +kernel
theorem dX6_bunch_48 : decode cX6_bunch 48 = .ok (.aload_n 0, 1) := by decide +kernel
theorem dX6_bunch_49 : decode cX6_bunch 49 = .ok (.getfield 10, 3) := by decide +kernel
theorem dX6_bunch_52 : decode cX6_bunch 52 = .ok (.iload_n 1, 1) := by decide +kernel
theorem dX6_bunch_53 : decode cX6_bunch 53 = .ok (.iconst 0, 1) := by decide +kernel
theorem dX6_bunch_54 : decode cX6_bunch 54 = .ok (.aload_n 0, 1) := by decide +kernel
theorem dX6_bunch_55 : decode cX6_bunch 55 = .ok (.getfield 10, 3) := by decide +kernel
theorem dX6_bunch_58 : decode cX6_bunch 58 = .ok (.iload_n 1, 1) := by decide +kernel
theorem dX6_bunch_59 : decode cX6_bunch 59 = .ok (.invokevirtual 125, 3) := by decide +kernel
theorem dX6_bunch_62 : decode cX6_bunch 62 = .ok (.aload_n 0, 1) := by decide +kernel
theorem dX6_bunch_63 : decode cX6_bunch 63 = .ok (.getfield 10, 3) := by decide +kernel
theorem dX6_bunch_66 : decode cX6_bunch 66 = .ok (.iload_n 2, 1) := by decide +kernel
theorem dX6_bunch_67 : decode cX6_bunch 67 = .ok (.invokevirtual 98, 3) := by decide +kernel
theorem dX6_bunch_70 : decode cX6_bunch 70 = .ok (.isub, 1) := by decide +kernel
theorem dX6_bunch_71 : decode cX6_bunch 71 = .ok (.invokestatic 158, 3) := by decide +kernel
theorem dX6_bunch_74 : decode cX6_bunch 74 = .ok (.invokevirtual 128, 3) := by decide +kernel
theorem dX6_bunch_77 : decode cX6_bunch 77 = .ok (.aload_n 0, 1) := by decide +kernel
theorem dX6_bunch_78 : decode cX6_bunch 78 = .ok (.getfield 10, 3) := by decide +kernel
theorem dX6_bunch_81 : decode cX6_bunch 81 = .ok (.iload_n 1, 1) := by decide +kernel
theorem dX6_bunch_82 : decode cX6_bunch 82 = .ok (.invokevirtual 125, 3) := by decide +kernel
theorem dX6_bunch_85 : decode cX6_bunch 85 = .ok (.ireturn, 1) := by decide +kernel
theorem dX6_anew_0 : decode cX6_anew 0 = .ok (.aload_n 0, 1) := by decide +kernel
theorem dX6_anew_1 : decode cX6_anew 1 = .ok (.getfield 10, 3) := by decide +kernel
theorem dX6_anew_4 : decode cX6_anew 4 = .ok (.invokevirtual 163, 3) := by decide +kernel
theorem dX6_anew_7 : decode cX6_anew 7 = .ok (.aload_n 0, 1) := by decide +kernel
theorem dX6_anew_8 : decode cX6_anew 8 = .ok (.getfield 10, 3) := by decide +kernel
theorem dX6_anew_11 : decode cX6_anew 11 = .ok (.aload_n 0, 1) := by decide +kernel
theorem dX6_anew_12 : decode cX6_anew 12 = .ok (.getfield 10, 3) := by decide +kernel
theorem dX6_anew_15 : decode cX6_anew 15 = .ok (.getfield 142, 3) := by decide +kernel
theorem dX6_anew_18 : decode cX6_anew 18 = .ok (.invokevirtual 166, 3) := by decide +kernel
theorem dX6_anew_21 : decode cX6_anew 21 = .ok (.ireturn, 1) := by decide +kernel
theorem dX6_wash_0 : decode cX6_wash 0 = .ok (.iload_n 1, 1) := by decide +kernel
theorem dX6_wash_1 : decode cX6_wash 1 = .ok (.iconst 1, 1) := by decide +kernel
theorem dX6_wash_2 : decode cX6_wash 2 = .ok (.bipush 40, 2) := by decide +kernel
theorem dX6_wash_4 : decode cX6_wash 4 = .ok (.invokestatic 58, 3) := by decide +kernel
theorem dX6_wash_7 : decode cX6_wash 7 = .ok (.istore_n 2, 1) := by decide +kernel
theorem dX6_wash_8 : decode cX6_wash 8 = .ok (.iload_n 2, 1) := by decide +kernel
theorem dX6_wash_9 : decode cX6_wash 9 = .ok (.ifCond .eq 9, 3) := by decide +kernel
theorem dX6_wash_12 : decode cX6_wash 12 = .ok (.aload_n 0, 1) := by decide +kernel
theorem dX6_wash_13 : decode cX6_wash 13 = .ok (.iload_n 2, 1) := by decide +kernel
theorem dX6_wash_14 : decode cX6_wash 14 = .ok (.invokevirtual 62, 3) := by decide +kernel
theorem dX6_wash_17 : decode cX6_wash 17 = .ok (.ireturn, 1) := by decide +kernel
theorem dX6_wash_18 : decode cX6_wash 18 = .ok (.aload_n 0, 1) := by decide +kernel
theorem dX6_wash_19 : decode cX6_wash 19 = .ok (.getfield 10, 3) := by decide +kernel
theorem dX6_wash_22 : decode cX6_wash 22 = .ok (.iload_n 1, 1) := by decide +kernel
theorem dX6_wash_23 : decode cX6_wash 23 = .ok (.invokevirtual 169, 3) := by decide +kernel
theorem dX6_wash_26 : decode cX6_wash 26 = .ok (.aload_n 0, 1) := by decide +kernel
theorem dX6_wash_27 : decode cX6_wash 27 = .ok (.getfield 10, 3) := by decide +kernel
theorem dX6_wash_30 : decode cX6_wash 30 = .ok (.invokevirtual 172, 3) := by decide +kernel
theorem dX6_wash_33 : decode cX6_wash 33 = .ok (.ireturn, 1) := by decide +kernel
theorem dX6_of_0 : decode cX6_of 0 = .ok (.iload_n 1, 1) := by decide +kernel
theorem dX6_of_1 : decode cX6_of 1 = .ok (.invokestatic 119, 3) := by decide +kernel
theorem dX6_of_4 : decode cX6_of 4 = .ok (.ifCond .ne 9, 3) := by decide +kernel
theorem dX6_of_7 : decode cX6_of 7 = .ok (.aload_n 0, 1) := by decide +kernel
theorem dX6_of_8 : decode cX6_of 8 = .ok (.iconst (-1), 1) := by decide +kernel
theorem dX6_of_9 : decode cX6_of 9 = .ok (.invokevirtual 62, 3) := by decide +kernel
theorem dX6_of_12 : decode cX6_of 12 = .ok (.ireturn, 1) := by decide +kernel
theorem dX6_of_13 : decode cX6_of 13 = .ok (.aload_n 0, 1) := by decide +kernel
theorem dX6_of_14 : decode cX6_of 14 = .ok (.getfield 10, 3) := by decide +kernel
theorem dX6_of_17 : decode cX6_of 17 = .ok (.iload_n 1, 1) := by decide +kernel
theorem dX6_of_18 : decode cX6_of 18 = .ok (.aload_n 0, 1) := by decide +kernel
theorem dX6_of_19 : decode cX6_of 19 = .ok (.getfield 10, 3) := by decide +kernel
theorem dX6_of_22 : decode cX6_of 22 = .ok (.iload_n 1, 1) := by decide +kernel
theorem dX6_of_23 : decode cX6_of 23 = .ok (.invokevirtual 125, 3) := by decide +kernel
theorem dX6_of_26 : decode cX6_of 26 = .ok (.invokevirtual 155, 3) := by decide +kernel
theorem dX6_of_29 : decode cX6_of 29 = .ok (.istore_n 3, 1) := by decide +kernel
theorem dX6_of_30 : decode cX6_of 30 = .ok (.iload_n 2, 1) := by decide +kernel
theorem dX6_of_31 : decode cX6_of 31 = .ok (.tableswitch 66 0 3 #[29, 31, 48, 57], 29) := by decide +kernel
theorem dX6_of_60 : decode cX6_of 60 = .ok (.iload_n 3, 1) := by decide +kernel
theorem dX6_of_61 : decode cX6_of 61 = .ok (.ireturn, 1) := by decide +kernel
theorem dX6_of_62 : decode cX6_of 62 = .ok (.aload_n 0, 1) := by decide +kernel
theorem dX6_of_63 : decode cX6_of 63 = .ok (.getfield 10, 3) := by decide +kernel
theorem dX6_of_66 : decode cX6_of 66 = .ok (.iload_n 1, 1) := by decide +kernel
theorem dX6_of_67 : decode cX6_of 67 = .ok (.invokevirtual 152, 3) := by decide +kernel
theorem dX6_of_70 : decode cX6_of 70 = .ok (.ifCond .eq 7, 3) := by decide +kernel
theorem dX6_of_73 : decode cX6_of 73 = .ok (.iconst 1, 1) := by decide +kernel
theorem dX6_of_74 : decode cX6_of 74 = .ok (.goto 4, 3) := by decide +kernel
theorem dX6_of_77 : decode cX6_of 77 = .ok (.iconst 0, 1) := by decide +kernel
theorem dX6_of_78 : decode cX6_of 78 = .ok (.ireturn, 1) := by decide +kernel
theorem dX6_of_79 : decode cX6_of 79 = .ok (.aload_n 0, 1) := by decide +kernel
theorem dX6_of_80 : decode cX6_of 80 = .ok (.getfield 10, 3) := by decide +kernel
theorem dX6_of_83 : decode cX6_of 83 = .ok (.iload_n 3, 1) := by decide +kernel
theorem dX6_of_84 : decode cX6_of 84 = .ok (.invokevirtual 98, 3) := by decide +kernel
theorem dX6_of_87 : decode cX6_of 87 = .ok (.ireturn, 1) := by decide +kernel
theorem dX6_of_88 : decode cX6_of 88 = .ok (.aload_n 0, 1) := by decide +kernel
theorem dX6_of_89 : decode cX6_of 89 = .ok (.getfield 10, 3) := by decide +kernel
theorem dX6_of_92 : decode cX6_of 92 = .ok (.iload_n 3, 1) := by decide +kernel
theorem dX6_of_93 : decode cX6_of 93 = .ok (.invokevirtual 107, 3) := by decide +kernel
theorem dX6_of_96 : decode cX6_of 96 = .ok (.ireturn, 1) := by decide +kernel
theorem dX6_of_97 : decode cX6_of 97 = .ok (.aload_n 0, 1) := by decide +kernel
theorem dX6_of_98 : decode cX6_of 98 = .ok (.bipush (-2), 2) := by decide +kernel
theorem dX6_of_100 : decode cX6_of 100 = .ok (.invokevirtual 62, 3) := by decide +kernel
theorem dX6_of_103 : decode cX6_of 103 = .ok (.ireturn, 1) := by decide +kernel
theorem dX6_out_0 : decode cX6_out 0 = .ok (.iload_n 1, 1) := by decide +kernel
theorem dX6_out_1 : decode cX6_out 1 = .ok (.invokestatic 119, 3) := by decide +kernel
theorem dX6_out_4 : decode cX6_out 4 = .ok (.ifCond .ne 9, 3) := by decide +kernel
theorem dX6_out_7 : decode cX6_out 7 = .ok (.aload_n 0, 1) := by decide +kernel
theorem dX6_out_8 : decode cX6_out 8 = .ok (.iconst (-1), 1) := by decide +kernel
theorem dX6_out_9 : decode cX6_out 9 = .ok (.invokevirtual 62, 3) := by decide +kernel
theorem dX6_out_12 : decode cX6_out 12 = .ok (.ireturn, 1) := by decide +kernel
theorem dX6_out_13 : decode cX6_out 13 = .ok (.aload_n 0, 1) := by decide +kernel
theorem dX6_out_14 : decode cX6_out 14 = .ok (.getfield 29, 3) := by decide +kernel
theorem dX6_out_17 : decode cX6_out 17 = .ok (.aload_n 0, 1) := by decide +kernel
theorem dX6_out_18 : decode cX6_out 18 = .ok (.getfield 10, 3) := by decide +kernel
theorem dX6_out_21 : decode cX6_out 21 = .ok (.iload_n 1, 1) := by decide +kernel
theorem dX6_out_22 : decode cX6_out 22 = .ok (.aload_n 0, 1) := by decide +kernel
theorem dX6_out_23 : decode cX6_out 23 = .ok (.getfield 10, 3) := by decide +kernel
theorem dX6_out_26 : decode cX6_out 26 = .ok (.iload_n 1, 1) := by decide +kernel
theorem dX6_out_27 : decode cX6_out 27 = .ok (.invokevirtual 125, 3) := by decide +kernel
theorem dX6_out_30 : decode cX6_out 30 = .ok (.invokevirtual 175, 3) := by decide +kernel
theorem dX6_out_33 : decode cX6_out 33 = .ok (.iload_n 2, 1) := by decide +kernel
theorem dX6_out_34 : decode cX6_out 34 = .ok (.tableswitch 50 0 2 #[26, 34, 42], 26) := by decide +kernel
theorem dX6_out_60 : decode cX6_out 60 = .ok (.aload_n 0, 1) := by decide +kernel
theorem dX6_out_61 : decode cX6_out 61 = .ok (.getfield 29, 3) := by decide +kernel
theorem dX6_out_64 : decode cX6_out 64 = .ok (.getfield 179, 3) := by decide +kernel
theorem dX6_out_67 : decode cX6_out 67 = .ok (.ireturn, 1) := by decide +kernel
theorem dX6_out_68 : decode cX6_out 68 = .ok (.aload_n 0, 1) := by decide +kernel
theorem dX6_out_69 : decode cX6_out 69 = .ok (.getfield 29, 3) := by decide +kernel
theorem dX6_out_72 : decode cX6_out 72 = .ok (.getfield 182, 3) := by decide +kernel
theorem dX6_out_75 : decode cX6_out 75 = .ok (.ireturn, 1) := by decide +kernel
theorem dX6_out_76 : decode cX6_out 76 = .ok (.aload_n 0, 1) := by decide +kernel
theorem dX6_out_77 : decode cX6_out 77 = .ok (.getfield 29, 3) := by decide +kernel
theorem dX6_out_80 : decode cX6_out 80 = .ok (.getfield 185, 3) := by decide +kernel
theorem dX6_out_83 : decode cX6_out 83 = .ok (.ireturn, 1) := by decide +kernel
theorem dX6_out_84 : decode cX6_out 84 = .ok (.aload_n 0, 1) := by decide +kernel
theorem dX6_out_85 : decode cX6_out 85 = .ok (.bipush (-2), 2) := by decide +kernel
theorem dX6_out_87 : decode cX6_out 87 = .ok (.invokevirtual 62, 3) := by decide +kernel
theorem dX6_out_90 : decode cX6_out 90 = .ok (.ireturn, 1) := by decide +kernel
theorem dX6_soonest_0 : decode cX6_soonest 0 = .ok (.aload_n 0, 1) := by decide +kernel
theorem dX6_soonest_1 : decode cX6_soonest 1 = .ok (.getfield 10, 3) := by decide +kernel
theorem dX6_soonest_4 : decode cX6_soonest 4 = .ok (.invokevirtual 172, 3) := by decide +kernel
theorem dX6_soonest_7 : decode cX6_soonest 7 = .ok (.ifCond .ne 6, 3) := by decide +kernel
theorem dX6_soonest_10 : decode cX6_soonest 10 = .ok (.bipush (-9), 2) := by decide +kernel
theorem dX6_soonest_12 : decode cX6_soonest 12 = .ok (.ireturn, 1) := by decide +kernel
theorem dX6_soonest_13 : decode cX6_soonest 13 = .ok (.aload_n 0, 1) := by decide +kernel
theorem dX6_soonest_14 : decode cX6_soonest 14 = .ok (.iconst 0, 1) := by decide +kernel
theorem dX6_soonest_15 : decode cX6_soonest 15 = .ok (.invokevirtual 188, 3) := by decide +kernel
theorem dX6_soonest_18 : decode cX6_soonest 18 = .ok (.istore_n 1, 1) := by decide +kernel
theorem dX6_soonest_19 : decode cX6_soonest 19 = .ok (.aload_n 0, 1) := by decide +kernel
theorem dX6_soonest_20 : decode cX6_soonest 20 = .ok (.iconst 1, 1) := by decide +kernel
theorem dX6_soonest_21 : decode cX6_soonest 21 = .ok (.invokevirtual 188, 3) := by decide +kernel
theorem dX6_soonest_24 : decode cX6_soonest 24 = .ok (.istore_n 2, 1) := by decide +kernel
theorem dX6_soonest_25 : decode cX6_soonest 25 = .ok (.iload_n 1, 1) := by decide +kernel
theorem dX6_soonest_26 : decode cX6_soonest 26 = .ok (.bipush (-9), 2) := by decide +kernel
theorem dX6_soonest_28 : decode cX6_soonest 28 = .ok (.if_icmp .ne 12, 3) := by decide +kernel
theorem dX6_soonest_31 : decode cX6_soonest 31 = .ok (.iload_n 2, 1) := by decide +kernel
theorem dX6_soonest_32 : decode cX6_soonest 32 = .ok (.bipush (-9), 2) := by decide +kernel
theorem dX6_soonest_34 : decode cX6_soonest 34 = .ok (.if_icmp .ne 6, 3) := by decide +kernel
theorem dX6_soonest_37 : decode cX6_soonest 37 = .ok (.bipush 9, 2) := by decide +kernel
theorem dX6_soonest_39 : decode cX6_soonest 39 = .ok (.ireturn, 1) := by decide +kernel
theorem dX6_soonest_40 : decode cX6_soonest 40 = .ok (.iload_n 1, 1) := by decide +kernel
theorem dX6_soonest_41 : decode cX6_soonest 41 = .ok (.bipush (-9), 2) := by decide +kernel
theorem dX6_soonest_43 : decode cX6_soonest 43 = .ok (.if_icmp .ne 5, 3) := by decide +kernel
theorem dX6_soonest_46 : decode cX6_soonest 46 = .ok (.iconst 1, 1) := by decide +kernel
theorem dX6_soonest_47 : decode cX6_soonest 47 = .ok (.ireturn, 1) := by decide +kernel
theorem dX6_soonest_48 : decode cX6_soonest 48 = .ok (.iload_n 2, 1) := by decide +kernel
theorem dX6_soonest_49 : decode cX6_soonest 49 = .ok (.bipush (-9), 2) := by decide +kernel
theorem dX6_soonest_51 : decode cX6_soonest 51 = .ok (.if_icmp .eq 12, 3) := by decide +kernel
theorem dX6_soonest_54 : decode cX6_soonest 54 = .ok (.iload_n 2, 1) := by decide +kernel
theorem dX6_soonest_55 : decode cX6_soonest 55 = .ok (.iload_n 1, 1) := by decide +kernel
theorem dX6_soonest_56 : decode cX6_soonest 56 = .ok (.if_icmp .ge 7, 3) := by decide +kernel
theorem dX6_soonest_59 : decode cX6_soonest 59 = .ok (.iconst 1, 1) := by decide +kernel
theorem dX6_soonest_60 : decode cX6_soonest 60 = .ok (.goto 4, 3) := by decide +kernel
theorem dX6_soonest_63 : decode cX6_soonest 63 = .ok (.iconst 0, 1) := by decide +kernel
theorem dX6_soonest_64 : decode cX6_soonest 64 = .ok (.ireturn, 1) := by decide +kernel
theorem dX6_better_0 : decode cX6_better 0 = .ok (.iload_n 1, 1) := by decide +kernel
theorem dX6_better_1 : decode cX6_better 1 = .ok (.ifCond .eq 15, 3) := by decide +kernel
theorem dX6_better_4 : decode cX6_better 4 = .ok (.iload_n 1, 1) := by decide +kernel
theorem dX6_better_5 : decode cX6_better 5 = .ok (.iconst 1, 1) := by decide +kernel
theorem dX6_better_6 : decode cX6_better 6 = .ok (.if_icmp .eq 10, 3) := by decide +kernel
theorem dX6_better_9 : decode cX6_better 9 = .ok (.aload_n 0, 1) := by decide +kernel
theorem dX6_better_10 : decode cX6_better 10 = .ok (.bipush (-2), 2) := by decide +kernel
theorem dX6_better_12 : decode cX6_better 12 = .ok (.invokevirtual 62, 3) := by decide +kernel
theorem dX6_better_15 : decode cX6_better 15 = .ok (.ireturn, 1) := by decide +kernel
theorem dX6_better_16 : decode cX6_better 16 = .ok (.aload_n 0, 1) := by decide +kernel
theorem dX6_better_17 : decode cX6_better 17 = .ok (.getfield 10, 3) := by decide +kernel
theorem dX6_better_20 : decode cX6_better 20 = .ok (.aload_n 0, 1) := by decide +kernel
theorem dX6_better_21 : decode cX6_better 21 = .ok (.getfield 10, 3) := by decide +kernel
theorem dX6_better_24 : decode cX6_better 24 = .ok (.getfield 142, 3) := by decide +kernel
theorem dX6_better_27 : decode cX6_better 27 = .ok (.invokevirtual 166, 3) := by decide +kernel
theorem dX6_better_30 : decode cX6_better 30 = .ok (.istore_n 2, 1) := by decide +kernel
theorem dX6_better_31 : decode cX6_better 31 = .ok (.iload_n 1, 1) := by decide +kernel
theorem dX6_better_32 : decode cX6_better 32 = .ok (.ifCond .ne 5, 3) := by decide +kernel
theorem dX6_better_35 : decode cX6_better 35 = .ok (.iload_n 2, 1) := by decide +kernel
theorem dX6_better_36 : decode cX6_better 36 = .ok (.ireturn, 1) := by decide +kernel
theorem dX6_better_37 : decode cX6_better 37 = .ok (.aload_n 0, 1) := by decide +kernel
theorem dX6_better_38 : decode cX6_better 38 = .ok (.getfield 29, 3) := by decide +kernel
theorem dX6_better_41 : decode cX6_better 41 = .ok (.aload_n 0, 1) := by decide +kernel
theorem dX6_better_42 : decode cX6_better 42 = .ok (.getfield 10, 3) := by decide +kernel
theorem dX6_better_45 : decode cX6_better 45 = .ok (.invokevirtual 191, 3) := by decide +kernel
theorem dX6_better_48 : decode cX6_better 48 = .ok (.istore_n 3, 1) := by decide +kernel
theorem dX6_better_49 : decode cX6_better 49 = .ok (.iload_n 3, 1) := by decide +kernel
theorem dX6_better_50 : decode cX6_better 50 = .ok (.bipush (-9), 2) := by decide +kernel
theorem dX6_better_52 : decode cX6_better 52 = .ok (.if_icmp .eq 8, 3) := by decide +kernel
theorem dX6_better_55 : decode cX6_better 55 = .ok (.iload_n 2, 1) := by decide +kernel
theorem dX6_better_56 : decode cX6_better 56 = .ok (.iload_n 3, 1) := by decide +kernel
theorem dX6_better_57 : decode cX6_better 57 = .ok (.if_icmp .ge 7, 3) := by decide +kernel
theorem dX6_better_60 : decode cX6_better 60 = .ok (.iconst 1, 1) := by decide +kernel
theorem dX6_better_61 : decode cX6_better 61 = .ok (.goto 4, 3) := by decide +kernel
theorem dX6_better_64 : decode cX6_better 64 = .ok (.iconst 0, 1) := by decide +kernel
theorem dX6_better_65 : decode cX6_better 65 = .ok (.ireturn, 1) := by decide +kernel
theorem dX6_inIn_0 : decode cX6_inIn 0 = .ok (.iload_n 1, 1) := by decide +kernel
theorem dX6_inIn_1 : decode cX6_inIn 1 = .ok (.invokestatic 119, 3) := by decide +kernel
theorem dX6_inIn_4 : decode cX6_inIn 4 = .ok (.ifCond .ne 9, 3) := by decide +kernel
theorem dX6_inIn_7 : decode cX6_inIn 7 = .ok (.aload_n 0, 1) := by decide +kernel
theorem dX6_inIn_8 : decode cX6_inIn 8 = .ok (.iconst (-1), 1) := by decide +kernel
theorem dX6_inIn_9 : decode cX6_inIn 9 = .ok (.invokevirtual 122, 3) := by decide +kernel
theorem dX6_inIn_12 : decode cX6_inIn 12 = .ok (.ireturn, 1) := by decide +kernel
theorem dX6_inIn_13 : decode cX6_inIn 13 = .ok (.iload_n 2, 1) := by decide +kernel
theorem dX6_inIn_14 : decode cX6_inIn 14 = .ok (.iconst 0, 1) := by decide +kernel
theorem dX6_inIn_15 : decode cX6_inIn 15 = .ok (.sipush 200, 3) := by decide +kernel
theorem dX6_inIn_18 : decode cX6_inIn 18 = .ok (.invokestatic 58, 3) := by decide +kernel
theorem dX6_inIn_21 : decode cX6_inIn 21 = .ok (.istore_n 3, 1) := by decide +kernel
theorem dX6_inIn_22 : decode cX6_inIn 22 = .ok (.iload_n 3, 1) := by decide +kernel
theorem dX6_inIn_23 : decode cX6_inIn 23 = .ok (.ifCond .eq 9, 3) := by decide +kernel
theorem dX6_inIn_26 : decode cX6_inIn 26 = .ok (.aload_n 0, 1) := by decide +kernel
theorem dX6_inIn_27 : decode cX6_inIn 27 = .ok (.iload_n 3, 1) := by decide +kernel
theorem dX6_inIn_28 : decode cX6_inIn 28 = .ok (.invokevirtual 122, 3) := by decide +kernel
theorem dX6_inIn_31 : decode cX6_inIn 31 = .ok (.ireturn, 1) := by decide +kernel
theorem dX6_inIn_32 : decode cX6_inIn 32 = .ok (.aload_n 0, 1) := by decide +kernel
theorem dX6_inIn_33 : decode cX6_inIn 33 = .ok (.getfield 16, 3) := by decide +kernel
theorem dX6_inIn_36 : decode cX6_inIn 36 = .ok (.aload_n 0, 1) := by decide +kernel
theorem dX6_inIn_37 : decode cX6_inIn 37 = .ok (.getfield 10, 3) := by decide +kernel
theorem dX6_inIn_40 : decode cX6_inIn 40 = .ok (.invokevirtual 195, 3) := by decide +kernel
theorem dX6_inIn_43 : decode cX6_inIn 43 = .ok (.aload_n 0, 1) := by decide +kernel
theorem dX6_inIn_44 : decode cX6_inIn 44 = .ok (.getfield 16, 3) := by decide +kernel
theorem dX6_inIn_47 : decode cX6_inIn 47 = .ok (.iload_n 2, 1) := by decide +kernel
theorem dX6_inIn_48 : decode cX6_inIn 48 = .ok (.invokevirtual 169, 3) := by decide +kernel
theorem dX6_inIn_51 : decode cX6_inIn 51 = .ok (.aload_n 0, 1) := by decide +kernel
theorem dX6_inIn_52 : decode cX6_inIn 52 = .ok (.getfield 16, 3) := by decide +kernel
theorem dX6_inIn_55 : decode cX6_inIn 55 = .ok (.iload_n 1, 1) := by decide +kernel
theorem dX6_inIn_56 : decode cX6_inIn 56 = .ok (.invokevirtual 125, 3) := by decide +kernel
theorem dX6_inIn_59 : decode cX6_inIn 59 = .ok (.ireturn, 1) := by decide +kernel
theorem dX6_lost_0 : decode cX6_lost 0 = .ok (.iload_n 1, 1) := by decide +kernel
theorem dX6_lost_1 : decode cX6_lost 1 = .ok (.ifCond .eq 15, 3) := by decide +kernel
theorem dX6_lost_4 : decode cX6_lost 4 = .ok (.iload_n 1, 1) := by decide +kernel
theorem dX6_lost_5 : decode cX6_lost 5 = .ok (.iconst 1, 1) := by decide +kernel
theorem dX6_lost_6 : decode cX6_lost 6 = .ok (.if_icmp .eq 10, 3) := by decide +kernel
theorem dX6_lost_9 : decode cX6_lost 9 = .ok (.aload_n 0, 1) := by decide +kernel
theorem dX6_lost_10 : decode cX6_lost 10 = .ok (.bipush (-2), 2) := by decide +kernel
theorem dX6_lost_12 : decode cX6_lost 12 = .ok (.invokevirtual 62, 3) := by decide +kernel
theorem dX6_lost_15 : decode cX6_lost 15 = .ok (.ireturn, 1) := by decide +kernel
theorem dX6_lost_16 : decode cX6_lost 16 = .ok (.aload_n 0, 1) := by decide +kernel
theorem dX6_lost_17 : decode cX6_lost 17 = .ok (.invokevirtual 199, 3) := by decide +kernel
theorem dX6_lost_20 : decode cX6_lost 20 = .ok (.istore_n 2, 1) := by decide +kernel
theorem dX6_lost_21 : decode cX6_lost 21 = .ok (.iload_n 1, 1) := by decide +kernel
theorem dX6_lost_22 : decode cX6_lost 22 = .ok (.ifCond .eq 9, 3) := by decide +kernel
theorem dX6_lost_25 : decode cX6_lost 25 = .ok (.iload_n 2, 1) := by decide +kernel
theorem dX6_lost_26 : decode cX6_lost 26 = .ok (.bipush (-9), 2) := by decide +kernel
theorem dX6_lost_28 : decode cX6_lost 28 = .ok (.if_icmp .ne 5, 3) := by decide +kernel
theorem dX6_lost_31 : decode cX6_lost 31 = .ok (.iload_n 2, 1) := by decide +kernel
theorem dX6_lost_32 : decode cX6_lost 32 = .ok (.ireturn, 1) := by decide +kernel
theorem dX6_lost_33 : decode cX6_lost 33 = .ok (.aload_n 0, 1) := by decide +kernel
theorem dX6_lost_34 : decode cX6_lost 34 = .ok (.getfield 16, 3) := by decide +kernel
theorem dX6_lost_37 : decode cX6_lost 37 = .ok (.invokevirtual 172, 3) := by decide +kernel
theorem dX6_lost_40 : decode cX6_lost 40 = .ok (.iconst 2, 1) := by decide +kernel
theorem dX6_lost_41 : decode cX6_lost 41 = .ok (.if_icmp .ne 5, 3) := by decide +kernel
theorem dX6_lost_44 : decode cX6_lost 44 = .ok (.iconst 2, 1) := by decide +kernel
theorem dX6_lost_45 : decode cX6_lost 45 = .ok (.ireturn, 1) := by decide +kernel
theorem dX6_lost_46 : decode cX6_lost 46 = .ok (.aload_n 0, 1) := by decide +kernel
theorem dX6_lost_47 : decode cX6_lost 47 = .ok (.getfield 16, 3) := by decide +kernel
theorem dX6_lost_50 : decode cX6_lost 50 = .ok (.iconst 0, 1) := by decide +kernel
theorem dX6_lost_51 : decode cX6_lost 51 = .ok (.invokevirtual 152, 3) := by decide +kernel
theorem dX6_lost_54 : decode cX6_lost 54 = .ok (.ifCond .eq 7, 3) := by decide +kernel
theorem dX6_lost_57 : decode cX6_lost 57 = .ok (.iconst 0, 1) := by decide +kernel
theorem dX6_lost_58 : decode cX6_lost 58 = .ok (.goto 4, 3) := by decide +kernel
theorem dX6_lost_61 : decode cX6_lost 61 = .ok (.iconst 1, 1) := by decide +kernel
theorem dX6_lost_62 : decode cX6_lost 62 = .ok (.ireturn, 1) := by decide +kernel
theorem dX6_still_0 : decode cX6_still 0 = .ok (.aload_n 0, 1) := by decide +kernel
theorem dX6_still_1 : decode cX6_still 1 = .ok (.getfield 16, 3) := by decide +kernel
theorem dX6_still_4 : decode cX6_still 4 = .ok (.aload_n 0, 1) := by decide +kernel
theorem dX6_still_5 : decode cX6_still 5 = .ok (.getfield 10, 3) := by decide +kernel
theorem dX6_still_8 : decode cX6_still 8 = .ok (.invokevirtual 195, 3) := by decide +kernel
theorem dX6_still_11 : decode cX6_still 11 = .ok (.iconst 0, 1) := by decide +kernel
theorem dX6_still_12 : decode cX6_still 12 = .ok (.istore_n 1, 1) := by decide +kernel
theorem dX6_still_13 : decode cX6_still 13 = .ok (.iload_n 1, 1) := by decide +kernel
theorem dX6_still_14 : decode cX6_still 14 = .ok (.sipush 200, 3) := by decide +kernel
theorem dX6_still_17 : decode cX6_still 17 = .ok (.if_icmp .gt 21, 3) := by decide +kernel
theorem dX6_still_20 : decode cX6_still 20 = .ok (.aload_n 0, 1) := by decide +kernel
theorem dX6_still_21 : decode cX6_still 21 = .ok (.getfield 16, 3) := by decide +kernel
theorem dX6_still_24 : decode cX6_still 24 = .ok (.invokevirtual 202, 3) := by decide +kernel
theorem dX6_still_27 : decode cX6_still 27 = .ok (.ifCond .ne 5, 3) := by decide +kernel
theorem dX6_still_30 : decode cX6_still 30 = .ok (.iload_n 1, 1) := by decide +kernel
theorem dX6_still_31 : decode cX6_still 31 = .ok (.ireturn, 1) := by decide +kernel
theorem dX6_still_32 : decode cX6_still 32 = .ok (.iinc 1 1, 3) := by decide +kernel
theorem dX6_still_35 : decode cX6_still 35 = .ok (.goto (-22), 3) := by decide +kernel
theorem dX6_still_38 : decode cX6_still 38 = .ok (.bipush (-9), 2) := by decide +kernel
theorem dX6_still_40 : decode cX6_still 40 = .ok (.ireturn, 1) := by decide +kernel
theorem dX6_keep_0 : decode cX6_keep 0 = .ok (.iload_n 1, 1) := by decide +kernel
theorem dX6_keep_1 : decode cX6_keep 1 = .ok (.iconst 0, 1) := by decide +kernel
theorem dX6_keep_2 : decode cX6_keep 2 = .ok (.sipush 999, 3) := by decide +kernel
theorem dX6_keep_5 : decode cX6_keep 5 = .ok (.invokestatic 58, 3) := by decide +kernel
theorem dX6_keep_8 : decode cX6_keep 8 = .ok (.istore_n 2, 1) := by decide +kernel
theorem dX6_keep_9 : decode cX6_keep 9 = .ok (.iload_n 2, 1) := by decide +kernel
theorem dX6_keep_10 : decode cX6_keep 10 = .ok (.ifCond .eq 9, 3) := by decide +kernel
theorem dX6_keep_13 : decode cX6_keep 13 = .ok (.aload_n 0, 1) := by decide +kernel
theorem dX6_keep_14 : decode cX6_keep 14 = .ok (.iload_n 2, 1) := by decide +kernel
theorem dX6_keep_15 : decode cX6_keep 15 = .ok (.invokevirtual 62, 3) := by decide +kernel
theorem dX6_keep_18 : decode cX6_keep 18 = .ok (.ireturn, 1) := by decide +kernel
theorem dX6_keep_19 : decode cX6_keep 19 = .ok (.aload_n 0, 1) := by decide +kernel
theorem dX6_keep_20 : decode cX6_keep 20 = .ok (.getfield 16, 3) := by decide +kernel
theorem dX6_keep_23 : decode cX6_keep 23 = .ok (.aload_n 0, 1) := by decide +kernel
theorem dX6_keep_24 : decode cX6_keep 24 = .ok (.getfield 10, 3) := by decide +kernel
theorem dX6_keep_27 : decode cX6_keep 27 = .ok (.invokevirtual 195, 3) := by decide +kernel
theorem dX6_keep_30 : decode cX6_keep 30 = .ok (.iconst 0, 1) := by decide +kernel
theorem dX6_keep_31 : decode cX6_keep 31 = .ok (.istore_n 3, 1) := by decide +kernel
theorem dX6_keep_32 : decode cX6_keep 32 = .ok (.iload_n 3, 1) := by decide +kernel
theorem dX6_keep_33 : decode cX6_keep 33 = .ok (.sipush 200, 3) := by decide +kernel
theorem dX6_keep_36 : decode cX6_keep 36 = .ok (.if_icmp .gt 45, 3) := by decide +kernel
theorem dX6_keep_39 : decode cX6_keep 39 = .ok (.aload_n 0, 1) := by decide +kernel
theorem dX6_keep_40 : decode cX6_keep 40 = .ok (.getfield 29, 3) := by decide +kernel
theorem dX6_keep_43 : decode cX6_keep 43 = .ok (.aload_n 0, 1) := by decide +kernel
theorem dX6_keep_44 : decode cX6_keep 44 = .ok (.getfield 16, 3) := by decide +kernel
theorem dX6_keep_47 : decode cX6_keep 47 = .ok (.invokevirtual 191, 3) := by decide +kernel
theorem dX6_keep_50 : decode cX6_keep 50 = .ok (.istore 4, 2) := by decide +kernel
theorem dX6_keep_52 : decode cX6_keep 52 = .ok (.iload 4, 2) := by decide +kernel
theorem dX6_keep_54 : decode cX6_keep 54 = .ok (.bipush (-9), 2) := by decide +kernel
theorem dX6_keep_56 : decode cX6_keep 56 = .ok (.if_icmp .eq 9, 3) := by decide +kernel
theorem dX6_keep_59 : decode cX6_keep 59 = .ok (.iload 4, 2) := by decide +kernel
theorem dX6_keep_61 : decode cX6_keep 61 = .ok (.iload_n 1, 1) := by decide +kernel
theorem dX6_keep_62 : decode cX6_keep 62 = .ok (.if_icmp .le 5, 3) := by decide +kernel
theorem dX6_keep_65 : decode cX6_keep 65 = .ok (.iload_n 3, 1) := by decide +kernel
theorem dX6_keep_66 : decode cX6_keep 66 = .ok (.ireturn, 1) := by decide +kernel
theorem dX6_keep_67 : decode cX6_keep 67 = .ok (.aload_n 0, 1) := by decide +kernel
theorem dX6_keep_68 : decode cX6_keep 68 = .ok (.getfield 16, 3) := by decide +kernel
theorem dX6_keep_71 : decode cX6_keep 71 = .ok (.invokevirtual 202, 3) := by decide +kernel
theorem dX6_keep_74 : decode cX6_keep 74 = .ok (.pop, 1) := by decide +kernel
theorem dX6_keep_75 : decode cX6_keep 75 = .ok (.iinc 3 1, 3) := by decide +kernel
theorem dX6_keep_78 : decode cX6_keep 78 = .ok (.goto (-46), 3) := by decide +kernel
theorem dX6_keep_81 : decode cX6_keep 81 = .ok (.bipush (-9), 2) := by decide +kernel
theorem dX6_keep_83 : decode cX6_keep 83 = .ok (.ireturn, 1) := by decide +kernel
theorem dX6_deep_0 : decode cX6_deep 0 = .ok (.iload_n 1, 1) := by decide +kernel
theorem dX6_deep_1 : decode cX6_deep 1 = .ok (.invokestatic 119, 3) := by decide +kernel
theorem dX6_deep_4 : decode cX6_deep 4 = .ok (.ifCond .ne 9, 3) := by decide +kernel
theorem dX6_deep_7 : decode cX6_deep 7 = .ok (.aload_n 0, 1) := by decide +kernel
theorem dX6_deep_8 : decode cX6_deep 8 = .ok (.iconst (-1), 1) := by decide +kernel
theorem dX6_deep_9 : decode cX6_deep 9 = .ok (.invokevirtual 62, 3) := by decide +kernel
theorem dX6_deep_12 : decode cX6_deep 12 = .ok (.ireturn, 1) := by decide +kernel
theorem dX6_deep_13 : decode cX6_deep 13 = .ok (.iload_n 2, 1) := by decide +kernel
theorem dX6_deep_14 : decode cX6_deep 14 = .ok (.iconst 0, 1) := by decide +kernel
theorem dX6_deep_15 : decode cX6_deep 15 = .ok (.sipush 999, 3) := by decide +kernel
theorem dX6_deep_18 : decode cX6_deep 18 = .ok (.invokestatic 58, 3) := by decide +kernel
theorem dX6_deep_21 : decode cX6_deep 21 = .ok (.istore_n 3, 1) := by decide +kernel
theorem dX6_deep_22 : decode cX6_deep 22 = .ok (.iload_n 3, 1) := by decide +kernel
theorem dX6_deep_23 : decode cX6_deep 23 = .ok (.ifCond .eq 9, 3) := by decide +kernel
theorem dX6_deep_26 : decode cX6_deep 26 = .ok (.aload_n 0, 1) := by decide +kernel
theorem dX6_deep_27 : decode cX6_deep 27 = .ok (.iload_n 3, 1) := by decide +kernel
theorem dX6_deep_28 : decode cX6_deep 28 = .ok (.invokevirtual 62, 3) := by decide +kernel
theorem dX6_deep_31 : decode cX6_deep 31 = .ok (.ireturn, 1) := by decide +kernel
theorem dX6_deep_32 : decode cX6_deep 32 = .ok (.bipush 24, 2) := by decide +kernel
theorem dX6_deep_34 : decode cX6_deep 34 = .ok (.istore 4, 2) := by decide +kernel
theorem dX6_deep_36 : decode cX6_deep 36 = .ok (.iload 4, 2) := by decide +kernel
theorem dX6_deep_38 : decode cX6_deep 38 = .ok (.iconst 1, 1) := by decide +kernel
theorem dX6_deep_39 : decode cX6_deep 39 = .ok (.if_icmp .lt 47, 3) := by decide +kernel
theorem dX6_deep_42 : decode cX6_deep 42 = .ok (.aload_n 0, 1) := by decide +kernel
theorem dX6_deep_43 : decode cX6_deep 43 = .ok (.getfield 29, 3) := by decide +kernel
theorem dX6_deep_46 : decode cX6_deep 46 = .ok (.aload_n 0, 1) := by decide +kernel
theorem dX6_deep_47 : decode cX6_deep 47 = .ok (.getfield 10, 3) := by decide +kernel
theorem dX6_deep_50 : decode cX6_deep 50 = .ok (.iload_n 1, 1) := by decide +kernel
theorem dX6_deep_51 : decode cX6_deep 51 = .ok (.iload 4, 2) := by decide +kernel
theorem dX6_deep_53 : decode cX6_deep 53 = .ok (.invokevirtual 175, 3) := by decide +kernel
theorem dX6_deep_56 : decode cX6_deep 56 = .ok (.aload_n 0, 1) := by decide +kernel
theorem dX6_deep_57 : decode cX6_deep 57 = .ok (.getfield 29, 3) := by decide +kernel
theorem dX6_deep_60 : decode cX6_deep 60 = .ok (.invokevirtual 205, 3) := by decide +kernel
theorem dX6_deep_63 : decode cX6_deep 63 = .ok (.ifCond .eq 17, 3) := by decide +kernel
theorem dX6_deep_66 : decode cX6_deep 66 = .ok (.aload_n 0, 1) := by decide +kernel
theorem dX6_deep_67 : decode cX6_deep 67 = .ok (.getfield 29, 3) := by decide +kernel
theorem dX6_deep_70 : decode cX6_deep 70 = .ok (.getfield 182, 3) := by decide +kernel
theorem dX6_deep_73 : decode cX6_deep 73 = .ok (.iload_n 2, 1) := by decide +kernel
theorem dX6_deep_74 : decode cX6_deep 74 = .ok (.if_icmp .gt 6, 3) := by decide +kernel
theorem dX6_deep_77 : decode cX6_deep 77 = .ok (.iload 4, 2) := by decide +kernel
theorem dX6_deep_79 : decode cX6_deep 79 = .ok (.ireturn, 1) := by decide +kernel
theorem dX6_deep_80 : decode cX6_deep 80 = .ok (.iinc 4 (-1), 3) := by decide +kernel
theorem dX6_deep_83 : decode cX6_deep 83 = .ok (.goto (-47), 3) := by decide +kernel
theorem dX6_deep_86 : decode cX6_deep 86 = .ok (.bipush (-9), 2) := by decide +kernel
theorem dX6_deep_88 : decode cX6_deep 88 = .ok (.ireturn, 1) := by decide +kernel
theorem dX6_stops_0 : decode cX6_stops 0 = .ok (.iload_n 1, 1) := by decide +kernel
theorem dX6_stops_1 : decode cX6_stops 1 = .ok (.iconst 0, 1) := by decide +kernel
theorem dX6_stops_2 : decode cX6_stops 2 = .ok (.sipush 200, 3) := by decide +kernel
theorem dX6_stops_5 : decode cX6_stops 5 = .ok (.invokestatic 58, 3) := by decide +kernel
theorem dX6_stops_8 : decode cX6_stops 8 = .ok (.istore_n 3, 1) := by decide +kernel
theorem dX6_stops_9 : decode cX6_stops 9 = .ok (.iload_n 3, 1) := by decide +kernel
theorem dX6_stops_10 : decode cX6_stops 10 = .ok (.ifCond .eq 9, 3) := by decide +kernel
theorem dX6_stops_13 : decode cX6_stops 13 = .ok (.aload_n 0, 1) := by decide +kernel
theorem dX6_stops_14 : decode cX6_stops 14 = .ok (.iload_n 3, 1) := by decide +kernel
theorem dX6_stops_15 : decode cX6_stops 15 = .ok (.invokevirtual 62, 3) := by decide +kernel
theorem dX6_stops_18 : decode cX6_stops 18 = .ok (.ireturn, 1) := by decide +kernel
theorem dX6_stops_19 : decode cX6_stops 19 = .ok (.iload_n 2, 1) := by decide +kernel
theorem dX6_stops_20 : decode cX6_stops 20 = .ok (.ifCond .eq 15, 3) := by decide +kernel
theorem dX6_stops_23 : decode cX6_stops 23 = .ok (.iload_n 2, 1) := by decide +kernel
theorem dX6_stops_24 : decode cX6_stops 24 = .ok (.iconst 1, 1) := by decide +kernel
theorem dX6_stops_25 : decode cX6_stops 25 = .ok (.if_icmp .eq 10, 3) := by decide +kernel
theorem dX6_stops_28 : decode cX6_stops 28 = .ok (.aload_n 0, 1) := by decide +kernel
theorem dX6_stops_29 : decode cX6_stops 29 = .ok (.bipush (-2), 2) := by decide +kernel
theorem dX6_stops_31 : decode cX6_stops 31 = .ok (.invokevirtual 62, 3) := by decide +kernel
theorem dX6_stops_34 : decode cX6_stops 34 = .ok (.ireturn, 1) := by decide +kernel
theorem dX6_stops_35 : decode cX6_stops 35 = .ok (.iconst 0, 1) := by decide +kernel
theorem dX6_stops_36 : decode cX6_stops 36 = .ok (.istore 4, 2) := by decide +kernel
theorem dX6_stops_38 : decode cX6_stops 38 = .ok (.aload_n 0, 1) := by decide +kernel
theorem dX6_stops_39 : decode cX6_stops 39 = .ok (.iconst 0, 1) := by decide +kernel
theorem dX6_stops_40 : decode cX6_stops 40 = .ok (.iload_n 1, 1) := by decide +kernel
theorem dX6_stops_41 : decode cX6_stops 41 = .ok (.invokevirtual 208, 3) := by decide +kernel
theorem dX6_stops_44 : decode cX6_stops 44 = .ok (.istore 5, 2) := by decide +kernel
theorem dX6_stops_46 : decode cX6_stops 46 = .ok (.iconst 1, 1) := by decide +kernel
theorem dX6_stops_47 : decode cX6_stops 47 = .ok (.istore 6, 2) := by decide +kernel
theorem dX6_stops_49 : decode cX6_stops 49 = .ok (.iload 6, 2) := by decide +kernel
theorem dX6_stops_51 : decode cX6_stops 51 = .ok (.iconst 5, 1) := by decide +kernel
theorem dX6_stops_52 : decode cX6_stops 52 = .ok (.if_icmp .ge 33, 3) := by decide +kernel
theorem dX6_stops_55 : decode cX6_stops 55 = .ok (.aload_n 0, 1) := by decide +kernel
theorem dX6_stops_56 : decode cX6_stops 56 = .ok (.iload 6, 2) := by decide +kernel
theorem dX6_stops_58 : decode cX6_stops 58 = .ok (.iload_n 1, 1) := by decide +kernel
theorem dX6_stops_59 : decode cX6_stops 59 = .ok (.invokevirtual 208, 3) := by decide +kernel
theorem dX6_stops_62 : decode cX6_stops 62 = .ok (.istore 7, 2) := by decide +kernel
theorem dX6_stops_64 : decode cX6_stops 64 = .ok (.iload 7, 2) := by decide +kernel
theorem dX6_stops_66 : decode cX6_stops 66 = .ok (.iload 5, 2) := by decide +kernel
theorem dX6_stops_68 : decode cX6_stops 68 = .ok (.if_icmp .ge 11, 3) := by decide +kernel
theorem dX6_stops_71 : decode cX6_stops 71 = .ok (.iload 6, 2) := by decide +kernel
theorem dX6_stops_73 : decode cX6_stops 73 = .ok (.istore 4, 2) := by decide +kernel
theorem dX6_stops_75 : decode cX6_stops 75 = .ok (.iload 7, 2) := by decide +kernel
theorem dX6_stops_77 : decode cX6_stops 77 = .ok (.istore 5, 2) := by decide +kernel
theorem dX6_stops_79 : decode cX6_stops 79 = .ok (.iinc 6 1, 3) := by decide +kernel
theorem dX6_stops_82 : decode cX6_stops 82 = .ok (.goto (-33), 3) := by decide +kernel
theorem dX6_stops_85 : decode cX6_stops 85 = .ok (.iload_n 2, 1) := by decide +kernel
theorem dX6_stops_86 : decode cX6_stops 86 = .ok (.ifCond .ne 8, 3) := by decide +kernel
theorem dX6_stops_89 : decode cX6_stops 89 = .ok (.iload 4, 2) := by decide +kernel
theorem dX6_stops_91 : decode cX6_stops 91 = .ok (.goto 5, 3) := by decide +kernel
theorem dX6_stops_94 : decode cX6_stops 94 = .ok (.iload 5, 2) := by decide +kernel
theorem dX6_stops_96 : decode cX6_stops 96 = .ok (.ireturn, 1) := by decide +kernel
theorem dX6_care_0 : decode cX6_care 0 = .ok (.iload_n 1, 1) := by decide +kernel
theorem dX6_care_1 : decode cX6_care 1 = .ok (.iconst 0, 1) := by decide +kernel
theorem dX6_care_2 : decode cX6_care 2 = .ok (.sipush 200, 3) := by decide +kernel
theorem dX6_care_5 : decode cX6_care 5 = .ok (.invokestatic 58, 3) := by decide +kernel
theorem dX6_care_8 : decode cX6_care 8 = .ok (.istore_n 2, 1) := by decide +kernel
theorem dX6_care_9 : decode cX6_care 9 = .ok (.iload_n 2, 1) := by decide +kernel
theorem dX6_care_10 : decode cX6_care 10 = .ok (.ifCond .eq 9, 3) := by decide +kernel
theorem dX6_care_13 : decode cX6_care 13 = .ok (.aload_n 0, 1) := by decide +kernel
theorem dX6_care_14 : decode cX6_care 14 = .ok (.iload_n 2, 1) := by decide +kernel
theorem dX6_care_15 : decode cX6_care 15 = .ok (.invokevirtual 62, 3) := by decide +kernel
theorem dX6_care_18 : decode cX6_care 18 = .ok (.ireturn, 1) := by decide +kernel
theorem dX6_care_19 : decode cX6_care 19 = .ok (.aload_n 0, 1) := by decide +kernel
theorem dX6_care_20 : decode cX6_care 20 = .ok (.getfield 16, 3) := by decide +kernel
theorem dX6_care_23 : decode cX6_care 23 = .ok (.aload_n 0, 1) := by decide +kernel
theorem dX6_care_24 : decode cX6_care 24 = .ok (.getfield 10, 3) := by decide +kernel
theorem dX6_care_27 : decode cX6_care 27 = .ok (.invokevirtual 195, 3) := by decide +kernel
theorem dX6_care_30 : decode cX6_care 30 = .ok (.aload_n 0, 1) := by decide +kernel
theorem dX6_care_31 : decode cX6_care 31 = .ok (.getfield 36, 3) := by decide +kernel
theorem dX6_care_34 : decode cX6_care 34 = .ok (.aload_n 0, 1) := by decide +kernel
theorem dX6_care_35 : decode cX6_care 35 = .ok (.getfield 16, 3) := by decide +kernel
theorem dX6_care_38 : decode cX6_care 38 = .ok (.aload_n 0, 1) := by decide +kernel
theorem dX6_care_39 : decode cX6_care 39 = .ok (.getfield 29, 3) := by decide +kernel
theorem dX6_care_42 : decode cX6_care 42 = .ok (.iload_n 1, 1) := by decide +kernel
theorem dX6_care_43 : decode cX6_care 43 = .ok (.invokevirtual 211, 3) := by decide +kernel
theorem dX6_care_46 : decode cX6_care 46 = .ok (.aload_n 0, 1) := by decide +kernel
theorem dX6_care_47 : decode cX6_care 47 = .ok (.getfield 36, 3) := by decide +kernel
theorem dX6_care_50 : decode cX6_care 50 = .ok (.getfield 215, 3) := by decide +kernel
theorem dX6_care_53 : decode cX6_care 53 = .ok (.ireturn, 1) := by decide +kernel
theorem dX6_holdsUp_0 : decode cX6_holdsUp 0 = .ok (.iload_n 1, 1) := by decide +kernel
theorem dX6_holdsUp_1 : decode cX6_holdsUp 1 = .ok (.invokestatic 119, 3) := by decide +kernel
theorem dX6_holdsUp_4 : decode cX6_holdsUp 4 = .ok (.ifCond .ne 9, 3) := by decide +kernel
theorem dX6_holdsUp_7 : decode cX6_holdsUp 7 = .ok (.aload_n 0, 1) := by decide +kernel
theorem dX6_holdsUp_8 : decode cX6_holdsUp 8 = .ok (.iconst (-1), 1) := by decide +kernel
theorem dX6_holdsUp_9 : decode cX6_holdsUp 9 = .ok (.invokevirtual 62, 3) := by decide +kernel
theorem dX6_holdsUp_12 : decode cX6_holdsUp 12 = .ok (.ireturn, 1) := by decide +kernel
theorem dX6_holdsUp_13 : decode cX6_holdsUp 13 = .ok (.aload_n 0, 1) := by decide +kernel
theorem dX6_holdsUp_14 : decode cX6_holdsUp 14 = .ok (.getfield 29, 3) := by decide +kernel
theorem dX6_holdsUp_17 : decode cX6_holdsUp 17 = .ok (.aload_n 0, 1) := by decide +kernel
theorem dX6_holdsUp_18 : decode cX6_holdsUp 18 = .ok (.getfield 10, 3) := by decide +kernel
theorem dX6_holdsUp_21 : decode cX6_holdsUp 21 = .ok (.iload_n 1, 1) := by decide +kernel
theorem dX6_holdsUp_22 : decode cX6_holdsUp 22 = .ok (.aload_n 0, 1) := by decide +kernel
theorem dX6_holdsUp_23 : decode cX6_holdsUp 23 = .ok (.getfield 10, 3) := by decide +kernel
theorem dX6_holdsUp_26 : decode cX6_holdsUp 26 = .ok (.iload_n 1, 1) := by decide +kernel
theorem dX6_holdsUp_27 : decode cX6_holdsUp 27 = .ok (.invokevirtual 125, 3) := by decide +kernel
theorem dX6_holdsUp_30 : decode cX6_holdsUp 30 = .ok (.invokevirtual 175, 3) := by decide +kernel
theorem dX6_holdsUp_33 : decode cX6_holdsUp 33 = .ok (.bipush (-9), 2) := by decide +kernel
theorem dX6_holdsUp_35 : decode cX6_holdsUp 35 = .ok (.istore_n 2, 1) := by decide +kernel
theorem dX6_holdsUp_36 : decode cX6_holdsUp 36 = .ok (.aload_n 0, 1) := by decide +kernel
theorem dX6_holdsUp_37 : decode cX6_holdsUp 37 = .ok (.getfield 29, 3) := by decide +kernel
theorem dX6_holdsUp_40 : decode cX6_holdsUp 40 = .ok (.invokevirtual 218, 3) := by decide +kernel
theorem dX6_holdsUp_43 : decode cX6_holdsUp 43 = .ok (.istore_n 3, 1) := by decide +kernel
theorem dX6_holdsUp_44 : decode cX6_holdsUp 44 = .ok (.iconst 0, 1) := by decide +kernel
theorem dX6_holdsUp_45 : decode cX6_holdsUp 45 = .ok (.istore 4, 2) := by decide +kernel
theorem dX6_holdsUp_47 : decode cX6_holdsUp 47 = .ok (.iload 4, 2) := by decide +kernel
theorem dX6_holdsUp_49 : decode cX6_holdsUp 49 = .ok (.aload_n 0, 1) := by decide +kernel
theorem dX6_holdsUp_50 : decode cX6_holdsUp 50 = .ok (.getfield 10, 3) := by decide +kernel
theorem dX6_holdsUp_53 : decode cX6_holdsUp 53 = .ok (.getfield 116, 3) := by decide +kernel
theorem dX6_holdsUp_56 : decode cX6_holdsUp 56 = .ok (.if_icmp .ge 30, 3) := by decide +kernel
theorem dX6_holdsUp_59 : decode cX6_holdsUp 59 = .ok (.aload_n 0, 1) := by decide +kernel
theorem dX6_holdsUp_60 : decode cX6_holdsUp 60 = .ok (.iload 4, 2) := by decide +kernel
theorem dX6_holdsUp_62 : decode cX6_holdsUp 62 = .ok (.iload_n 1, 1) := by decide +kernel
theorem dX6_holdsUp_63 : decode cX6_holdsUp 63 = .ok (.invokevirtual 221, 3) := by decide +kernel
theorem dX6_holdsUp_66 : decode cX6_holdsUp 66 = .ok (.istore 5, 2) := by decide +kernel
theorem dX6_holdsUp_68 : decode cX6_holdsUp 68 = .ok (.iload 5, 2) := by decide +kernel
theorem dX6_holdsUp_70 : decode cX6_holdsUp 70 = .ok (.iload_n 3, 1) := by decide +kernel
theorem dX6_holdsUp_71 : decode cX6_holdsUp 71 = .ok (.if_icmp .ge 9, 3) := by decide +kernel
theorem dX6_holdsUp_74 : decode cX6_holdsUp 74 = .ok (.iload 4, 2) := by decide +kernel
theorem dX6_holdsUp_76 : decode cX6_holdsUp 76 = .ok (.istore_n 2, 1) := by decide +kernel
theorem dX6_holdsUp_77 : decode cX6_holdsUp 77 = .ok (.iload 5, 2) := by decide +kernel
theorem dX6_holdsUp_79 : decode cX6_holdsUp 79 = .ok (.istore_n 3, 1) := by decide +kernel
theorem dX6_holdsUp_80 : decode cX6_holdsUp 80 = .ok (.iinc 4 1, 3) := by decide +kernel
theorem dX6_holdsUp_83 : decode cX6_holdsUp 83 = .ok (.goto (-36), 3) := by decide +kernel
theorem dX6_holdsUp_86 : decode cX6_holdsUp 86 = .ok (.iload_n 2, 1) := by decide +kernel
theorem dX6_holdsUp_87 : decode cX6_holdsUp 87 = .ok (.ireturn, 1) := by decide +kernel
theorem dX6_middle_0 : decode cX6_middle 0 = .ok (.aload_n 0, 1) := by decide +kernel
theorem dX6_middle_1 : decode cX6_middle 1 = .ok (.getfield 10, 3) := by decide +kernel
theorem dX6_middle_4 : decode cX6_middle 4 = .ok (.iconst 0, 1) := by decide +kernel
theorem dX6_middle_5 : decode cX6_middle 5 = .ok (.invokevirtual 125, 3) := by decide +kernel
theorem dX6_middle_8 : decode cX6_middle 8 = .ok (.aload_n 0, 1) := by decide +kernel
theorem dX6_middle_9 : decode cX6_middle 9 = .ok (.getfield 10, 3) := by decide +kernel
theorem dX6_middle_12 : decode cX6_middle 12 = .ok (.iconst 1, 1) := by decide +kernel
theorem dX6_middle_13 : decode cX6_middle 13 = .ok (.invokevirtual 125, 3) := by decide +kernel
theorem dX6_middle_16 : decode cX6_middle 16 = .ok (.isub, 1) := by decide +kernel
theorem dX6_middle_17 : decode cX6_middle 17 = .ok (.iconst 2, 1) := by decide +kernel
theorem dX6_middle_18 : decode cX6_middle 18 = .ok (.idiv, 1) := by decide +kernel
theorem dX6_middle_19 : decode cX6_middle 19 = .ok (.istore_n 1, 1) := by decide +kernel
theorem dX6_middle_20 : decode cX6_middle 20 = .ok (.iload_n 1, 1) := by decide +kernel
theorem dX6_middle_21 : decode cX6_middle 21 = .ok (.ifCond .ge 7, 3) := by decide +kernel
theorem dX6_middle_24 : decode cX6_middle 24 = .ok (.iconst 1, 1) := by decide +kernel
theorem dX6_middle_25 : decode cX6_middle 25 = .ok (.goto 4, 3) := by decide +kernel
theorem dX6_middle_28 : decode cX6_middle 28 = .ok (.iconst 0, 1) := by decide +kernel
theorem dX6_middle_29 : decode cX6_middle 29 = .ok (.istore_n 2, 1) := by decide +kernel
theorem dX6_middle_30 : decode cX6_middle 30 = .ok (.iload_n 1, 1) := by decide +kernel
theorem dX6_middle_31 : decode cX6_middle 31 = .ok (.invokestatic 224, 3) := by decide +kernel
theorem dX6_middle_34 : decode cX6_middle 34 = .ok (.istore_n 3, 1) := by decide +kernel
theorem dX6_middle_35 : decode cX6_middle 35 = .ok (.aload_n 0, 1) := by decide +kernel
theorem dX6_middle_36 : decode cX6_middle 36 = .ok (.getfield 10, 3) := by decide +kernel
theorem dX6_middle_39 : decode cX6_middle 39 = .ok (.iload_n 2, 1) := by decide +kernel
theorem dX6_middle_40 : decode cX6_middle 40 = .ok (.iload_n 3, 1) := by decide +kernel
theorem dX6_middle_41 : decode cX6_middle 41 = .ok (.invokevirtual 227, 3) := by decide +kernel
theorem dX6_middle_44 : decode cX6_middle 44 = .ok (.iload_n 3, 1) := by decide +kernel
theorem dX6_middle_45 : decode cX6_middle 45 = .ok (.if_icmp .ge 8, 3) := by decide +kernel
theorem dX6_middle_48 : decode cX6_middle 48 = .ok (.bipush 99, 2) := by decide +kernel
theorem dX6_middle_50 : decode cX6_middle 50 = .ok (.goto 4, 3) := by decide +kernel
theorem dX6_middle_53 : decode cX6_middle 53 = .ok (.iload_n 1, 1) := by decide +kernel
theorem dX6_middle_54 : decode cX6_middle 54 = .ok (.ireturn, 1) := by decide +kernel
theorem dX6_cutOff_0 : decode cX6_cutOff 0 = .ok (.iconst 0, 1) := by decide +kernel
theorem dX6_cutOff_1 : decode cX6_cutOff 1 = .ok (.aload_n 0, 1) := by decide +kernel
theorem dX6_cutOff_2 : decode cX6_cutOff 2 = .ok (.getfield 10, 3) := by decide +kernel
theorem dX6_cutOff_5 : decode cX6_cutOff 5 = .ok (.iconst 0, 1) := by decide +kernel
theorem dX6_cutOff_6 : decode cX6_cutOff 6 = .ok (.invokevirtual 125, 3) := by decide +kernel
theorem dX6_cutOff_9 : decode cX6_cutOff 9 = .ok (.aload_n 0, 1) := by decide +kernel
theorem dX6_cutOff_10 : decode cX6_cutOff 10 = .ok (.getfield 10, 3) := by decide +kernel
theorem dX6_cutOff_13 : decode cX6_cutOff 13 = .ok (.iconst 1, 1) := by decide +kernel
theorem dX6_cutOff_14 : decode cX6_cutOff 14 = .ok (.invokevirtual 125, 3) := by decide +kernel
theorem dX6_cutOff_17 : decode cX6_cutOff 17 = .ok (.iadd, 1) := by decide +kernel
theorem dX6_cutOff_18 : decode cX6_cutOff 18 = .ok (.ineg, 1) := by decide +kernel
theorem dX6_cutOff_19 : decode cX6_cutOff 19 = .ok (.invokestatic 158, 3) := by decide +kernel
theorem dX6_cutOff_22 : decode cX6_cutOff 22 = .ok (.ireturn, 1) := by decide +kernel
theorem dX6_bestPin_0 : decode cX6_bestPin 0 = .ok (.iload_n 1, 1) := by decide +kernel
theorem dX6_bestPin_1 : decode cX6_bestPin 1 = .ok (.iconst 0, 1) := by decide +kernel
theorem dX6_bestPin_2 : decode cX6_bestPin 2 = .ok (.sipush 999, 3) := by decide +kernel
theorem dX6_bestPin_5 : decode cX6_bestPin 5 = .ok (.invokestatic 58, 3) := by decide +kernel
theorem dX6_bestPin_8 : decode cX6_bestPin 8 = .ok (.istore_n 2, 1) := by decide +kernel
theorem dX6_bestPin_9 : decode cX6_bestPin 9 = .ok (.iload_n 2, 1) := by decide +kernel
theorem dX6_bestPin_10 : decode cX6_bestPin 10 = .ok (.ifCond .eq 9, 3) := by decide +kernel
theorem dX6_bestPin_13 : decode cX6_bestPin 13 = .ok (.aload_n 0, 1) := by decide +kernel
theorem dX6_bestPin_14 : decode cX6_bestPin 14 = .ok (.iload_n 2, 1) := by decide +kernel
theorem dX6_bestPin_15 : decode cX6_bestPin 15 = .ok (.invokevirtual 62, 3) := by decide +kernel
theorem dX6_bestPin_18 : decode cX6_bestPin 18 = .ok (.ireturn, 1) := by decide +kernel
theorem dX6_bestPin_19 : decode cX6_bestPin 19 = .ok (.iconst 1, 1) := by decide +kernel
theorem dX6_bestPin_20 : decode cX6_bestPin 20 = .ok (.istore_n 3, 1) := by decide +kernel
theorem dX6_bestPin_21 : decode cX6_bestPin 21 = .ok (.iload_n 3, 1) := by decide +kernel
theorem dX6_bestPin_22 : decode cX6_bestPin 22 = .ok (.bipush 9, 2) := by decide +kernel
theorem dX6_bestPin_24 : decode cX6_bestPin 24 = .ok (.if_icmp .gt 23, 3) := by decide +kernel
theorem dX6_bestPin_27 : decode cX6_bestPin 27 = .ok (.aload_n 0, 1) := by decide +kernel
theorem dX6_bestPin_28 : decode cX6_bestPin 28 = .ok (.getfield 10, 3) := by decide +kernel
theorem dX6_bestPin_31 : decode cX6_bestPin 31 = .ok (.iload_n 3, 1) := by decide +kernel
theorem dX6_bestPin_32 : decode cX6_bestPin 32 = .ok (.invokevirtual 166, 3) := by decide +kernel
theorem dX6_bestPin_35 : decode cX6_bestPin 35 = .ok (.iload_n 1, 1) := by decide +kernel
theorem dX6_bestPin_36 : decode cX6_bestPin 36 = .ok (.if_icmp .gt 5, 3) := by decide +kernel
theorem dX6_bestPin_39 : decode cX6_bestPin 39 = .ok (.iload_n 3, 1) := by decide +kernel
theorem dX6_bestPin_40 : decode cX6_bestPin 40 = .ok (.ireturn, 1) := by decide +kernel
theorem dX6_bestPin_41 : decode cX6_bestPin 41 = .ok (.iinc 3 1, 3) := by decide +kernel
theorem dX6_bestPin_44 : decode cX6_bestPin 44 = .ok (.goto (-23), 3) := by decide +kernel
theorem dX6_bestPin_47 : decode cX6_bestPin 47 = .ok (.bipush (-9), 2) := by decide +kernel
theorem dX6_bestPin_49 : decode cX6_bestPin 49 = .ok (.ireturn, 1) := by decide +kernel
theorem dX6_worst_0 : decode cX6_worst 0 = .ok (.iconst 0, 1) := by decide +kernel
theorem dX6_worst_1 : decode cX6_worst 1 = .ok (.istore_n 1, 1) := by decide +kernel
theorem dX6_worst_2 : decode cX6_worst 2 = .ok (.iconst 1, 1) := by decide +kernel
theorem dX6_worst_3 : decode cX6_worst 3 = .ok (.istore_n 2, 1) := by decide +kernel
theorem dX6_worst_4 : decode cX6_worst 4 = .ok (.iload_n 2, 1) := by decide +kernel
theorem dX6_worst_5 : decode cX6_worst 5 = .ok (.aload_n 0, 1) := by decide +kernel
theorem dX6_worst_6 : decode cX6_worst 6 = .ok (.getfield 10, 3) := by decide +kernel
theorem dX6_worst_9 : decode cX6_worst 9 = .ok (.getfield 116, 3) := by decide +kernel
theorem dX6_worst_12 : decode cX6_worst 12 = .ok (.if_icmp .ge 44, 3) := by decide +kernel
theorem dX6_worst_15 : decode cX6_worst 15 = .ok (.aload_n 0, 1) := by decide +kernel
theorem dX6_worst_16 : decode cX6_worst 16 = .ok (.getfield 10, 3) := by decide +kernel
theorem dX6_worst_19 : decode cX6_worst 19 = .ok (.iload_n 2, 1) := by decide +kernel
theorem dX6_worst_20 : decode cX6_worst 20 = .ok (.aload_n 0, 1) := by decide +kernel
theorem dX6_worst_21 : decode cX6_worst 21 = .ok (.getfield 10, 3) := by decide +kernel
theorem dX6_worst_24 : decode cX6_worst 24 = .ok (.getfield 142, 3) := by decide +kernel
theorem dX6_worst_27 : decode cX6_worst 27 = .ok (.invokevirtual 230, 3) := by decide +kernel
theorem dX6_worst_30 : decode cX6_worst 30 = .ok (.aload_n 0, 1) := by decide +kernel
theorem dX6_worst_31 : decode cX6_worst 31 = .ok (.getfield 10, 3) := by decide +kernel
theorem dX6_worst_34 : decode cX6_worst 34 = .ok (.iload_n 1, 1) := by decide +kernel
theorem dX6_worst_35 : decode cX6_worst 35 = .ok (.aload_n 0, 1) := by decide +kernel
theorem dX6_worst_36 : decode cX6_worst 36 = .ok (.getfield 10, 3) := by decide +kernel
theorem dX6_worst_39 : decode cX6_worst 39 = .ok (.getfield 142, 3) := by decide +kernel
theorem dX6_worst_42 : decode cX6_worst 42 = .ok (.invokevirtual 230, 3) := by decide +kernel
theorem dX6_worst_45 : decode cX6_worst 45 = .ok (.if_icmp .le 5, 3) := by decide +kernel
theorem dX6_worst_48 : decode cX6_worst 48 = .ok (.iload_n 2, 1) := by decide +kernel
theorem dX6_worst_49 : decode cX6_worst 49 = .ok (.istore_n 1, 1) := by decide +kernel
theorem dX6_worst_50 : decode cX6_worst 50 = .ok (.iinc 2 1, 3) := by decide +kernel
theorem dX6_worst_53 : decode cX6_worst 53 = .ok (.goto (-49), 3) := by decide +kernel
theorem dX6_worst_56 : decode cX6_worst 56 = .ok (.iload_n 1, 1) := by decide +kernel
theorem dX6_worst_57 : decode cX6_worst 57 = .ok (.ireturn, 1) := by decide +kernel
theorem dX6_which_0 : decode cX6_which 0 = .ok (.aload_n 0, 1) := by decide +kernel
theorem dX6_which_1 : decode cX6_which 1 = .ok (.getfield 10, 3) := by decide +kernel
theorem dX6_which_4 : decode cX6_which 4 = .ok (.iload_n 1, 1) := by decide +kernel
theorem dX6_which_5 : decode cX6_which 5 = .ok (.invokevirtual 88, 3) := by decide +kernel
theorem dX6_which_8 : decode cX6_which 8 = .ok (.ifCond .ne 9, 3) := by decide +kernel
theorem dX6_which_11 : decode cX6_which 11 = .ok (.aload_n 0, 1) := by decide +kernel
theorem dX6_which_12 : decode cX6_which 12 = .ok (.iconst (-1), 1) := by decide +kernel
theorem dX6_which_13 : decode cX6_which 13 = .ok (.invokevirtual 62, 3) := by decide +kernel
theorem dX6_which_16 : decode cX6_which 16 = .ok (.ireturn, 1) := by decide +kernel
theorem dX6_which_17 : decode cX6_which 17 = .ok (.iload_n 2, 1) := by decide +kernel
theorem dX6_which_18 : decode cX6_which 18 = .ok (.ifCond .eq 15, 3) := by decide +kernel
theorem dX6_which_21 : decode cX6_which 21 = .ok (.iload_n 2, 1) := by decide +kernel
theorem dX6_which_22 : decode cX6_which 22 = .ok (.iconst 1, 1) := by decide +kernel
theorem dX6_which_23 : decode cX6_which 23 = .ok (.if_icmp .eq 10, 3) := by decide +kernel
theorem dX6_which_26 : decode cX6_which 26 = .ok (.aload_n 0, 1) := by decide +kernel
theorem dX6_which_27 : decode cX6_which 27 = .ok (.bipush (-2), 2) := by decide +kernel
theorem dX6_which_29 : decode cX6_which 29 = .ok (.invokevirtual 62, 3) := by decide +kernel
theorem dX6_which_32 : decode cX6_which 32 = .ok (.ireturn, 1) := by decide +kernel
theorem dX6_which_33 : decode cX6_which 33 = .ok (.iload_n 2, 1) := by decide +kernel
theorem dX6_which_34 : decode cX6_which 34 = .ok (.ifCond .ne 11, 3) := by decide +kernel
theorem dX6_which_37 : decode cX6_which 37 = .ok (.aload_n 0, 1) := by decide +kernel
theorem dX6_which_38 : decode cX6_which 38 = .ok (.iload_n 1, 1) := by decide +kernel
theorem dX6_which_39 : decode cX6_which 39 = .ok (.invokevirtual 233, 3) := by decide +kernel
theorem dX6_which_42 : decode cX6_which 42 = .ok (.goto 7, 3) := by decide +kernel
theorem dX6_which_45 : decode cX6_which 45 = .ok (.aload_n 0, 1) := by decide +kernel
theorem dX6_which_46 : decode cX6_which 46 = .ok (.invokevirtual 236, 3) := by decide +kernel
theorem dX6_which_49 : decode cX6_which 49 = .ok (.ireturn, 1) := by decide +kernel
theorem dX6_row_0 : decode cX6_row 0 = .ok (.iload_n 1, 1) := by decide +kernel
theorem dX6_row_1 : decode cX6_row 1 = .ok (.iconst 0, 1) := by decide +kernel
theorem dX6_row_2 : decode cX6_row 2 = .ok (.bipush 99, 2) := by decide +kernel
theorem dX6_row_4 : decode cX6_row 4 = .ok (.invokestatic 58, 3) := by decide +kernel
theorem dX6_row_7 : decode cX6_row 7 = .ok (.istore_n 2, 1) := by decide +kernel
theorem dX6_row_8 : decode cX6_row 8 = .ok (.iload_n 2, 1) := by decide +kernel
theorem dX6_row_9 : decode cX6_row 9 = .ok (.ifCond .eq 9, 3) := by decide +kernel
theorem dX6_row_12 : decode cX6_row 12 = .ok (.aload_n 0, 1) := by decide +kernel
theorem dX6_row_13 : decode cX6_row 13 = .ok (.iload_n 2, 1) := by decide +kernel
theorem dX6_row_14 : decode cX6_row 14 = .ok (.invokevirtual 62, 3) := by decide +kernel
theorem dX6_row_17 : decode cX6_row 17 = .ok (.ireturn, 1) := by decide +kernel
theorem dX6_row_18 : decode cX6_row 18 = .ok (.aload_n 0, 1) := by decide +kernel
theorem dX6_row_19 : decode cX6_row 19 = .ok (.getfield 50, 3) := by decide +kernel
theorem dX6_row_22 : decode cX6_row 22 = .ok (.invokevirtual 239, 3) := by decide +kernel
theorem dX6_row_25 : decode cX6_row 25 = .ok (.ifCond .eq 10, 3) := by decide +kernel
theorem dX6_row_28 : decode cX6_row 28 = .ok (.aload_n 0, 1) := by decide +kernel
theorem dX6_row_29 : decode cX6_row 29 = .ok (.bipush (-6), 2) := by decide +kernel
theorem dX6_row_31 : decode cX6_row 31 = .ok (.invokevirtual 62, 3) := by decide +kernel
theorem dX6_row_34 : decode cX6_row 34 = .ok (.ireturn, 1) := by decide +kernel
theorem dX6_row_35 : decode cX6_row 35 = .ok (.aload_n 0, 1) := by decide +kernel
theorem dX6_row_36 : decode cX6_row 36 = .ok (.getfield 50, 3) := by decide +kernel
theorem dX6_row_39 : decode cX6_row 39 = .ok (.iload_n 1, 1) := by decide +kernel
theorem dX6_row_40 : decode cX6_row 40 = .ok (.invokevirtual 240, 3) := by decide +kernel
theorem dX6_row_43 : decode cX6_row 43 = .ok (.aload_n 0, 1) := by decide +kernel
theorem dX6_row_44 : decode cX6_row 44 = .ok (.getfield 50, 3) := by decide +kernel
theorem dX6_row_47 : decode cX6_row 47 = .ok (.getfield 241, 3) := by decide +kernel
theorem dX6_row_50 : decode cX6_row 50 = .ok (.ireturn, 1) := by decide +kernel
theorem dX6_judge_0 : decode cX6_judge 0 = .ok (.iload_n 1, 1) := by decide +kernel
theorem dX6_judge_1 : decode cX6_judge 1 = .ok (.invokestatic 119, 3) := by decide +kernel
theorem dX6_judge_4 : decode cX6_judge 4 = .ok (.ifCond .ne 9, 3) := by decide +kernel
theorem dX6_judge_7 : decode cX6_judge 7 = .ok (.aload_n 0, 1) := by decide +kernel
theorem dX6_judge_8 : decode cX6_judge 8 = .ok (.iconst (-1), 1) := by decide +kernel
theorem dX6_judge_9 : decode cX6_judge 9 = .ok (.invokevirtual 62, 3) := by decide +kernel
theorem dX6_judge_12 : decode cX6_judge 12 = .ok (.ireturn, 1) := by decide +kernel
theorem dX6_judge_13 : decode cX6_judge 13 = .ok (.aload_n 0, 1) := by decide +kernel
theorem dX6_judge_14 : decode cX6_judge 14 = .ok (.getfield 16, 3) := by decide +kernel
theorem dX6_judge_17 : decode cX6_judge 17 = .ok (.aload_n 0, 1) := by decide +kernel
theorem dX6_judge_18 : decode cX6_judge 18 = .ok (.getfield 10, 3) := by decide +kernel
theorem dX6_judge_21 : decode cX6_judge 21 = .ok (.invokevirtual 195, 3) := by decide +kernel
theorem dX6_judge_24 : decode cX6_judge 24 = .ok (.aload_n 0, 1) := by decide +kernel
theorem dX6_judge_25 : decode cX6_judge 25 = .ok (.getfield 50, 3) := by decide +kernel
theorem dX6_judge_28 : decode cX6_judge 28 = .ok (.aload_n 0, 1) := by decide +kernel
theorem dX6_judge_29 : decode cX6_judge 29 = .ok (.getfield 16, 3) := by decide +kernel
theorem dX6_judge_32 : decode cX6_judge 32 = .ok (.iload_n 1, 1) := by decide +kernel
theorem dX6_judge_33 : decode cX6_judge 33 = .ok (.invokevirtual 242, 3) := by decide +kernel
theorem dX6_judge_36 : decode cX6_judge 36 = .ok (.istore_n 2, 1) := by decide +kernel
theorem dX6_judge_37 : decode cX6_judge 37 = .ok (.aload_n 0, 1) := by decide +kernel
theorem dX6_judge_38 : decode cX6_judge 38 = .ok (.getfield 50, 3) := by decide +kernel
theorem dX6_judge_41 : decode cX6_judge 41 = .ok (.invokevirtual 246, 3) := by decide +kernel
theorem dX6_judge_44 : decode cX6_judge 44 = .ok (.iload_n 2, 1) := by decide +kernel
theorem dX6_judge_45 : decode cX6_judge 45 = .ok (.ireturn, 1) := by decide +kernel
theorem dX6_lots_0 : decode cX6_lots 0 = .ok (.iload_n 1, 1) := by decide +kernel
theorem dX6_lots_1 : decode cX6_lots 1 = .ok (.iconst 1, 1) := by decide +kernel
theorem dX6_lots_2 : decode cX6_lots 2 = .ok (.bipush 20, 2) := by decide +kernel
theorem dX6_lots_4 : decode cX6_lots 4 = .ok (.invokestatic 58, 3) := by decide +kernel
theorem dX6_lots_7 : decode cX6_lots 7 = .ok (.istore 4, 2) := by decide +kernel
theorem dX6_lots_9 : decode cX6_lots 9 = .ok (.iload 4, 2) := by decide +kernel
theorem dX6_lots_11 : decode cX6_lots 11 = .ok (.ifCond .eq 10, 3) := by decide +kernel
theorem dX6_lots_14 : decode cX6_lots 14 = .ok (.aload_n 0, 1) := by decide +kernel
theorem dX6_lots_15 : decode cX6_lots 15 = .ok (.iload 4, 2) := by decide +kernel
theorem dX6_lots_17 : decode cX6_lots 17 = .ok (.invokevirtual 62, 3) := by decide +kernel
theorem dX6_lots_20 : decode cX6_lots 20 = .ok (.ireturn, 1) := by decide +kernel
theorem dX6_lots_21 : decode cX6_lots 21 = .ok (.iload_n 3, 1) := by decide +kernel
theorem dX6_lots_22 : decode cX6_lots 22 = .ok (.ifCond .eq 15, 3) := by decide +kernel
theorem dX6_lots_25 : decode cX6_lots 25 = .ok (.iload_n 3, 1) := by decide +kernel
theorem dX6_lots_26 : decode cX6_lots 26 = .ok (.iconst 1, 1) := by decide +kernel
theorem dX6_lots_27 : decode cX6_lots 27 = .ok (.if_icmp .eq 10, 3) := by decide +kernel
theorem dX6_lots_30 : decode cX6_lots 30 = .ok (.aload_n 0, 1) := by decide +kernel
theorem dX6_lots_31 : decode cX6_lots 31 = .ok (.bipush (-2), 2) := by decide +kernel
theorem dX6_lots_33 : decode cX6_lots 33 = .ok (.invokevirtual 62, 3) := by decide +kernel
theorem dX6_lots_36 : decode cX6_lots 36 = .ok (.ireturn, 1) := by decide +kernel
theorem dX6_lots_37 : decode cX6_lots 37 = .ok (.iload_n 2, 1) := by decide +kernel
theorem dX6_lots_38 : decode cX6_lots 38 = .ok (.istore 5, 2) := by decide +kernel
theorem dX6_lots_40 : decode cX6_lots 40 = .ok (.iconst 0, 1) := by decide +kernel
theorem dX6_lots_41 : decode cX6_lots 41 = .ok (.istore 6, 2) := by decide +kernel
theorem dX6_lots_43 : decode cX6_lots 43 = .ok (.iconst 0, 1) := by decide +kernel
theorem dX6_lots_44 : decode cX6_lots 44 = .ok (.istore 7, 2) := by decide +kernel
theorem dX6_lots_46 : decode cX6_lots 46 = .ok (.iconst 0, 1) := by decide +kernel
theorem dX6_lots_47 : decode cX6_lots 47 = .ok (.istore 8, 2) := by decide +kernel
theorem dX6_lots_49 : decode cX6_lots 49 = .ok (.iload 8, 2) := by decide +kernel
theorem dX6_lots_51 : decode cX6_lots 51 = .ok (.iload_n 1, 1) := by decide +kernel
theorem dX6_lots_52 : decode cX6_lots 52 = .ok (.if_icmp .ge 94, 3) := by decide +kernel
theorem dX6_lots_55 : decode cX6_lots 55 = .ok (.iload 5, 2) := by decide +kernel
theorem dX6_lots_57 : decode cX6_lots 57 = .ok (.ldc 247, 2) := by decide +kernel
theorem dX6_lots_59 : decode cX6_lots 59 = .ok (.imul, 1) := by decide +kernel
theorem dX6_lots_60 : decode cX6_lots 60 = .ok (.ldc 248, 2) := by decide +kernel
theorem dX6_lots_62 : decode cX6_lots 62 = .ok (.iadd, 1) := by decide +kernel
theorem dX6_lots_63 : decode cX6_lots 63 = .ok (.istore 5, 2) := by decide +kernel
theorem dX6_lots_65 : decode cX6_lots 65 = .ok (.aload_n 0, 1) := by decide +kernel
theorem dX6_lots_66 : decode cX6_lots 66 = .ok (.getfield 16, 3) := by decide +kernel
theorem dX6_lots_69 : decode cX6_lots 69 = .ok (.aload_n 0, 1) := by decide +kernel
theorem dX6_lots_70 : decode cX6_lots 70 = .ok (.getfield 10, 3) := by decide +kernel
theorem dX6_lots_73 : decode cX6_lots 73 = .ok (.invokevirtual 195, 3) := by decide +kernel
theorem dX6_lots_76 : decode cX6_lots 76 = .ok (.aload_n 0, 1) := by decide +kernel
theorem dX6_lots_77 : decode cX6_lots 77 = .ok (.getfield 16, 3) := by decide +kernel
theorem dX6_lots_80 : decode cX6_lots 80 = .ok (.iload 5, 2) := by decide +kernel
theorem dX6_lots_82 : decode cX6_lots 82 = .ok (.ldc 251, 2) := by decide +kernel
theorem dX6_lots_84 : decode cX6_lots 84 = .ok (.iand, 1) := by decide +kernel
theorem dX6_lots_85 : decode cX6_lots 85 = .ok (.sipush 256, 3) := by decide +kernel
theorem dX6_lots_88 : decode cX6_lots 88 = .ok (.idiv, 1) := by decide +kernel
theorem dX6_lots_89 : decode cX6_lots 89 = .ok (.bipush 10, 2) := by decide +kernel
theorem dX6_lots_91 : decode cX6_lots 91 = .ok (.irem, 1) := by decide +kernel
theorem dX6_lots_92 : decode cX6_lots 92 = .ok (.putfield 145, 3) := by decide +kernel
theorem dX6_lots_95 : decode cX6_lots 95 = .ok (.aload_n 0, 1) := by decide +kernel
theorem dX6_lots_96 : decode cX6_lots 96 = .ok (.getfield 16, 3) := by decide +kernel
theorem dX6_lots_99 : decode cX6_lots 99 = .ok (.bipush 10, 2) := by decide +kernel
theorem dX6_lots_101 : decode cX6_lots 101 = .ok (.invokevirtual 169, 3) := by decide +kernel
theorem dX6_lots_104 : decode cX6_lots 104 = .ok (.iload 6, 2) := by decide +kernel
theorem dX6_lots_106 : decode cX6_lots 106 = .ok (.aload_n 0, 1) := by decide +kernel
theorem dX6_lots_107 : decode cX6_lots 107 = .ok (.getfield 16, 3) := by decide +kernel
theorem dX6_lots_110 : decode cX6_lots 110 = .ok (.invokevirtual 172, 3) := by decide +kernel
theorem dX6_lots_113 : decode cX6_lots 113 = .ok (.ifCond .le 7, 3) := by decide +kernel
theorem dX6_lots_116 : decode cX6_lots 116 = .ok (.iconst 1, 1) := by decide +kernel
theorem dX6_lots_117 : decode cX6_lots 117 = .ok (.goto 4, 3) := by decide +kernel
theorem dX6_lots_120 : decode cX6_lots 120 = .ok (.iconst 0, 1) := by decide +kernel
theorem dX6_lots_121 : decode cX6_lots 121 = .ok (.iadd, 1) := by decide +kernel
theorem dX6_lots_122 : decode cX6_lots 122 = .ok (.istore 6, 2) := by decide +kernel
theorem dX6_lots_124 : decode cX6_lots 124 = .ok (.iload 7, 2) := by decide +kernel
theorem dX6_lots_126 : decode cX6_lots 126 = .ok (.aload_n 0, 1) := by decide +kernel
theorem dX6_lots_127 : decode cX6_lots 127 = .ok (.iconst 0, 1) := by decide +kernel
theorem dX6_lots_128 : decode cX6_lots 128 = .ok (.invokevirtual 252, 3) := by decide +kernel
theorem dX6_lots_131 : decode cX6_lots 131 = .ok (.aload_n 0, 1) := by decide +kernel
theorem dX6_lots_132 : decode cX6_lots 132 = .ok (.iconst 1, 1) := by decide +kernel
theorem dX6_lots_133 : decode cX6_lots 133 = .ok (.invokevirtual 252, 3) := by decide +kernel
theorem dX6_lots_136 : decode cX6_lots 136 = .ok (.iadd, 1) := by decide +kernel
theorem dX6_lots_137 : decode cX6_lots 137 = .ok (.iadd, 1) := by decide +kernel
theorem dX6_lots_138 : decode cX6_lots 138 = .ok (.istore 7, 2) := by decide +kernel
theorem dX6_lots_140 : decode cX6_lots 140 = .ok (.iinc 8 1, 3) := by decide +kernel
theorem dX6_lots_143 : decode cX6_lots 143 = .ok (.goto (-94), 3) := by decide +kernel
theorem dX6_lots_146 : decode cX6_lots 146 = .ok (.iload_n 3, 1) := by decide +kernel
theorem dX6_lots_147 : decode cX6_lots 147 = .ok (.ifCond .ne 8, 3) := by decide +kernel
theorem dX6_lots_150 : decode cX6_lots 150 = .ok (.iload 6, 2) := by decide +kernel
theorem dX6_lots_152 : decode cX6_lots 152 = .ok (.goto 5, 3) := by decide +kernel
theorem dX6_lots_155 : decode cX6_lots 155 = .ok (.iload 7, 2) := by decide +kernel
theorem dX6_lots_157 : decode cX6_lots 157 = .ok (.ireturn, 1) := by decide +kernel
theorem dX6_image_0 : decode cX6_image 0 = .ok (.aload_n 0, 1) := by decide +kernel
theorem dX6_image_1 : decode cX6_image 1 = .ok (.getfield 19, 3) := by decide +kernel
theorem dX6_image_4 : decode cX6_image 4 = .ok (.aload_n 0, 1) := by decide +kernel
theorem dX6_image_5 : decode cX6_image 5 = .ok (.getfield 10, 3) := by decide +kernel
theorem dX6_image_8 : decode cX6_image 8 = .ok (.invokevirtual 195, 3) := by decide +kernel
theorem dX6_image_11 : decode cX6_image 11 = .ok (.aload_n 0, 1) := by decide +kernel
theorem dX6_image_12 : decode cX6_image 12 = .ok (.iconst 1, 1) := by decide +kernel
theorem dX6_image_13 : decode cX6_image 13 = .ok (.putfield 22, 3) := by decide +kernel
theorem dX6_image_16 : decode cX6_image 16 = .ok (.aload_n 0, 1) := by decide +kernel
theorem dX6_image_17 : decode cX6_image 17 = .ok (.getfield 10, 3) := by decide +kernel
theorem dX6_image_20 : decode cX6_image 20 = .ok (.getfield 116, 3) := by decide +kernel
theorem dX6_image_23 : decode cX6_image 23 = .ok (.ireturn, 1) := by decide +kernel
theorem dX6_on_0 : decode cX6_on 0 = .ok (.aload_n 0, 1) := by decide +kernel
theorem dX6_on_1 : decode cX6_on 1 = .ok (.getfield 22, 3) := by decide +kernel
theorem dX6_on_4 : decode cX6_on 4 = .ok (.ifCond .ne 10, 3) := by decide +kernel
theorem dX6_on_7 : decode cX6_on 7 = .ok (.aload_n 0, 1) := by decide +kernel
theorem dX6_on_8 : decode cX6_on 8 = .ok (.bipush (-3), 2) := by decide +kernel
theorem dX6_on_10 : decode cX6_on 10 = .ok (.invokevirtual 62, 3) := by decide +kernel
theorem dX6_on_13 : decode cX6_on 13 = .ok (.ireturn, 1) := by decide +kernel
theorem dX6_on_14 : decode cX6_on 14 = .ok (.aload_n 0, 1) := by decide +kernel
theorem dX6_on_15 : decode cX6_on 15 = .ok (.getfield 10, 3) := by decide +kernel
theorem dX6_on_18 : decode cX6_on 18 = .ok (.aload_n 0, 1) := by decide +kernel
theorem dX6_on_19 : decode cX6_on 19 = .ok (.getfield 19, 3) := by decide +kernel
theorem dX6_on_22 : decode cX6_on 22 = .ok (.invokevirtual 195, 3) := by decide +kernel
theorem dX6_on_25 : decode cX6_on 25 = .ok (.aload_n 0, 1) := by decide +kernel
theorem dX6_on_26 : decode cX6_on 26 = .ok (.getfield 10, 3) := by decide +kernel
theorem dX6_on_29 : decode cX6_on 29 = .ok (.getfield 116, 3) := by decide +kernel
theorem dX6_on_32 : decode cX6_on 32 = .ok (.ireturn, 1) := by decide +kernel
theorem dX6_count_0 : decode cX6_count 0 = .ok (.iload_n 1, 1) := by decide +kernel
theorem dX6_count_1 : decode cX6_count 1 = .ok (.tableswitch 157 0 8 #[51, 59, 67, 101, 117, 125, 133, 141, 149], 51) := by decide +kernel
theorem dX6_count_52 : decode cX6_count 52 = .ok (.aload_n 0, 1) := by decide +kernel
theorem dX6_count_53 : decode cX6_count 53 = .ok (.getfield 10, 3) := by decide +kernel
theorem dX6_count_56 : decode cX6_count 56 = .ok (.getfield 116, 3) := by decide +kernel
theorem dX6_count_59 : decode cX6_count 59 = .ok (.ireturn, 1) := by decide +kernel
theorem dX6_count_60 : decode cX6_count 60 = .ok (.aload_n 0, 1) := by decide +kernel
theorem dX6_count_61 : decode cX6_count 61 = .ok (.getfield 10, 3) := by decide +kernel
theorem dX6_count_64 : decode cX6_count 64 = .ok (.invokevirtual 172, 3) := by decide +kernel
theorem dX6_count_67 : decode cX6_count 67 = .ok (.ireturn, 1) := by decide +kernel
theorem dX6_count_68 : decode cX6_count 68 = .ok (.aload_n 0, 1) := by decide +kernel
theorem dX6_count_69 : decode cX6_count 69 = .ok (.getfield 10, 3) := by decide +kernel
theorem dX6_count_72 : decode cX6_count 72 = .ok (.iconst 0, 1) := by decide +kernel
theorem dX6_count_73 : decode cX6_count 73 = .ok (.invokevirtual 132, 3) := by decide +kernel
theorem dX6_count_76 : decode cX6_count 76 = .ok (.ifCond .eq 7, 3) := by decide +kernel
theorem dX6_count_79 : decode cX6_count 79 = .ok (.iconst 1, 1) := by decide +kernel
theorem dX6_count_80 : decode cX6_count 80 = .ok (.goto 4, 3) := by decide +kernel
theorem dX6_count_83 : decode cX6_count 83 = .ok (.iconst 0, 1) := by decide +kernel
theorem dX6_count_84 : decode cX6_count 84 = .ok (.aload_n 0, 1) := by decide +kernel
theorem dX6_count_85 : decode cX6_count 85 = .ok (.getfield 10, 3) := by decide +kernel
theorem dX6_count_88 : decode cX6_count 88 = .ok (.iconst 1, 1) := by decide +kernel
theorem dX6_count_89 : decode cX6_count 89 = .ok (.invokevirtual 132, 3) := by decide +kernel
theorem dX6_count_92 : decode cX6_count 92 = .ok (.ifCond .eq 7, 3) := by decide +kernel
theorem dX6_count_95 : decode cX6_count 95 = .ok (.iconst 1, 1) := by decide +kernel
theorem dX6_count_96 : decode cX6_count 96 = .ok (.goto 4, 3) := by decide +kernel
theorem dX6_count_99 : decode cX6_count 99 = .ok (.iconst 0, 1) := by decide +kernel
theorem dX6_count_100 : decode cX6_count 100 = .ok (.iadd, 1) := by decide +kernel
theorem dX6_count_101 : decode cX6_count 101 = .ok (.ireturn, 1) := by decide +kernel
theorem dX6_count_102 : decode cX6_count 102 = .ok (.aload_n 0, 1) := by decide +kernel
theorem dX6_count_103 : decode cX6_count 103 = .ok (.getfield 10, 3) := by decide +kernel
theorem dX6_count_106 : decode cX6_count 106 = .ok (.getfield 139, 3) := by decide +kernel
theorem dX6_count_109 : decode cX6_count 109 = .ok (.ifCond .eq 7, 3) := by decide +kernel
theorem dX6_count_112 : decode cX6_count 112 = .ok (.iconst 1, 1) := by decide +kernel
theorem dX6_count_113 : decode cX6_count 113 = .ok (.goto 4, 3) := by decide +kernel
theorem dX6_count_116 : decode cX6_count 116 = .ok (.iconst 0, 1) := by decide +kernel
theorem dX6_count_117 : decode cX6_count 117 = .ok (.ireturn, 1) := by decide +kernel
theorem dX6_count_118 : decode cX6_count 118 = .ok (.aload_n 0, 1) := by decide +kernel
theorem dX6_count_119 : decode cX6_count 119 = .ok (.getfield 10, 3) := by decide +kernel
theorem dX6_count_122 : decode cX6_count 122 = .ok (.getfield 142, 3) := by decide +kernel
theorem dX6_count_125 : decode cX6_count 125 = .ok (.ireturn, 1) := by decide +kernel
theorem dX6_count_126 : decode cX6_count 126 = .ok (.aload_n 0, 1) := by decide +kernel
theorem dX6_count_127 : decode cX6_count 127 = .ok (.getfield 10, 3) := by decide +kernel
theorem dX6_count_130 : decode cX6_count 130 = .ok (.getfield 145, 3) := by decide +kernel
theorem dX6_count_133 : decode cX6_count 133 = .ok (.ireturn, 1) := by decide +kernel
theorem dX6_count_134 : decode cX6_count 134 = .ok (.aload_n 0, 1) := by decide +kernel
theorem dX6_count_135 : decode cX6_count 135 = .ok (.getfield 10, 3) := by decide +kernel
theorem dX6_count_138 : decode cX6_count 138 = .ok (.invokevirtual 255, 3) := by decide +kernel
theorem dX6_count_141 : decode cX6_count 141 = .ok (.ireturn, 1) := by decide +kernel
theorem dX6_count_142 : decode cX6_count 142 = .ok (.aload_n 0, 1) := by decide +kernel
theorem dX6_count_143 : decode cX6_count 143 = .ok (.getfield 50, 3) := by decide +kernel
theorem dX6_count_146 : decode cX6_count 146 = .ok (.getfield 241, 3) := by decide +kernel
theorem dX6_count_149 : decode cX6_count 149 = .ok (.ireturn, 1) := by decide +kernel
theorem dX6_count_150 : decode cX6_count 150 = .ok (.aload_n 0, 1) := by decide +kernel
theorem dX6_count_151 : decode cX6_count 151 = .ok (.getfield 43, 3) := by decide +kernel
theorem dX6_count_154 : decode cX6_count 154 = .ok (.getfield 74, 3) := by decide +kernel
theorem dX6_count_157 : decode cX6_count 157 = .ok (.ireturn, 1) := by decide +kernel
theorem dX6_count_158 : decode cX6_count 158 = .ok (.aload_n 0, 1) := by decide +kernel
theorem dX6_count_159 : decode cX6_count 159 = .ok (.iload_n 1, 1) := by decide +kernel
theorem dX6_count_160 : decode cX6_count 160 = .ok (.bipush 10, 2) := by decide +kernel
theorem dX6_count_162 : decode cX6_count 162 = .ok (.isub, 1) := by decide +kernel
theorem dX6_count_163 : decode cX6_count 163 = .ok (.invokevirtual 258, 3) := by decide +kernel
theorem dX6_count_166 : decode cX6_count 166 = .ok (.ireturn, 1) := by decide +kernel
theorem dX6_isEnd_0 : decode cX6_isEnd 0 = .ok (.iload_n 0, 1) := by decide +kernel
theorem dX6_isEnd_1 : decode cX6_isEnd 1 = .ok (.ifCond .eq 8, 3) := by decide +kernel
theorem dX6_isEnd_4 : decode cX6_isEnd 4 = .ok (.iload_n 0, 1) := by decide +kernel
theorem dX6_isEnd_5 : decode cX6_isEnd 5 = .ok (.iconst 1, 1) := by decide +kernel
theorem dX6_isEnd_6 : decode cX6_isEnd 6 = .ok (.if_icmp .ne 7, 3) := by decide +kernel
theorem dX6_isEnd_9 : decode cX6_isEnd 9 = .ok (.iconst 1, 1) := by decide +kernel
theorem dX6_isEnd_10 : decode cX6_isEnd 10 = .ok (.goto 4, 3) := by decide +kernel
theorem dX6_isEnd_13 : decode cX6_isEnd 13 = .ok (.iconst 0, 1) := by decide +kernel
theorem dX6_isEnd_14 : decode cX6_isEnd 14 = .ok (.ireturn, 1) := by decide +kernel
theorem dX6_outside_0 : decode cX6_outside 0 = .ok (.iload_n 0, 1) := by decide +kernel
theorem dX6_outside_1 : decode cX6_outside 1 = .ok (.iload_n 1, 1) := by decide +kernel
theorem dX6_outside_2 : decode cX6_outside 2 = .ok (.if_icmp .ge 6, 3) := by decide +kernel
theorem dX6_outside_5 : decode cX6_outside 5 = .ok (.bipush (-4), 2) := by decide +kernel
theorem dX6_outside_7 : decode cX6_outside 7 = .ok (.ireturn, 1) := by decide +kernel
theorem dX6_outside_8 : decode cX6_outside 8 = .ok (.iload_n 0, 1) := by decide +kernel
theorem dX6_outside_9 : decode cX6_outside 9 = .ok (.iload_n 2, 1) := by decide +kernel
theorem dX6_outside_10 : decode cX6_outside 10 = .ok (.if_icmp .le 8, 3) := by decide +kernel
theorem dX6_outside_13 : decode cX6_outside 13 = .ok (.bipush (-6), 2) := by decide +kernel
theorem dX6_outside_15 : decode cX6_outside 15 = .ok (.goto 4, 3) := by decide +kernel
theorem dX6_outside_18 : decode cX6_outside 18 = .ok (.iconst 0, 1) := by decide +kernel
theorem dX6_outside_19 : decode cX6_outside 19 = .ok (.ireturn, 1) := by decide +kernel
theorem dX6_refuse_0 : decode cX6_refuse 0 = .ok (.iload_n 1, 1) := by decide +kernel
theorem dX6_refuse_1 : decode cX6_refuse 1 = .ok (.ineg, 1) := by decide +kernel
theorem dX6_refuse_2 : decode cX6_refuse 2 = .ok (.istore_n 2, 1) := by decide +kernel
theorem dX6_refuse_3 : decode cX6_refuse 3 = .ok (.iload_n 2, 1) := by decide +kernel
theorem dX6_refuse_4 : decode cX6_refuse 4 = .ok (.ifCond .lt 22, 3) := by decide +kernel
theorem dX6_refuse_7 : decode cX6_refuse 7 = .ok (.iload_n 2, 1) := by decide +kernel
theorem dX6_refuse_8 : decode cX6_refuse 8 = .ok (.aload_n 0, 1) := by decide +kernel
theorem dX6_refuse_9 : decode cX6_refuse 9 = .ok (.getfield 54, 3) := by decide +kernel
theorem dX6_refuse_12 : decode cX6_refuse 12 = .ok (.arraylength, 1) := by decide +kernel
theorem dX6_refuse_13 : decode cX6_refuse 13 = .ok (.if_icmp .ge 13, 3) := by decide +kernel
theorem dX6_refuse_16 : decode cX6_refuse 16 = .ok (.aload_n 0, 1) := by decide +kernel
theorem dX6_refuse_17 : decode cX6_refuse 17 = .ok (.getfield 54, 3) := by decide +kernel
theorem dX6_refuse_20 : decode cX6_refuse 20 = .ok (.iload_n 2, 1) := by decide +kernel
theorem dX6_refuse_21 : decode cX6_refuse 21 = .ok (.dup2, 1) := by decide +kernel
theorem dX6_refuse_22 : decode cX6_refuse 22 = .ok (.iaload, 1) := by decide +kernel
theorem dX6_refuse_23 : decode cX6_refuse 23 = .ok (.iconst 1, 1) := by decide +kernel
theorem dX6_refuse_24 : decode cX6_refuse 24 = .ok (.iadd, 1) := by decide +kernel
theorem dX6_refuse_25 : decode cX6_refuse 25 = .ok (.iastore, 1) := by decide +kernel
theorem dX6_refuse_26 : decode cX6_refuse 26 = .ok (.iload_n 1, 1) := by decide +kernel
theorem dX6_refuse_27 : decode cX6_refuse 27 = .ok (.ireturn, 1) := by decide +kernel
theorem dX6_refuseAsTold_0 : decode cX6_refuseAsTold 0 = .ok (.ldc_w 261, 3) := by decide +kernel
theorem dX6_refuseAsTold_3 : decode cX6_refuseAsTold 3 = .ok (.aload_n 0, 1) := by decide +kernel
theorem dX6_refuseAsTold_4 : decode cX6_refuseAsTold 4 = .ok (.iload_n 1, 1) := by decide +kernel
theorem dX6_refuseAsTold_5 : decode cX6_refuseAsTold 5 = .ok (.invokevirtual 62, 3) := by decide +kernel
theorem dX6_refuseAsTold_8 : decode cX6_refuseAsTold 8 = .ok (.isub, 1) := by decide +kernel
theorem dX6_refuseAsTold_9 : decode cX6_refuseAsTold 9 = .ok (.ireturn, 1) := by decide +kernel
theorem dX6_refusalsAt_0 : decode cX6_refusalsAt 0 = .ok (.iload_n 1, 1) := by decide +kernel
theorem dX6_refusalsAt_1 : decode cX6_refusalsAt 1 = .ok (.iconst 1, 1) := by decide +kernel
theorem dX6_refusalsAt_2 : decode cX6_refusalsAt 2 = .ok (.if_icmp .lt 21, 3) := by decide +kernel
theorem dX6_refusalsAt_5 : decode cX6_refusalsAt 5 = .ok (.iload_n 1, 1) := by decide +kernel
theorem dX6_refusalsAt_6 : decode cX6_refusalsAt 6 = .ok (.aload_n 0, 1) := by decide +kernel
theorem dX6_refusalsAt_7 : decode cX6_refusalsAt 7 = .ok (.getfield 54, 3) := by decide +kernel
theorem dX6_refusalsAt_10 : decode cX6_refusalsAt 10 = .ok (.arraylength, 1) := by decide +kernel
theorem dX6_refusalsAt_11 : decode cX6_refusalsAt 11 = .ok (.if_icmp .ge 12, 3) := by decide +kernel
theorem dX6_refusalsAt_14 : decode cX6_refusalsAt 14 = .ok (.aload_n 0, 1) := by decide +kernel
theorem dX6_refusalsAt_15 : decode cX6_refusalsAt 15 = .ok (.getfield 54, 3) := by decide +kernel
theorem dX6_refusalsAt_18 : decode cX6_refusalsAt 18 = .ok (.iload_n 1, 1) := by decide +kernel
theorem dX6_refusalsAt_19 : decode cX6_refusalsAt 19 = .ok (.iaload, 1) := by decide +kernel
theorem dX6_refusalsAt_20 : decode cX6_refusalsAt 20 = .ok (.goto 5, 3) := by decide +kernel
theorem dX6_refusalsAt_23 : decode cX6_refusalsAt 23 = .ok (.bipush (-9), 2) := by decide +kernel
theorem dX6_refusalsAt_25 : decode cX6_refusalsAt 25 = .ok (.ireturn, 1) := by decide +kernel
theorem dX6_statementsCome_0 : decode cX6_statementsCome 0 = .ok (.aload_n 0, 1) := by decide +kernel
theorem dX6_statementsCome_1 : decode cX6_statementsCome 1 = .ok (.getfield 16, 3) := by decide +kernel
theorem dX6_statementsCome_4 : decode cX6_statementsCome 4 = .ok (.aload_n 0, 1) := by decide +kernel
theorem dX6_statementsCome_5 : decode cX6_statementsCome 5 = .ok (.getfield 10, 3) := by decide +kernel
theorem dX6_statementsCome_8 : decode cX6_statementsCome 8 = .ok (.invokevirtual 195, 3) := by decide +kernel
theorem dX6_statementsCome_11 : decode cX6_statementsCome 11 = .ok (.iconst 0, 1) := by decide +kernel
theorem dX6_statementsCome_12 : decode cX6_statementsCome 12 = .ok (.istore_n 1, 1) := by decide +kernel
theorem dX6_statementsCome_13 : decode cX6_statementsCome 13 = .ok (.iconst 0, 1) := by decide +kernel
theorem dX6_statementsCome_14 : decode cX6_statementsCome 14 = .ok (.istore_n 2, 1) := by decide +kernel
theorem dX6_statementsCome_15 : decode cX6_statementsCome 15 = .ok (.iload_n 2, 1) := by decide +kernel
theorem dX6_statementsCome_16 : decode cX6_statementsCome 16 = .ok (.aload_n 0, 1) := by decide +kernel
theorem dX6_statementsCome_17 : decode cX6_statementsCome 17 = .ok (.getfield 43, 3) := by decide +kernel
theorem dX6_statementsCome_20 : decode cX6_statementsCome 20 = .ok (.getfield 74, 3) := by decide +kernel
theorem dX6_statementsCome_23 : decode cX6_statementsCome 23 = .ok (.if_icmp .ge 41, 3) := by decide +kernel
theorem dX6_statementsCome_26 : decode cX6_statementsCome 26 = .ok (.aload_n 0, 1) := by decide +kernel
theorem dX6_statementsCome_27 : decode cX6_statementsCome 27 = .ok (.iload_n 2, 1) := by decide +kernel
theorem dX6_statementsCome_28 : decode cX6_statementsCome 28 = .ok (.invokevirtual 262, 3) := by decide +kernel
theorem dX6_statementsCome_31 : decode cX6_statementsCome 31 = .ok (.ifCond .ne 9, 3) := by decide +kernel
theorem dX6_statementsCome_34 : decode cX6_statementsCome 34 = .ok (.sipush (-2000), 3) := by decide +kernel
theorem dX6_statementsCome_37 : decode cX6_statementsCome 37 = .ok (.iload_n 2, 1) := by decide +kernel
theorem dX6_statementsCome_38 : decode cX6_statementsCome 38 = .ok (.isub, 1) := by decide +kernel
theorem dX6_statementsCome_39 : decode cX6_statementsCome 39 = .ok (.ireturn, 1) := by decide +kernel
theorem dX6_statementsCome_40 : decode cX6_statementsCome 40 = .ok (.aload_n 0, 1) := by decide +kernel
theorem dX6_statementsCome_41 : decode cX6_statementsCome 41 = .ok (.iload_n 2, 1) := by decide +kernel
theorem dX6_statementsCome_42 : decode cX6_statementsCome 42 = .ok (.invokevirtual 265, 3) := by decide +kernel
theorem dX6_statementsCome_45 : decode cX6_statementsCome 45 = .ok (.iinc 1 1, 3) := by decide +kernel
theorem dX6_statementsCome_48 : decode cX6_statementsCome 48 = .ok (.iload_n 2, 1) := by decide +kernel
theorem dX6_statementsCome_49 : decode cX6_statementsCome 49 = .ok (.iconst 1, 1) := by decide +kernel
theorem dX6_statementsCome_50 : decode cX6_statementsCome 50 = .ok (.aload_n 0, 1) := by decide +kernel
theorem dX6_statementsCome_51 : decode cX6_statementsCome 51 = .ok (.getfield 43, 3) := by decide +kernel
theorem dX6_statementsCome_54 : decode cX6_statementsCome 54 = .ok (.iload_n 2, 1) := by decide +kernel
theorem dX6_statementsCome_55 : decode cX6_statementsCome 55 = .ok (.invokevirtual 268, 3) := by decide +kernel
theorem dX6_statementsCome_58 : decode cX6_statementsCome 58 = .ok (.iadd, 1) := by decide +kernel
theorem dX6_statementsCome_59 : decode cX6_statementsCome 59 = .ok (.iadd, 1) := by decide +kernel
theorem dX6_statementsCome_60 : decode cX6_statementsCome 60 = .ok (.istore_n 2, 1) := by decide +kernel
theorem dX6_statementsCome_61 : decode cX6_statementsCome 61 = .ok (.goto (-46), 3) := by decide +kernel
theorem dX6_statementsCome_64 : decode cX6_statementsCome 64 = .ok (.aload_n 0, 1) := by decide +kernel
theorem dX6_statementsCome_65 : decode cX6_statementsCome 65 = .ok (.getfield 10, 3) := by decide +kernel
theorem dX6_statementsCome_68 : decode cX6_statementsCome 68 = .ok (.aload_n 0, 1) := by decide +kernel
theorem dX6_statementsCome_69 : decode cX6_statementsCome 69 = .ok (.getfield 16, 3) := by decide +kernel
theorem dX6_statementsCome_72 : decode cX6_statementsCome 72 = .ok (.invokevirtual 195, 3) := by decide +kernel
theorem dX6_statementsCome_75 : decode cX6_statementsCome 75 = .ok (.iload_n 1, 1) := by decide +kernel
theorem dX6_statementsCome_76 : decode cX6_statementsCome 76 = .ok (.ireturn, 1) := by decide +kernel
theorem dX6_isAsItMustBe_0 : decode cX6_isAsItMustBe 0 = .ok (.aload_n 0, 1) := by decide +kernel
theorem dX6_isAsItMustBe_1 : decode cX6_isAsItMustBe 1 = .ok (.getfield 43, 3) := by decide +kernel
theorem dX6_isAsItMustBe_4 : decode cX6_isAsItMustBe 4 = .ok (.iload_n 1, 1) := by decide +kernel
theorem dX6_isAsItMustBe_5 : decode cX6_isAsItMustBe 5 = .ok (.invokevirtual 271, 3) := by decide +kernel
theorem dX6_isAsItMustBe_8 : decode cX6_isAsItMustBe 8 = .ok (.tableswitch 236 101 119 #[135, 236, 236, 236, 117, 236, 177, 236, 236, 92, 236, 191, 236, 236, 236, 236, 236, 236, 211], 92) := by decide +kernel
theorem dX6_isAsItMustBe_100 : decode cX6_isAsItMustBe 100 = .ok (.aload_n 0, 1) := by decide +kernel
theorem dX6_isAsItMustBe_101 : decode cX6_isAsItMustBe 101 = .ok (.getfield 43, 3) := by decide +kernel
theorem dX6_isAsItMustBe_104 : decode cX6_isAsItMustBe 104 = .ok (.iload_n 1, 1) := by decide +kernel
theorem dX6_isAsItMustBe_105 : decode cX6_isAsItMustBe 105 = .ok (.iconst 1, 1) := by decide +kernel
theorem dX6_isAsItMustBe_106 : decode cX6_isAsItMustBe 106 = .ok (.iadd, 1) := by decide +kernel
theorem dX6_isAsItMustBe_107 : decode cX6_isAsItMustBe 107 = .ok (.invokevirtual 274, 3) := by decide +kernel
theorem dX6_isAsItMustBe_110 : decode cX6_isAsItMustBe 110 = .ok (.iconst 2, 1) := by decide +kernel
theorem dX6_isAsItMustBe_111 : decode cX6_isAsItMustBe 111 = .ok (.bipush 12, 2) := by decide +kernel
theorem dX6_isAsItMustBe_113 : decode cX6_isAsItMustBe 113 = .ok (.invokestatic 58, 3) := by decide +kernel
theorem dX6_isAsItMustBe_116 : decode cX6_isAsItMustBe 116 = .ok (.ifCond .ne 7, 3) := by decide +kernel
theorem dX6_isAsItMustBe_119 : decode cX6_isAsItMustBe 119 = .ok (.iconst 1, 1) := by decide +kernel
theorem dX6_isAsItMustBe_120 : decode cX6_isAsItMustBe 120 = .ok (.goto 4, 3) := by decide +kernel
theorem dX6_isAsItMustBe_123 : decode cX6_isAsItMustBe 123 = .ok (.iconst 0, 1) := by decide +kernel
theorem dX6_isAsItMustBe_124 : decode cX6_isAsItMustBe 124 = .ok (.ireturn, 1) := by decide +kernel
theorem dX6_isAsItMustBe_125 : decode cX6_isAsItMustBe 125 = .ok (.aload_n 0, 1) := by decide +kernel
theorem dX6_isAsItMustBe_126 : decode cX6_isAsItMustBe 126 = .ok (.getfield 16, 3) := by decide +kernel
theorem dX6_isAsItMustBe_129 : decode cX6_isAsItMustBe 129 = .ok (.aload_n 0, 1) := by decide +kernel
theorem dX6_isAsItMustBe_130 : decode cX6_isAsItMustBe 130 = .ok (.getfield 43, 3) := by decide +kernel
theorem dX6_isAsItMustBe_133 : decode cX6_isAsItMustBe 133 = .ok (.iload_n 1, 1) := by decide +kernel
theorem dX6_isAsItMustBe_134 : decode cX6_isAsItMustBe 134 = .ok (.iconst 2, 1) := by decide +kernel
theorem dX6_isAsItMustBe_135 : decode cX6_isAsItMustBe 135 = .ok (.iadd, 1) := by decide +kernel
theorem dX6_isAsItMustBe_136 : decode cX6_isAsItMustBe 136 = .ok (.invokevirtual 274, 3) := by decide +kernel
theorem dX6_isAsItMustBe_139 : decode cX6_isAsItMustBe 139 = .ok (.invokevirtual 88, 3) := by decide +kernel
theorem dX6_isAsItMustBe_142 : decode cX6_isAsItMustBe 142 = .ok (.ireturn, 1) := by decide +kernel
theorem dX6_isAsItMustBe_143 : decode cX6_isAsItMustBe 143 = .ok (.aload_n 0, 1) := by decide +kernel
theorem dX6_isAsItMustBe_144 : decode cX6_isAsItMustBe 144 = .ok (.getfield 43, 3) := by decide +kernel
theorem dX6_isAsItMustBe_147 : decode cX6_isAsItMustBe 147 = .ok (.iload_n 1, 1) := by decide +kernel
theorem dX6_isAsItMustBe_148 : decode cX6_isAsItMustBe 148 = .ok (.iconst 1, 1) := by decide +kernel
theorem dX6_isAsItMustBe_149 : decode cX6_isAsItMustBe 149 = .ok (.iadd, 1) := by decide +kernel
theorem dX6_isAsItMustBe_150 : decode cX6_isAsItMustBe 150 = .ok (.invokevirtual 277, 3) := by decide +kernel
theorem dX6_isAsItMustBe_153 : decode cX6_isAsItMustBe 153 = .ok (.invokestatic 119, 3) := by decide +kernel
theorem dX6_isAsItMustBe_156 : decode cX6_isAsItMustBe 156 = .ok (.ifCond .eq 27, 3) := by decide +kernel
theorem dX6_isAsItMustBe_159 : decode cX6_isAsItMustBe 159 = .ok (.aload_n 0, 1) := by decide +kernel
theorem dX6_isAsItMustBe_160 : decode cX6_isAsItMustBe 160 = .ok (.getfield 43, 3) := by decide +kernel
theorem dX6_isAsItMustBe_163 : decode cX6_isAsItMustBe 163 = .ok (.iload_n 1, 1) := by decide +kernel
theorem dX6_isAsItMustBe_164 : decode cX6_isAsItMustBe 164 = .ok (.iconst 2, 1) := by decide +kernel
theorem dX6_isAsItMustBe_165 : decode cX6_isAsItMustBe 165 = .ok (.iadd, 1) := by decide +kernel
theorem dX6_isAsItMustBe_166 : decode cX6_isAsItMustBe 166 = .ok (.invokevirtual 280, 3) := by decide +kernel
theorem dX6_isAsItMustBe_169 : decode cX6_isAsItMustBe 169 = .ok (.bipush (-40), 2) := by decide +kernel
theorem dX6_isAsItMustBe_171 : decode cX6_isAsItMustBe 171 = .ok (.bipush 24, 2) := by decide +kernel
theorem dX6_isAsItMustBe_173 : decode cX6_isAsItMustBe 173 = .ok (.invokestatic 58, 3) := by decide +kernel
theorem dX6_isAsItMustBe_176 : decode cX6_isAsItMustBe 176 = .ok (.ifCond .ne 7, 3) := by decide +kernel
theorem dX6_isAsItMustBe_179 : decode cX6_isAsItMustBe 179 = .ok (.iconst 1, 1) := by decide +kernel
theorem dX6_isAsItMustBe_180 : decode cX6_isAsItMustBe 180 = .ok (.goto 4, 3) := by decide +kernel
theorem dX6_isAsItMustBe_183 : decode cX6_isAsItMustBe 183 = .ok (.iconst 0, 1) := by decide +kernel
theorem dX6_isAsItMustBe_184 : decode cX6_isAsItMustBe 184 = .ok (.ireturn, 1) := by decide +kernel
theorem dX6_isAsItMustBe_185 : decode cX6_isAsItMustBe 185 = .ok (.aload_n 0, 1) := by decide +kernel
theorem dX6_isAsItMustBe_186 : decode cX6_isAsItMustBe 186 = .ok (.getfield 43, 3) := by decide +kernel
theorem dX6_isAsItMustBe_189 : decode cX6_isAsItMustBe 189 = .ok (.iload_n 1, 1) := by decide +kernel
theorem dX6_isAsItMustBe_190 : decode cX6_isAsItMustBe 190 = .ok (.iconst 1, 1) := by decide +kernel
theorem dX6_isAsItMustBe_191 : decode cX6_isAsItMustBe 191 = .ok (.iadd, 1) := by decide +kernel
theorem dX6_isAsItMustBe_192 : decode cX6_isAsItMustBe 192 = .ok (.invokevirtual 277, 3) := by decide +kernel
theorem dX6_isAsItMustBe_195 : decode cX6_isAsItMustBe 195 = .ok (.invokestatic 119, 3) := by decide +kernel
theorem dX6_isAsItMustBe_198 : decode cX6_isAsItMustBe 198 = .ok (.ireturn, 1) := by decide +kernel
theorem dX6_isAsItMustBe_199 : decode cX6_isAsItMustBe 199 = .ok (.aload_n 0, 1) := by decide +kernel
theorem dX6_isAsItMustBe_200 : decode cX6_isAsItMustBe 200 = .ok (.getfield 43, 3) := by decide +kernel
theorem dX6_isAsItMustBe_203 : decode cX6_isAsItMustBe 203 = .ok (.iload_n 1, 1) := by decide +kernel
theorem dX6_isAsItMustBe_204 : decode cX6_isAsItMustBe 204 = .ok (.iconst 1, 1) := by decide +kernel
theorem dX6_isAsItMustBe_205 : decode cX6_isAsItMustBe 205 = .ok (.iadd, 1) := by decide +kernel
theorem dX6_isAsItMustBe_206 : decode cX6_isAsItMustBe 206 = .ok (.invokevirtual 277, 3) := by decide +kernel
theorem dX6_isAsItMustBe_209 : decode cX6_isAsItMustBe 209 = .ok (.iconst 1, 1) := by decide +kernel
theorem dX6_isAsItMustBe_210 : decode cX6_isAsItMustBe 210 = .ok (.if_icmp .lt 7, 3) := by decide +kernel
theorem dX6_isAsItMustBe_213 : decode cX6_isAsItMustBe 213 = .ok (.iconst 1, 1) := by decide +kernel
theorem dX6_isAsItMustBe_214 : decode cX6_isAsItMustBe 214 = .ok (.goto 4, 3) := by decide +kernel
theorem dX6_isAsItMustBe_217 : decode cX6_isAsItMustBe 217 = .ok (.iconst 0, 1) := by decide +kernel
theorem dX6_isAsItMustBe_218 : decode cX6_isAsItMustBe 218 = .ok (.ireturn, 1) := by decide +kernel
theorem dX6_isAsItMustBe_219 : decode cX6_isAsItMustBe 219 = .ok (.aload_n 0, 1) := by decide +kernel
theorem dX6_isAsItMustBe_220 : decode cX6_isAsItMustBe 220 = .ok (.getfield 43, 3) := by decide +kernel
theorem dX6_isAsItMustBe_223 : decode cX6_isAsItMustBe 223 = .ok (.iload_n 1, 1) := by decide +kernel
theorem dX6_isAsItMustBe_224 : decode cX6_isAsItMustBe 224 = .ok (.iconst 1, 1) := by decide +kernel
theorem dX6_isAsItMustBe_225 : decode cX6_isAsItMustBe 225 = .ok (.iadd, 1) := by decide +kernel
theorem dX6_isAsItMustBe_226 : decode cX6_isAsItMustBe 226 = .ok (.invokevirtual 274, 3) := by decide +kernel
theorem dX6_isAsItMustBe_229 : decode cX6_isAsItMustBe 229 = .ok (.iconst 1, 1) := by decide +kernel
theorem dX6_isAsItMustBe_230 : decode cX6_isAsItMustBe 230 = .ok (.bipush 40, 2) := by decide +kernel
theorem dX6_isAsItMustBe_232 : decode cX6_isAsItMustBe 232 = .ok (.invokestatic 58, 3) := by decide +kernel
theorem dX6_isAsItMustBe_235 : decode cX6_isAsItMustBe 235 = .ok (.ifCond .ne 7, 3) := by decide +kernel
theorem dX6_isAsItMustBe_238 : decode cX6_isAsItMustBe 238 = .ok (.iconst 1, 1) := by decide +kernel
theorem dX6_isAsItMustBe_239 : decode cX6_isAsItMustBe 239 = .ok (.goto 4, 3) := by decide +kernel
theorem dX6_isAsItMustBe_242 : decode cX6_isAsItMustBe 242 = .ok (.iconst 0, 1) := by decide +kernel
theorem dX6_isAsItMustBe_243 : decode cX6_isAsItMustBe 243 = .ok (.ireturn, 1) := by decide +kernel
theorem dX6_isAsItMustBe_244 : decode cX6_isAsItMustBe 244 = .ok (.iconst 1, 1) := by decide +kernel
theorem dX6_isAsItMustBe_245 : decode cX6_isAsItMustBe 245 = .ok (.ireturn, 1) := by decide +kernel
theorem dX6_comes_0 : decode cX6_comes 0 = .ok (.aload_n 0, 1) := by decide +kernel
theorem dX6_comes_1 : decode cX6_comes 1 = .ok (.getfield 43, 3) := by decide +kernel
theorem dX6_comes_4 : decode cX6_comes 4 = .ok (.iload_n 1, 1) := by decide +kernel
theorem dX6_comes_5 : decode cX6_comes 5 = .ok (.iconst 1, 1) := by decide +kernel
theorem dX6_comes_6 : decode cX6_comes 6 = .ok (.iadd, 1) := by decide +kernel
theorem dX6_comes_7 : decode cX6_comes 7 = .ok (.invokevirtual 277, 3) := by decide +kernel
theorem dX6_comes_10 : decode cX6_comes 10 = .ok (.istore_n 2, 1) := by decide +kernel
theorem dX6_comes_11 : decode cX6_comes 11 = .ok (.aload_n 0, 1) := by decide +kernel
theorem dX6_comes_12 : decode cX6_comes 12 = .ok (.getfield 43, 3) := by decide +kernel
theorem dX6_comes_15 : decode cX6_comes 15 = .ok (.iload_n 1, 1) := by decide +kernel
theorem dX6_comes_16 : decode cX6_comes 16 = .ok (.invokevirtual 271, 3) := by decide +kernel
theorem dX6_comes_19 : decode cX6_comes 19 = .ok (.tableswitch 237 101 115 #[136, 237, 237, 237, 93, 237, 157, 237, 237, 73, 237, 209, 237, 237, 184], 73) := by decide +kernel
theorem dX6_comes_92 : decode cX6_comes 92 = .ok (.aload_n 0, 1) := by decide +kernel
theorem dX6_comes_93 : decode cX6_comes 93 = .ok (.getfield 16, 3) := by decide +kernel
theorem dX6_comes_96 : decode cX6_comes 96 = .ok (.aload_n 0, 1) := by decide +kernel
theorem dX6_comes_97 : decode cX6_comes 97 = .ok (.getfield 43, 3) := by decide +kernel
theorem dX6_comes_100 : decode cX6_comes 100 = .ok (.iload_n 1, 1) := by decide +kernel
theorem dX6_comes_101 : decode cX6_comes 101 = .ok (.iconst 1, 1) := by decide +kernel
theorem dX6_comes_102 : decode cX6_comes 102 = .ok (.iadd, 1) := by decide +kernel
theorem dX6_comes_103 : decode cX6_comes 103 = .ok (.invokevirtual 274, 3) := by decide +kernel
theorem dX6_comes_106 : decode cX6_comes 106 = .ok (.putfield 116, 3) := by decide +kernel
theorem dX6_comes_109 : decode cX6_comes 109 = .ok (.goto 164, 3) := by decide +kernel
theorem dX6_comes_112 : decode cX6_comes 112 = .ok (.aload_n 0, 1) := by decide +kernel
theorem dX6_comes_113 : decode cX6_comes 113 = .ok (.getfield 16, 3) := by decide +kernel
theorem dX6_comes_116 : decode cX6_comes 116 = .ok (.aload_n 0, 1) := by decide +kernel
theorem dX6_comes_117 : decode cX6_comes 117 = .ok (.getfield 43, 3) := by decide +kernel
theorem dX6_comes_120 : decode cX6_comes 120 = .ok (.iload_n 1, 1) := by decide +kernel
theorem dX6_comes_121 : decode cX6_comes 121 = .ok (.iconst 2, 1) := by decide +kernel
theorem dX6_comes_122 : decode cX6_comes 122 = .ok (.iadd, 1) := by decide +kernel
theorem dX6_comes_123 : decode cX6_comes 123 = .ok (.invokevirtual 274, 3) := by decide +kernel
theorem dX6_comes_126 : decode cX6_comes 126 = .ok (.aload_n 0, 1) := by decide +kernel
theorem dX6_comes_127 : decode cX6_comes 127 = .ok (.getfield 43, 3) := by decide +kernel
theorem dX6_comes_130 : decode cX6_comes 130 = .ok (.iload_n 1, 1) := by decide +kernel
theorem dX6_comes_131 : decode cX6_comes 131 = .ok (.iconst 1, 1) := by decide +kernel
theorem dX6_comes_132 : decode cX6_comes 132 = .ok (.iadd, 1) := by decide +kernel
theorem dX6_comes_133 : decode cX6_comes 133 = .ok (.invokevirtual 271, 3) := by decide +kernel
theorem dX6_comes_136 : decode cX6_comes 136 = .ok (.invokestatic 283, 3) := by decide +kernel
theorem dX6_comes_139 : decode cX6_comes 139 = .ok (.aload_n 0, 1) := by decide +kernel
theorem dX6_comes_140 : decode cX6_comes 140 = .ok (.getfield 43, 3) := by decide +kernel
theorem dX6_comes_143 : decode cX6_comes 143 = .ok (.iload_n 1, 1) := by decide +kernel
theorem dX6_comes_144 : decode cX6_comes 144 = .ok (.iconst 4, 1) := by decide +kernel
theorem dX6_comes_145 : decode cX6_comes 145 = .ok (.iadd, 1) := by decide +kernel
theorem dX6_comes_146 : decode cX6_comes 146 = .ok (.invokevirtual 277, 3) := by decide +kernel
theorem dX6_comes_149 : decode cX6_comes 149 = .ok (.invokevirtual 112, 3) := by decide +kernel
theorem dX6_comes_152 : decode cX6_comes 152 = .ok (.goto 121, 3) := by decide +kernel
theorem dX6_comes_155 : decode cX6_comes 155 = .ok (.aload_n 0, 1) := by decide +kernel
theorem dX6_comes_156 : decode cX6_comes 156 = .ok (.getfield 16, 3) := by decide +kernel
theorem dX6_comes_159 : decode cX6_comes 159 = .ok (.iload_n 2, 1) := by decide +kernel
theorem dX6_comes_160 : decode cX6_comes 160 = .ok (.aload_n 0, 1) := by decide +kernel
theorem dX6_comes_161 : decode cX6_comes 161 = .ok (.getfield 43, 3) := by decide +kernel
theorem dX6_comes_164 : decode cX6_comes 164 = .ok (.iload_n 1, 1) := by decide +kernel
theorem dX6_comes_165 : decode cX6_comes 165 = .ok (.iconst 2, 1) := by decide +kernel
theorem dX6_comes_166 : decode cX6_comes 166 = .ok (.iadd, 1) := by decide +kernel
theorem dX6_comes_167 : decode cX6_comes 167 = .ok (.invokevirtual 280, 3) := by decide +kernel
theorem dX6_comes_170 : decode cX6_comes 170 = .ok (.invokevirtual 128, 3) := by decide +kernel
theorem dX6_comes_173 : decode cX6_comes 173 = .ok (.goto 100, 3) := by decide +kernel
theorem dX6_comes_176 : decode cX6_comes 176 = .ok (.aload_n 0, 1) := by decide +kernel
theorem dX6_comes_177 : decode cX6_comes 177 = .ok (.getfield 16, 3) := by decide +kernel
theorem dX6_comes_180 : decode cX6_comes 180 = .ok (.iload_n 2, 1) := by decide +kernel
theorem dX6_comes_181 : decode cX6_comes 181 = .ok (.aload_n 0, 1) := by decide +kernel
theorem dX6_comes_182 : decode cX6_comes 182 = .ok (.getfield 16, 3) := by decide +kernel
theorem dX6_comes_185 : decode cX6_comes 185 = .ok (.iload_n 2, 1) := by decide +kernel
theorem dX6_comes_186 : decode cX6_comes 186 = .ok (.invokevirtual 132, 3) := by decide +kernel
theorem dX6_comes_189 : decode cX6_comes 189 = .ok (.ifCond .ne 7, 3) := by decide +kernel
theorem dX6_comes_192 : decode cX6_comes 192 = .ok (.iconst 1, 1) := by decide +kernel
theorem dX6_comes_193 : decode cX6_comes 193 = .ok (.goto 4, 3) := by decide +kernel
theorem dX6_comes_196 : decode cX6_comes 196 = .ok (.iconst 0, 1) := by decide +kernel
theorem dX6_comes_197 : decode cX6_comes 197 = .ok (.invokevirtual 135, 3) := by decide +kernel
theorem dX6_comes_200 : decode cX6_comes 200 = .ok (.goto 73, 3) := by decide +kernel
theorem dX6_comes_203 : decode cX6_comes 203 = .ok (.aload_n 0, 1) := by decide +kernel
theorem dX6_comes_204 : decode cX6_comes 204 = .ok (.getfield 16, 3) := by decide +kernel
theorem dX6_comes_207 : decode cX6_comes 207 = .ok (.aload_n 0, 1) := by decide +kernel
theorem dX6_comes_208 : decode cX6_comes 208 = .ok (.getfield 16, 3) := by decide +kernel
theorem dX6_comes_211 : decode cX6_comes 211 = .ok (.getfield 139, 3) := by decide +kernel
theorem dX6_comes_214 : decode cX6_comes 214 = .ok (.ifCond .ne 7, 3) := by decide +kernel
theorem dX6_comes_217 : decode cX6_comes 217 = .ok (.iconst 1, 1) := by decide +kernel
theorem dX6_comes_218 : decode cX6_comes 218 = .ok (.goto 4, 3) := by decide +kernel
theorem dX6_comes_221 : decode cX6_comes 221 = .ok (.iconst 0, 1) := by decide +kernel
theorem dX6_comes_222 : decode cX6_comes 222 = .ok (.putfield 139, 3) := by decide +kernel
theorem dX6_comes_225 : decode cX6_comes 225 = .ok (.goto 48, 3) := by decide +kernel
theorem dX6_comes_228 : decode cX6_comes 228 = .ok (.aload_n 0, 1) := by decide +kernel
theorem dX6_comes_229 : decode cX6_comes 229 = .ok (.getfield 16, 3) := by decide +kernel
theorem dX6_comes_232 : decode cX6_comes 232 = .ok (.iload_n 2, 1) := by decide +kernel
theorem dX6_comes_233 : decode cX6_comes 233 = .ok (.putfield 142, 3) := by decide +kernel
theorem dX6_comes_236 : decode cX6_comes 236 = .ok (.aload_n 0, 1) := by decide +kernel
theorem dX6_comes_237 : decode cX6_comes 237 = .ok (.getfield 16, 3) := by decide +kernel
theorem dX6_comes_240 : decode cX6_comes 240 = .ok (.aload_n 0, 1) := by decide +kernel
theorem dX6_comes_241 : decode cX6_comes 241 = .ok (.getfield 43, 3) := by decide +kernel
theorem dX6_comes_244 : decode cX6_comes 244 = .ok (.iload_n 1, 1) := by decide +kernel
theorem dX6_comes_245 : decode cX6_comes 245 = .ok (.iconst 2, 1) := by decide +kernel
theorem dX6_comes_246 : decode cX6_comes 246 = .ok (.iadd, 1) := by decide +kernel
theorem dX6_comes_247 : decode cX6_comes 247 = .ok (.invokevirtual 277, 3) := by decide +kernel
theorem dX6_comes_250 : decode cX6_comes 250 = .ok (.putfield 145, 3) := by decide +kernel
theorem dX6_comes_253 : decode cX6_comes 253 = .ok (.goto 20, 3) := by decide +kernel
theorem dX6_comes_256 : decode cX6_comes 256 = .ok (.aload_n 0, 1) := by decide +kernel
theorem dX6_comes_257 : decode cX6_comes 257 = .ok (.getfield 16, 3) := by decide +kernel
theorem dX6_comes_260 : decode cX6_comes 260 = .ok (.aload_n 0, 1) := by decide +kernel
theorem dX6_comes_261 : decode cX6_comes 261 = .ok (.getfield 43, 3) := by decide +kernel
theorem dX6_comes_264 : decode cX6_comes 264 = .ok (.iload_n 1, 1) := by decide +kernel
theorem dX6_comes_265 : decode cX6_comes 265 = .ok (.iconst 1, 1) := by decide +kernel
theorem dX6_comes_266 : decode cX6_comes 266 = .ok (.iadd, 1) := by decide +kernel
theorem dX6_comes_267 : decode cX6_comes 267 = .ok (.invokevirtual 274, 3) := by decide +kernel
theorem dX6_comes_270 : decode cX6_comes 270 = .ok (.invokevirtual 169, 3) := by decide +kernel
theorem dX6_comes_273 : decode cX6_comes 273 = .ok (.return_, 1) := by decide +kernel
theorem dX6_secondsIfLost_0 : decode cX6_secondsIfLost 0 = .ok (.aload_n 0, 1) := by decide +kernel
theorem dX6_secondsIfLost_1 : decode cX6_secondsIfLost 1 = .ok (.getfield 10, 3) := by decide +kernel
theorem dX6_secondsIfLost_4 : decode cX6_secondsIfLost 4 = .ok (.iload_n 1, 1) := by decide +kernel
theorem dX6_secondsIfLost_5 : decode cX6_secondsIfLost 5 = .ok (.invokevirtual 152, 3) := by decide +kernel
theorem dX6_secondsIfLost_8 : decode cX6_secondsIfLost 8 = .ok (.ifCond .ne 6, 3) := by decide +kernel
theorem dX6_secondsIfLost_11 : decode cX6_secondsIfLost 11 = .ok (.bipush (-9), 2) := by decide +kernel
theorem dX6_secondsIfLost_13 : decode cX6_secondsIfLost 13 = .ok (.ireturn, 1) := by decide +kernel
theorem dX6_secondsIfLost_14 : decode cX6_secondsIfLost 14 = .ok (.aload_n 0, 1) := by decide +kernel
theorem dX6_secondsIfLost_15 : decode cX6_secondsIfLost 15 = .ok (.getfield 29, 3) := by decide +kernel
theorem dX6_secondsIfLost_18 : decode cX6_secondsIfLost 18 = .ok (.aload_n 0, 1) := by decide +kernel
theorem dX6_secondsIfLost_19 : decode cX6_secondsIfLost 19 = .ok (.getfield 10, 3) := by decide +kernel
theorem dX6_secondsIfLost_22 : decode cX6_secondsIfLost 22 = .ok (.iload_n 1, 1) := by decide +kernel
theorem dX6_secondsIfLost_23 : decode cX6_secondsIfLost 23 = .ok (.aload_n 0, 1) := by decide +kernel
theorem dX6_secondsIfLost_24 : decode cX6_secondsIfLost 24 = .ok (.getfield 10, 3) := by decide +kernel
theorem dX6_secondsIfLost_27 : decode cX6_secondsIfLost 27 = .ok (.iload_n 1, 1) := by decide +kernel
theorem dX6_secondsIfLost_28 : decode cX6_secondsIfLost 28 = .ok (.invokevirtual 125, 3) := by decide +kernel
theorem dX6_secondsIfLost_31 : decode cX6_secondsIfLost 31 = .ok (.invokevirtual 175, 3) := by decide +kernel
theorem dX6_secondsIfLost_34 : decode cX6_secondsIfLost 34 = .ok (.aload_n 0, 1) := by decide +kernel
theorem dX6_secondsIfLost_35 : decode cX6_secondsIfLost 35 = .ok (.getfield 29, 3) := by decide +kernel
theorem dX6_secondsIfLost_38 : decode cX6_secondsIfLost 38 = .ok (.getfield 182, 3) := by decide +kernel
theorem dX6_secondsIfLost_41 : decode cX6_secondsIfLost 41 = .ok (.ireturn, 1) := by decide +kernel
theorem dX6_washesTillLost_0 : decode cX6_washesTillLost 0 = .ok (.aload_n 0, 1) := by decide +kernel
theorem dX6_washesTillLost_1 : decode cX6_washesTillLost 1 = .ok (.getfield 16, 3) := by decide +kernel
theorem dX6_washesTillLost_4 : decode cX6_washesTillLost 4 = .ok (.aload_n 0, 1) := by decide +kernel
theorem dX6_washesTillLost_5 : decode cX6_washesTillLost 5 = .ok (.getfield 10, 3) := by decide +kernel
theorem dX6_washesTillLost_8 : decode cX6_washesTillLost 8 = .ok (.invokevirtual 195, 3) := by decide +kernel
theorem dX6_washesTillLost_11 : decode cX6_washesTillLost 11 = .ok (.iconst 0, 1) := by decide +kernel
theorem dX6_washesTillLost_12 : decode cX6_washesTillLost 12 = .ok (.istore_n 1, 1) := by decide +kernel
theorem dX6_washesTillLost_13 : decode cX6_washesTillLost 13 = .ok (.iload_n 1, 1) := by decide +kernel
theorem dX6_washesTillLost_14 : decode cX6_washesTillLost 14 = .ok (.sipush 200, 3) := by decide +kernel
end
section
theorem dX6_washesTillLost_17 : decode cX6_washesTillLost 17 = .ok (.if_icmp .gt 29, 3) := by decide +kernel
theorem dX6_washesTillLost_20 : decode cX6_washesTillLost 20 = .ok (.aload_n 0, 1) := by decide +kernel
theorem dX6_washesTillLost_21 : decode cX6_washesTillLost 21 = .ok (.getfield 16, 3) := by decide +kernel
theorem dX6_washesTillLost_24 : decode cX6_washesTillLost 24 = .ok (.invokevirtual 172, 3) := by decide +kernel
theorem dX6_washesTillLost_27 : decode cX6_washesTillLost 27 = .ok (.ifCond .le 5, 3) := by decide +kernel
theorem dX6_washesTillLost_30 : decode cX6_washesTillLost 30 = .ok (.iload_n 1, 1) := by decide +kernel
theorem dX6_washesTillLost_31 : decode cX6_washesTillLost 31 = .ok (.ireturn, 1) := by decide +kernel
theorem dX6_washesTillLost_32 : decode cX6_washesTillLost 32 = .ok (.aload_n 0, 1) := by decide +kernel
theorem dX6_washesTillLost_33 : decode cX6_washesTillLost 33 = .ok (.getfield 16, 3) := by decide +kernel
theorem dX6_washesTillLost_36 : decode cX6_washesTillLost 36 = .ok (.invokevirtual 202, 3) := by decide +kernel
theorem dX6_washesTillLost_39 : decode cX6_washesTillLost 39 = .ok (.pop, 1) := by decide +kernel
theorem dX6_washesTillLost_40 : decode cX6_washesTillLost 40 = .ok (.iinc 1 1, 3) := by decide +kernel
theorem dX6_washesTillLost_43 : decode cX6_washesTillLost 43 = .ok (.goto (-30), 3) := by decide +kernel
theorem dX6_washesTillLost_46 : decode cX6_washesTillLost 46 = .ok (.bipush (-9), 2) := by decide +kernel
theorem dX6_washesTillLost_48 : decode cX6_washesTillLost 48 = .ok (.ireturn, 1) := by decide +kernel
theorem dX6_secondsWithStop_0 : decode cX6_secondsWithStop 0 = .ok (.aload_n 0, 1) := by decide +kernel
theorem dX6_secondsWithStop_1 : decode cX6_secondsWithStop 1 = .ok (.getfield 16, 3) := by decide +kernel
theorem dX6_secondsWithStop_4 : decode cX6_secondsWithStop 4 = .ok (.aload_n 0, 1) := by decide +kernel
theorem dX6_secondsWithStop_5 : decode cX6_secondsWithStop 5 = .ok (.getfield 10, 3) := by decide +kernel
theorem dX6_secondsWithStop_8 : decode cX6_secondsWithStop 8 = .ok (.invokevirtual 195, 3) := by decide +kernel
theorem dX6_secondsWithStop_11 : decode cX6_secondsWithStop 11 = .ok (.iconst 0, 1) := by decide +kernel
theorem dX6_secondsWithStop_12 : decode cX6_secondsWithStop 12 = .ok (.istore_n 3, 1) := by decide +kernel
theorem dX6_secondsWithStop_13 : decode cX6_secondsWithStop 13 = .ok (.iload_n 1, 1) := by decide +kernel
theorem dX6_secondsWithStop_14 : decode cX6_secondsWithStop 14 = .ok (.iconst 1, 1) := by decide +kernel
theorem dX6_secondsWithStop_15 : decode cX6_secondsWithStop 15 = .ok (.if_icmp .eq 8, 3) := by decide +kernel
theorem dX6_secondsWithStop_18 : decode cX6_secondsWithStop 18 = .ok (.iload_n 1, 1) := by decide +kernel
theorem dX6_secondsWithStop_19 : decode cX6_secondsWithStop 19 = .ok (.iconst 3, 1) := by decide +kernel
theorem dX6_secondsWithStop_20 : decode cX6_secondsWithStop 20 = .ok (.if_icmp .ne 15, 3) := by decide +kernel
theorem dX6_secondsWithStop_23 : decode cX6_secondsWithStop 23 = .ok (.aload_n 0, 1) := by decide +kernel
theorem dX6_secondsWithStop_24 : decode cX6_secondsWithStop 24 = .ok (.getfield 16, 3) := by decide +kernel
theorem dX6_secondsWithStop_27 : decode cX6_secondsWithStop 27 = .ok (.iconst 0, 1) := by decide +kernel
theorem dX6_secondsWithStop_28 : decode cX6_secondsWithStop 28 = .ok (.iconst 1, 1) := by decide +kernel
theorem dX6_secondsWithStop_29 : decode cX6_secondsWithStop 29 = .ok (.invokevirtual 135, 3) := by decide +kernel
theorem dX6_secondsWithStop_32 : decode cX6_secondsWithStop 32 = .ok (.iinc 3 20, 3) := by decide +kernel
theorem dX6_secondsWithStop_35 : decode cX6_secondsWithStop 35 = .ok (.iload_n 1, 1) := by decide +kernel
theorem dX6_secondsWithStop_36 : decode cX6_secondsWithStop 36 = .ok (.iconst 2, 1) := by decide +kernel
theorem dX6_secondsWithStop_37 : decode cX6_secondsWithStop 37 = .ok (.if_icmp .eq 8, 3) := by decide +kernel
theorem dX6_secondsWithStop_40 : decode cX6_secondsWithStop 40 = .ok (.iload_n 1, 1) := by decide +kernel
theorem dX6_secondsWithStop_41 : decode cX6_secondsWithStop 41 = .ok (.iconst 3, 1) := by decide +kernel
theorem dX6_secondsWithStop_42 : decode cX6_secondsWithStop 42 = .ok (.if_icmp .ne 15, 3) := by decide +kernel
theorem dX6_secondsWithStop_45 : decode cX6_secondsWithStop 45 = .ok (.aload_n 0, 1) := by decide +kernel
theorem dX6_secondsWithStop_46 : decode cX6_secondsWithStop 46 = .ok (.getfield 16, 3) := by decide +kernel
theorem dX6_secondsWithStop_49 : decode cX6_secondsWithStop 49 = .ok (.iconst 1, 1) := by decide +kernel
theorem dX6_secondsWithStop_50 : decode cX6_secondsWithStop 50 = .ok (.iconst 1, 1) := by decide +kernel
theorem dX6_secondsWithStop_51 : decode cX6_secondsWithStop 51 = .ok (.invokevirtual 135, 3) := by decide +kernel
theorem dX6_secondsWithStop_54 : decode cX6_secondsWithStop 54 = .ok (.iinc 3 20, 3) := by decide +kernel
theorem dX6_secondsWithStop_57 : decode cX6_secondsWithStop 57 = .ok (.iload_n 1, 1) := by decide +kernel
theorem dX6_secondsWithStop_58 : decode cX6_secondsWithStop 58 = .ok (.iconst 4, 1) := by decide +kernel
theorem dX6_secondsWithStop_59 : decode cX6_secondsWithStop 59 = .ok (.if_icmp .ne 14, 3) := by decide +kernel
theorem dX6_secondsWithStop_62 : decode cX6_secondsWithStop 62 = .ok (.aload_n 0, 1) := by decide +kernel
theorem dX6_secondsWithStop_63 : decode cX6_secondsWithStop 63 = .ok (.getfield 16, 3) := by decide +kernel
theorem dX6_secondsWithStop_66 : decode cX6_secondsWithStop 66 = .ok (.iconst 1, 1) := by decide +kernel
theorem dX6_secondsWithStop_67 : decode cX6_secondsWithStop 67 = .ok (.putfield 139, 3) := by decide +kernel
theorem dX6_secondsWithStop_70 : decode cX6_secondsWithStop 70 = .ok (.iinc 3 50, 3) := by decide +kernel
theorem dX6_secondsWithStop_73 : decode cX6_secondsWithStop 73 = .ok (.aload_n 0, 1) := by decide +kernel
theorem dX6_secondsWithStop_74 : decode cX6_secondsWithStop 74 = .ok (.getfield 36, 3) := by decide +kernel
theorem dX6_secondsWithStop_77 : decode cX6_secondsWithStop 77 = .ok (.aload_n 0, 1) := by decide +kernel
theorem dX6_secondsWithStop_78 : decode cX6_secondsWithStop 78 = .ok (.getfield 16, 3) := by decide +kernel
theorem dX6_secondsWithStop_81 : decode cX6_secondsWithStop 81 = .ok (.aload_n 0, 1) := by decide +kernel
theorem dX6_secondsWithStop_82 : decode cX6_secondsWithStop 82 = .ok (.getfield 29, 3) := by decide +kernel
theorem dX6_secondsWithStop_85 : decode cX6_secondsWithStop 85 = .ok (.iload_n 2, 1) := by decide +kernel
theorem dX6_secondsWithStop_86 : decode cX6_secondsWithStop 86 = .ok (.invokevirtual 211, 3) := by decide +kernel
theorem dX6_secondsWithStop_89 : decode cX6_secondsWithStop 89 = .ok (.iload_n 3, 1) := by decide +kernel
theorem dX6_secondsWithStop_90 : decode cX6_secondsWithStop 90 = .ok (.aload_n 0, 1) := by decide +kernel
theorem dX6_secondsWithStop_91 : decode cX6_secondsWithStop 91 = .ok (.getfield 36, 3) := by decide +kernel
theorem dX6_secondsWithStop_94 : decode cX6_secondsWithStop 94 = .ok (.getfield 286, 3) := by decide +kernel
theorem dX6_secondsWithStop_97 : decode cX6_secondsWithStop 97 = .ok (.iadd, 1) := by decide +kernel
theorem dX6_secondsWithStop_98 : decode cX6_secondsWithStop 98 = .ok (.ireturn, 1) := by decide +kernel
theorem dX6_rankWithCloth_0 : decode cX6_rankWithCloth 0 = .ok (.aload_n 0, 1) := by decide +kernel
theorem dX6_rankWithCloth_1 : decode cX6_rankWithCloth 1 = .ok (.getfield 16, 3) := by decide +kernel
theorem dX6_rankWithCloth_4 : decode cX6_rankWithCloth 4 = .ok (.aload_n 0, 1) := by decide +kernel
theorem dX6_rankWithCloth_5 : decode cX6_rankWithCloth 5 = .ok (.getfield 10, 3) := by decide +kernel
theorem dX6_rankWithCloth_8 : decode cX6_rankWithCloth 8 = .ok (.invokevirtual 195, 3) := by decide +kernel
theorem dX6_rankWithCloth_11 : decode cX6_rankWithCloth 11 = .ok (.aload_n 0, 1) := by decide +kernel
theorem dX6_rankWithCloth_12 : decode cX6_rankWithCloth 12 = .ok (.getfield 16, 3) := by decide +kernel
theorem dX6_rankWithCloth_15 : decode cX6_rankWithCloth 15 = .ok (.iload_n 1, 1) := by decide +kernel
theorem dX6_rankWithCloth_16 : decode cX6_rankWithCloth 16 = .ok (.iconst 0, 1) := by decide +kernel
theorem dX6_rankWithCloth_17 : decode cX6_rankWithCloth 17 = .ok (.iconst 0, 1) := by decide +kernel
theorem dX6_rankWithCloth_18 : decode cX6_rankWithCloth 18 = .ok (.invokevirtual 112, 3) := by decide +kernel
theorem dX6_rankWithCloth_21 : decode cX6_rankWithCloth 21 = .ok (.aload_n 0, 1) := by decide +kernel
theorem dX6_rankWithCloth_22 : decode cX6_rankWithCloth 22 = .ok (.getfield 29, 3) := by decide +kernel
theorem dX6_rankWithCloth_25 : decode cX6_rankWithCloth 25 = .ok (.aload_n 0, 1) := by decide +kernel
theorem dX6_rankWithCloth_26 : decode cX6_rankWithCloth 26 = .ok (.getfield 16, 3) := by decide +kernel
theorem dX6_rankWithCloth_29 : decode cX6_rankWithCloth 29 = .ok (.iload_n 2, 1) := by decide +kernel
theorem dX6_rankWithCloth_30 : decode cX6_rankWithCloth 30 = .ok (.aload_n 0, 1) := by decide +kernel
theorem dX6_rankWithCloth_31 : decode cX6_rankWithCloth 31 = .ok (.getfield 16, 3) := by decide +kernel
theorem dX6_rankWithCloth_34 : decode cX6_rankWithCloth 34 = .ok (.iload_n 2, 1) := by decide +kernel
theorem dX6_rankWithCloth_35 : decode cX6_rankWithCloth 35 = .ok (.invokevirtual 125, 3) := by decide +kernel
theorem dX6_rankWithCloth_38 : decode cX6_rankWithCloth 38 = .ok (.invokevirtual 175, 3) := by decide +kernel
theorem dX6_rankWithCloth_41 : decode cX6_rankWithCloth 41 = .ok (.aload_n 0, 1) := by decide +kernel
theorem dX6_rankWithCloth_42 : decode cX6_rankWithCloth 42 = .ok (.getfield 29, 3) := by decide +kernel
theorem dX6_rankWithCloth_45 : decode cX6_rankWithCloth 45 = .ok (.invokevirtual 218, 3) := by decide +kernel
theorem dX6_rankWithCloth_48 : decode cX6_rankWithCloth 48 = .ok (.ireturn, 1) := by decide +kernel
theorem dX6_kindsByRow_0 : decode cX6_kindsByRow 0 = .ok (.iconst 0, 1) := by decide +kernel
theorem dX6_kindsByRow_1 : decode cX6_kindsByRow 1 = .ok (.istore_n 2, 1) := by decide +kernel
theorem dX6_kindsByRow_2 : decode cX6_kindsByRow 2 = .ok (.iconst 0, 1) := by decide +kernel
theorem dX6_kindsByRow_3 : decode cX6_kindsByRow 3 = .ok (.istore_n 3, 1) := by decide +kernel
theorem dX6_kindsByRow_4 : decode cX6_kindsByRow 4 = .ok (.iload_n 3, 1) := by decide +kernel
theorem dX6_kindsByRow_5 : decode cX6_kindsByRow 5 = .ok (.bipush 6, 2) := by decide +kernel
theorem dX6_kindsByRow_7 : decode cX6_kindsByRow 7 = .ok (.if_icmp .ge 60, 3) := by decide +kernel
theorem dX6_kindsByRow_10 : decode cX6_kindsByRow 10 = .ok (.aload_n 0, 1) := by decide +kernel
theorem dX6_kindsByRow_11 : decode cX6_kindsByRow 11 = .ok (.getfield 16, 3) := by decide +kernel
theorem dX6_kindsByRow_14 : decode cX6_kindsByRow 14 = .ok (.aload_n 0, 1) := by decide +kernel
theorem dX6_kindsByRow_15 : decode cX6_kindsByRow 15 = .ok (.getfield 10, 3) := by decide +kernel
theorem dX6_kindsByRow_18 : decode cX6_kindsByRow 18 = .ok (.invokevirtual 195, 3) := by decide +kernel
theorem dX6_kindsByRow_21 : decode cX6_kindsByRow 21 = .ok (.aload_n 0, 1) := by decide +kernel
theorem dX6_kindsByRow_22 : decode cX6_kindsByRow 22 = .ok (.getfield 16, 3) := by decide +kernel
theorem dX6_kindsByRow_25 : decode cX6_kindsByRow 25 = .ok (.iload_n 1, 1) := by decide +kernel
theorem dX6_kindsByRow_26 : decode cX6_kindsByRow 26 = .ok (.iload_n 3, 1) := by decide +kernel
theorem dX6_kindsByRow_27 : decode cX6_kindsByRow 27 = .ok (.aload_n 0, 1) := by decide +kernel
theorem dX6_kindsByRow_28 : decode cX6_kindsByRow 28 = .ok (.getfield 10, 3) := by decide +kernel
theorem dX6_kindsByRow_31 : decode cX6_kindsByRow 31 = .ok (.iload_n 1, 1) := by decide +kernel
theorem dX6_kindsByRow_32 : decode cX6_kindsByRow 32 = .ok (.invokevirtual 95, 3) := by decide +kernel
theorem dX6_kindsByRow_35 : decode cX6_kindsByRow 35 = .ok (.invokevirtual 112, 3) := by decide +kernel
theorem dX6_kindsByRow_38 : decode cX6_kindsByRow 38 = .ok (.aload_n 0, 1) := by decide +kernel
theorem dX6_kindsByRow_39 : decode cX6_kindsByRow 39 = .ok (.getfield 50, 3) := by decide +kernel
theorem dX6_kindsByRow_42 : decode cX6_kindsByRow 42 = .ok (.aload_n 0, 1) := by decide +kernel
theorem dX6_kindsByRow_43 : decode cX6_kindsByRow 43 = .ok (.getfield 16, 3) := by decide +kernel
theorem dX6_kindsByRow_46 : decode cX6_kindsByRow 46 = .ok (.iconst 0, 1) := by decide +kernel
theorem dX6_kindsByRow_47 : decode cX6_kindsByRow 47 = .ok (.invokevirtual 242, 3) := by decide +kernel
theorem dX6_kindsByRow_50 : decode cX6_kindsByRow 50 = .ok (.bipush (-9), 2) := by decide +kernel
theorem dX6_kindsByRow_52 : decode cX6_kindsByRow 52 = .ok (.if_icmp .ne 9, 3) := by decide +kernel
theorem dX6_kindsByRow_55 : decode cX6_kindsByRow 55 = .ok (.iload_n 2, 1) := by decide +kernel
theorem dX6_kindsByRow_56 : decode cX6_kindsByRow 56 = .ok (.iconst 1, 1) := by decide +kernel
theorem dX6_kindsByRow_57 : decode cX6_kindsByRow 57 = .ok (.iload_n 3, 1) := by decide +kernel
theorem dX6_kindsByRow_58 : decode cX6_kindsByRow 58 = .ok (.ishl, 1) := by decide +kernel
theorem dX6_kindsByRow_59 : decode cX6_kindsByRow 59 = .ok (.ior, 1) := by decide +kernel
theorem dX6_kindsByRow_60 : decode cX6_kindsByRow 60 = .ok (.istore_n 2, 1) := by decide +kernel
theorem dX6_kindsByRow_61 : decode cX6_kindsByRow 61 = .ok (.iinc 3 1, 3) := by decide +kernel
theorem dX6_kindsByRow_64 : decode cX6_kindsByRow 64 = .ok (.goto (-60), 3) := by decide +kernel
theorem dX6_kindsByRow_67 : decode cX6_kindsByRow 67 = .ok (.iload_n 2, 1) := by decide +kernel
theorem dX6_kindsByRow_68 : decode cX6_kindsByRow 68 = .ok (.ireturn, 1) := by decide +kernel
theorem dX6_strengthsByRow_0 : decode cX6_strengthsByRow 0 = .ok (.iconst 0, 1) := by decide +kernel
theorem dX6_strengthsByRow_1 : decode cX6_strengthsByRow 1 = .ok (.istore_n 1, 1) := by decide +kernel
theorem dX6_strengthsByRow_2 : decode cX6_strengthsByRow 2 = .ok (.iconst 0, 1) := by decide +kernel
theorem dX6_strengthsByRow_3 : decode cX6_strengthsByRow 3 = .ok (.istore_n 2, 1) := by decide +kernel
theorem dX6_strengthsByRow_4 : decode cX6_strengthsByRow 4 = .ok (.iload_n 2, 1) := by decide +kernel
theorem dX6_strengthsByRow_5 : decode cX6_strengthsByRow 5 = .ok (.bipush 9, 2) := by decide +kernel
theorem dX6_strengthsByRow_7 : decode cX6_strengthsByRow 7 = .ok (.if_icmp .gt 51, 3) := by decide +kernel
theorem dX6_strengthsByRow_10 : decode cX6_strengthsByRow 10 = .ok (.aload_n 0, 1) := by decide +kernel
theorem dX6_strengthsByRow_11 : decode cX6_strengthsByRow 11 = .ok (.getfield 16, 3) := by decide +kernel
theorem dX6_strengthsByRow_14 : decode cX6_strengthsByRow 14 = .ok (.aload_n 0, 1) := by decide +kernel
theorem dX6_strengthsByRow_15 : decode cX6_strengthsByRow 15 = .ok (.getfield 10, 3) := by decide +kernel
theorem dX6_strengthsByRow_18 : decode cX6_strengthsByRow 18 = .ok (.invokevirtual 195, 3) := by decide +kernel
theorem dX6_strengthsByRow_21 : decode cX6_strengthsByRow 21 = .ok (.aload_n 0, 1) := by decide +kernel
theorem dX6_strengthsByRow_22 : decode cX6_strengthsByRow 22 = .ok (.getfield 16, 3) := by decide +kernel
theorem dX6_strengthsByRow_25 : decode cX6_strengthsByRow 25 = .ok (.iload_n 2, 1) := by decide +kernel
theorem dX6_strengthsByRow_26 : decode cX6_strengthsByRow 26 = .ok (.putfield 145, 3) := by decide +kernel
theorem dX6_strengthsByRow_29 : decode cX6_strengthsByRow 29 = .ok (.aload_n 0, 1) := by decide +kernel
theorem dX6_strengthsByRow_30 : decode cX6_strengthsByRow 30 = .ok (.getfield 50, 3) := by decide +kernel
theorem dX6_strengthsByRow_33 : decode cX6_strengthsByRow 33 = .ok (.aload_n 0, 1) := by decide +kernel
theorem dX6_strengthsByRow_34 : decode cX6_strengthsByRow 34 = .ok (.getfield 16, 3) := by decide +kernel
theorem dX6_strengthsByRow_37 : decode cX6_strengthsByRow 37 = .ok (.iconst 0, 1) := by decide +kernel
theorem dX6_strengthsByRow_38 : decode cX6_strengthsByRow 38 = .ok (.invokevirtual 242, 3) := by decide +kernel
theorem dX6_strengthsByRow_41 : decode cX6_strengthsByRow 41 = .ok (.bipush (-9), 2) := by decide +kernel
theorem dX6_strengthsByRow_43 : decode cX6_strengthsByRow 43 = .ok (.if_icmp .ne 9, 3) := by decide +kernel
theorem dX6_strengthsByRow_46 : decode cX6_strengthsByRow 46 = .ok (.iload_n 1, 1) := by decide +kernel
theorem dX6_strengthsByRow_47 : decode cX6_strengthsByRow 47 = .ok (.iconst 1, 1) := by decide +kernel
theorem dX6_strengthsByRow_48 : decode cX6_strengthsByRow 48 = .ok (.iload_n 2, 1) := by decide +kernel
theorem dX6_strengthsByRow_49 : decode cX6_strengthsByRow 49 = .ok (.ishl, 1) := by decide +kernel
theorem dX6_strengthsByRow_50 : decode cX6_strengthsByRow 50 = .ok (.ior, 1) := by decide +kernel
theorem dX6_strengthsByRow_51 : decode cX6_strengthsByRow 51 = .ok (.istore_n 1, 1) := by decide +kernel
theorem dX6_strengthsByRow_52 : decode cX6_strengthsByRow 52 = .ok (.iinc 2 1, 3) := by decide +kernel
theorem dX6_strengthsByRow_55 : decode cX6_strengthsByRow 55 = .ok (.goto (-51), 3) := by decide +kernel
theorem dX6_strengthsByRow_58 : decode cX6_strengthsByRow 58 = .ok (.iload_n 1, 1) := by decide +kernel
theorem dX6_strengthsByRow_59 : decode cX6_strengthsByRow 59 = .ok (.ireturn, 1) := by decide +kernel
theorem dX6_lotSeconds_0 : decode cX6_lotSeconds 0 = .ok (.aload_n 0, 1) := by decide +kernel
theorem dX6_lotSeconds_1 : decode cX6_lotSeconds 1 = .ok (.getfield 29, 3) := by decide +kernel
theorem dX6_lotSeconds_4 : decode cX6_lotSeconds 4 = .ok (.aload_n 0, 1) := by decide +kernel
theorem dX6_lotSeconds_5 : decode cX6_lotSeconds 5 = .ok (.getfield 16, 3) := by decide +kernel
theorem dX6_lotSeconds_8 : decode cX6_lotSeconds 8 = .ok (.iload_n 1, 1) := by decide +kernel
theorem dX6_lotSeconds_9 : decode cX6_lotSeconds 9 = .ok (.aload_n 0, 1) := by decide +kernel
theorem dX6_lotSeconds_10 : decode cX6_lotSeconds 10 = .ok (.getfield 16, 3) := by decide +kernel
theorem dX6_lotSeconds_13 : decode cX6_lotSeconds 13 = .ok (.iload_n 1, 1) := by decide +kernel
theorem dX6_lotSeconds_14 : decode cX6_lotSeconds 14 = .ok (.invokevirtual 125, 3) := by decide +kernel
theorem dX6_lotSeconds_17 : decode cX6_lotSeconds 17 = .ok (.invokevirtual 175, 3) := by decide +kernel
theorem dX6_lotSeconds_20 : decode cX6_lotSeconds 20 = .ok (.aload_n 0, 1) := by decide +kernel
theorem dX6_lotSeconds_21 : decode cX6_lotSeconds 21 = .ok (.getfield 29, 3) := by decide +kernel
theorem dX6_lotSeconds_24 : decode cX6_lotSeconds 24 = .ok (.invokevirtual 205, 3) := by decide +kernel
theorem dX6_lotSeconds_27 : decode cX6_lotSeconds 27 = .ok (.ifCond .eq 13, 3) := by decide +kernel
theorem dX6_lotSeconds_30 : decode cX6_lotSeconds 30 = .ok (.aload_n 0, 1) := by decide +kernel
theorem dX6_lotSeconds_31 : decode cX6_lotSeconds 31 = .ok (.getfield 29, 3) := by decide +kernel
theorem dX6_lotSeconds_34 : decode cX6_lotSeconds 34 = .ok (.getfield 182, 3) := by decide +kernel
theorem dX6_lotSeconds_37 : decode cX6_lotSeconds 37 = .ok (.goto 5, 3) := by decide +kernel
theorem dX6_lotSeconds_40 : decode cX6_lotSeconds 40 = .ok (.bipush 100, 2) := by decide +kernel
theorem dX6_lotSeconds_42 : decode cX6_lotSeconds 42 = .ok (.ireturn, 1) := by decide +kernel
theorem dX7_init_0 : decode cX7_init 0 = .ok (.aload_n 0, 1) := by decide +kernel
theorem dX7_init_1 : decode cX7_init 1 = .ok (.invokespecial 1, 3) := by decide +kernel
theorem dX7_init_4 : decode cX7_init 4 = .ok (.aload_n 0, 1) := by decide +kernel
theorem dX7_init_5 : decode cX7_init 5 = .ok (.bipush 32, 2) := by decide +kernel
theorem dX7_init_7 : decode cX7_init 7 = .ok (.newarray .int, 2) := by decide +kernel
theorem dX7_init_9 : decode cX7_init 9 = .ok (.putfield 9, 3) := by decide +kernel
theorem dX7_init_12 : decode cX7_init 12 = .ok (.aload_n 0, 1) := by decide +kernel
theorem dX7_init_13 : decode cX7_init 13 = .ok (.bipush 32, 2) := by decide +kernel
theorem dX7_init_15 : decode cX7_init 15 = .ok (.newarray .int, 2) := by decide +kernel
theorem dX7_init_17 : decode cX7_init 17 = .ok (.putfield 13, 3) := by decide +kernel
theorem dX7_init_20 : decode cX7_init 20 = .ok (.aload_n 0, 1) := by decide +kernel
theorem dX7_init_21 : decode cX7_init 21 = .ok (.bipush 32, 2) := by decide +kernel
theorem dX7_init_23 : decode cX7_init 23 = .ok (.newarray .int, 2) := by decide +kernel
theorem dX7_init_25 : decode cX7_init 25 = .ok (.putfield 16, 3) := by decide +kernel
theorem dX7_init_28 : decode cX7_init 28 = .ok (.aload_n 0, 1) := by decide +kernel
theorem dX7_init_29 : decode cX7_init 29 = .ok (.bipush 32, 2) := by decide +kernel
theorem dX7_init_31 : decode cX7_init 31 = .ok (.newarray .int, 2) := by decide +kernel
theorem dX7_init_33 : decode cX7_init 33 = .ok (.putfield 19, 3) := by decide +kernel
theorem dX7_init_36 : decode cX7_init 36 = .ok (.aload_n 0, 1) := by decide +kernel
theorem dX7_init_37 : decode cX7_init 37 = .ok (.bipush 96, 2) := by decide +kernel
theorem dX7_init_39 : decode cX7_init 39 = .ok (.newarray .int, 2) := by decide +kernel
theorem dX7_init_41 : decode cX7_init 41 = .ok (.putfield 22, 3) := by decide +kernel
theorem dX7_init_44 : decode cX7_init 44 = .ok (.aload_n 0, 1) := by decide +kernel
theorem dX7_init_45 : decode cX7_init 45 = .ok (.bipush 12, 2) := by decide +kernel
theorem dX7_init_47 : decode cX7_init 47 = .ok (.newarray .int, 2) := by decide +kernel
theorem dX7_init_49 : decode cX7_init 49 = .ok (.putfield 25, 3) := by decide +kernel
theorem dX7_init_52 : decode cX7_init 52 = .ok (.aload_n 0, 1) := by decide +kernel
theorem dX7_init_53 : decode cX7_init 53 = .ok (.bipush 7, 2) := by decide +kernel
theorem dX7_init_55 : decode cX7_init 55 = .ok (.newarray .int, 2) := by decide +kernel
theorem dX7_init_57 : decode cX7_init 57 = .ok (.putfield 28, 3) := by decide +kernel
theorem dX7_init_60 : decode cX7_init 60 = .ok (.aload_n 0, 1) := by decide +kernel
theorem dX7_init_61 : decode cX7_init 61 = .ok (.bipush 12, 2) := by decide +kernel
theorem dX7_init_63 : decode cX7_init 63 = .ok (.newarray .int, 2) := by decide +kernel
theorem dX7_init_65 : decode cX7_init 65 = .ok (.putfield 31, 3) := by decide +kernel
theorem dX7_init_68 : decode cX7_init 68 = .ok (.aload_n 0, 1) := by decide +kernel
theorem dX7_init_69 : decode cX7_init 69 = .ok (.iconst 3, 1) := by decide +kernel
theorem dX7_init_70 : decode cX7_init 70 = .ok (.newarray .int, 2) := by decide +kernel
theorem dX7_init_72 : decode cX7_init 72 = .ok (.putfield 34, 3) := by decide +kernel
theorem dX7_init_75 : decode cX7_init 75 = .ok (.aload_n 0, 1) := by decide +kernel
theorem dX7_init_76 : decode cX7_init 76 = .ok (.getfield 9, 3) := by decide +kernel
theorem dX7_init_79 : decode cX7_init 79 = .ok (.iconst 0, 1) := by decide +kernel
theorem dX7_init_80 : decode cX7_init 80 = .ok (.bipush 6, 2) := by decide +kernel
theorem dX7_init_82 : decode cX7_init 82 = .ok (.iastore, 1) := by decide +kernel
theorem dX7_init_83 : decode cX7_init 83 = .ok (.aload_n 0, 1) := by decide +kernel
theorem dX7_init_84 : decode cX7_init 84 = .ok (.getfield 9, 3) := by decide +kernel
theorem dX7_init_87 : decode cX7_init 87 = .ok (.iconst 1, 1) := by decide +kernel
theorem dX7_init_88 : decode cX7_init 88 = .ok (.bipush (-8), 2) := by decide +kernel
theorem dX7_init_90 : decode cX7_init 90 = .ok (.iastore, 1) := by decide +kernel
theorem dX7_init_91 : decode cX7_init 91 = .ok (.aload_n 0, 1) := by decide +kernel
theorem dX7_init_92 : decode cX7_init 92 = .ok (.getfield 9, 3) := by decide +kernel
theorem dX7_init_95 : decode cX7_init 95 = .ok (.iconst 2, 1) := by decide +kernel
theorem dX7_init_96 : decode cX7_init 96 = .ok (.bipush (-8), 2) := by decide +kernel
theorem dX7_init_98 : decode cX7_init 98 = .ok (.iastore, 1) := by decide +kernel
theorem dX7_init_99 : decode cX7_init 99 = .ok (.aload_n 0, 1) := by decide +kernel
theorem dX7_init_100 : decode cX7_init 100 = .ok (.getfield 9, 3) := by decide +kernel
theorem dX7_init_103 : decode cX7_init 103 = .ok (.bipush 6, 2) := by decide +kernel
theorem dX7_init_105 : decode cX7_init 105 = .ok (.iconst 3, 1) := by decide +kernel
theorem dX7_init_106 : decode cX7_init 106 = .ok (.iastore, 1) := by decide +kernel
theorem dX7_init_107 : decode cX7_init 107 = .ok (.aload_n 0, 1) := by decide +kernel
theorem dX7_init_108 : decode cX7_init 108 = .ok (.getfield 9, 3) := by decide +kernel
theorem dX7_init_111 : decode cX7_init 111 = .ok (.bipush 7, 2) := by decide +kernel
theorem dX7_init_113 : decode cX7_init 113 = .ok (.iconst 3, 1) := by decide +kernel
theorem dX7_init_114 : decode cX7_init 114 = .ok (.iastore, 1) := by decide +kernel
theorem dX7_init_115 : decode cX7_init 115 = .ok (.return_, 1) := by decide +kernel
theorem dX7_isIn_0 : decode cX7_isIn 0 = .ok (.iload_n 0, 1) := by decide +kernel
theorem dX7_isIn_1 : decode cX7_isIn 1 = .ok (.iload_n 1, 1) := by decide +kernel
theorem dX7_isIn_2 : decode cX7_isIn 2 = .ok (.if_icmp .lt 12, 3) := by decide +kernel
theorem dX7_isIn_5 : decode cX7_isIn 5 = .ok (.iload_n 0, 1) := by decide +kernel
theorem dX7_isIn_6 : decode cX7_isIn 6 = .ok (.iload_n 2, 1) := by decide +kernel
theorem dX7_isIn_7 : decode cX7_isIn 7 = .ok (.if_icmp .gt 7, 3) := by decide +kernel
theorem dX7_isIn_10 : decode cX7_isIn 10 = .ok (.iconst 1, 1) := by decide +kernel
theorem dX7_isIn_11 : decode cX7_isIn 11 = .ok (.goto 4, 3) := by decide +kernel
theorem dX7_isIn_14 : decode cX7_isIn 14 = .ok (.iconst 0, 1) := by decide +kernel
theorem dX7_isIn_15 : decode cX7_isIn 15 = .ok (.ireturn, 1) := by decide +kernel
theorem dX7_least_0 : decode cX7_least 0 = .ok (.iload_n 0, 1) := by decide +kernel
theorem dX7_least_1 : decode cX7_least 1 = .ok (.iload_n 1, 1) := by decide +kernel
theorem dX7_least_2 : decode cX7_least 2 = .ok (.if_icmp .ge 7, 3) := by decide +kernel
theorem dX7_least_5 : decode cX7_least 5 = .ok (.iload_n 0, 1) := by decide +kernel
theorem dX7_least_6 : decode cX7_least 6 = .ok (.goto 4, 3) := by decide +kernel
theorem dX7_least_9 : decode cX7_least 9 = .ok (.iload_n 1, 1) := by decide +kernel
theorem dX7_least_10 : decode cX7_least 10 = .ok (.ireturn, 1) := by decide +kernel
theorem dX7_most_0 : decode cX7_most 0 = .ok (.iload_n 0, 1) := by decide +kernel
theorem dX7_most_1 : decode cX7_most 1 = .ok (.iload_n 1, 1) := by decide +kernel
theorem dX7_most_2 : decode cX7_most 2 = .ok (.if_icmp .le 7, 3) := by decide +kernel
theorem dX7_most_5 : decode cX7_most 5 = .ok (.iload_n 0, 1) := by decide +kernel
theorem dX7_most_6 : decode cX7_most 6 = .ok (.goto 4, 3) := by decide +kernel
theorem dX7_most_9 : decode cX7_most 9 = .ok (.iload_n 1, 1) := by decide +kernel
theorem dX7_most_10 : decode cX7_most 10 = .ok (.ireturn, 1) := by decide +kernel
theorem dX7_lays_0 : decode cX7_lays 0 = .ok (.iconst 0, 1) := by decide +kernel
theorem dX7_lays_1 : decode cX7_lays 1 = .ok (.istore_n 2, 1) := by decide +kernel
theorem dX7_lays_2 : decode cX7_lays 2 = .ok (.iload_n 2, 1) := by decide +kernel
theorem dX7_lays_3 : decode cX7_lays 3 = .ok (.bipush 32, 2) := by decide +kernel
theorem dX7_lays_5 : decode cX7_lays 5 = .ok (.if_icmp .ge 15, 3) := by decide +kernel
theorem dX7_lays_8 : decode cX7_lays 8 = .ok (.aload_n 1, 1) := by decide +kernel
theorem dX7_lays_9 : decode cX7_lays 9 = .ok (.iload_n 2, 1) := by decide +kernel
theorem dX7_lays_10 : decode cX7_lays 10 = .ok (.aload_n 0, 1) := by decide +kernel
theorem dX7_lays_11 : decode cX7_lays 11 = .ok (.iload_n 2, 1) := by decide +kernel
theorem dX7_lays_12 : decode cX7_lays 12 = .ok (.iaload, 1) := by decide +kernel
theorem dX7_lays_13 : decode cX7_lays 13 = .ok (.iastore, 1) := by decide +kernel
theorem dX7_lays_14 : decode cX7_lays 14 = .ok (.iinc 2 1, 3) := by decide +kernel
theorem dX7_lays_17 : decode cX7_lays 17 = .ok (.goto (-15), 3) := by decide +kernel
theorem dX7_lays_20 : decode cX7_lays 20 = .ok (.return_, 1) := by decide +kernel
theorem dX7_no_0 : decode cX7_no 0 = .ok (.aload_n 0, 1) := by decide +kernel
theorem dX7_no_1 : decode cX7_no 1 = .ok (.getfield 28, 3) := by decide +kernel
theorem dX7_no_4 : decode cX7_no 4 = .ok (.iload_n 1, 1) := by decide +kernel
theorem dX7_no_5 : decode cX7_no 5 = .ok (.ineg, 1) := by decide +kernel
theorem dX7_no_6 : decode cX7_no 6 = .ok (.dup2, 1) := by decide +kernel
theorem dX7_no_7 : decode cX7_no 7 = .ok (.iaload, 1) := by decide +kernel
theorem dX7_no_8 : decode cX7_no 8 = .ok (.iconst 1, 1) := by decide +kernel
theorem dX7_no_9 : decode cX7_no 9 = .ok (.iadd, 1) := by decide +kernel
theorem dX7_no_10 : decode cX7_no 10 = .ok (.iastore, 1) := by decide +kernel
theorem dX7_no_11 : decode cX7_no 11 = .ok (.iload_n 1, 1) := by decide +kernel
theorem dX7_no_12 : decode cX7_no 12 = .ok (.ireturn, 1) := by decide +kernel
theorem dX7_noFar_0 : decode cX7_noFar 0 = .ok (.ldc 37, 2) := by decide +kernel
theorem dX7_noFar_2 : decode cX7_noFar 2 = .ok (.aload_n 0, 1) := by decide +kernel
theorem dX7_noFar_3 : decode cX7_noFar 3 = .ok (.iload_n 1, 1) := by decide +kernel
theorem dX7_noFar_4 : decode cX7_noFar 4 = .ok (.invokevirtual 38, 3) := by decide +kernel
theorem dX7_noFar_7 : decode cX7_noFar 7 = .ok (.isub, 1) := by decide +kernel
theorem dX7_noFar_8 : decode cX7_noFar 8 = .ok (.ireturn, 1) := by decide +kernel
theorem dX7_isInch_0 : decode cX7_isInch 0 = .ok (.iload_n 1, 1) := by decide +kernel
theorem dX7_isInch_1 : decode cX7_isInch 1 = .ok (.iconst 0, 1) := by decide +kernel
theorem dX7_isInch_2 : decode cX7_isInch 2 = .ok (.aload_n 0, 1) := by decide +kernel
theorem dX7_isInch_3 : decode cX7_isInch 3 = .ok (.getfield 9, 3) := by decide +kernel
theorem dX7_isInch_6 : decode cX7_isInch 6 = .ok (.iconst 0, 1) := by decide +kernel
theorem dX7_isInch_7 : decode cX7_isInch 7 = .ok (.iaload, 1) := by decide +kernel
theorem dX7_isInch_8 : decode cX7_isInch 8 = .ok (.iconst 1, 1) := by decide +kernel
theorem dX7_isInch_9 : decode cX7_isInch 9 = .ok (.isub, 1) := by decide +kernel
theorem dX7_isInch_10 : decode cX7_isInch 10 = .ok (.invokestatic 42, 3) := by decide +kernel
theorem dX7_isInch_13 : decode cX7_isInch 13 = .ok (.ireturn, 1) := by decide +kernel
theorem dX7_isEnd_0 : decode cX7_isEnd 0 = .ok (.iload_n 0, 1) := by decide +kernel
theorem dX7_isEnd_1 : decode cX7_isEnd 1 = .ok (.iconst 0, 1) := by decide +kernel
theorem dX7_isEnd_2 : decode cX7_isEnd 2 = .ok (.iconst 1, 1) := by decide +kernel
theorem dX7_isEnd_3 : decode cX7_isEnd 3 = .ok (.invokestatic 42, 3) := by decide +kernel
theorem dX7_isEnd_6 : decode cX7_isEnd 6 = .ok (.ireturn, 1) := by decide +kernel
theorem dX7_kindOf_0 : decode cX7_kindOf 0 = .ok (.aload_n 0, 1) := by decide +kernel
theorem dX7_kindOf_1 : decode cX7_kindOf 1 = .ok (.bipush 8, 2) := by decide +kernel
theorem dX7_kindOf_3 : decode cX7_kindOf 3 = .ok (.iconst 2, 1) := by decide +kernel
theorem dX7_kindOf_4 : decode cX7_kindOf 4 = .ok (.iload_n 1, 1) := by decide +kernel
theorem dX7_kindOf_5 : decode cX7_kindOf 5 = .ok (.imul, 1) := by decide +kernel
theorem dX7_kindOf_6 : decode cX7_kindOf 6 = .ok (.iadd, 1) := by decide +kernel
theorem dX7_kindOf_7 : decode cX7_kindOf 7 = .ok (.iaload, 1) := by decide +kernel
theorem dX7_kindOf_8 : decode cX7_kindOf 8 = .ok (.ireturn, 1) := by decide +kernel
theorem dX7_figureOf_0 : decode cX7_figureOf 0 = .ok (.aload_n 0, 1) := by decide +kernel
theorem dX7_figureOf_1 : decode cX7_figureOf 1 = .ok (.bipush 8, 2) := by decide +kernel
theorem dX7_figureOf_3 : decode cX7_figureOf 3 = .ok (.iconst 2, 1) := by decide +kernel
theorem dX7_figureOf_4 : decode cX7_figureOf 4 = .ok (.iload_n 1, 1) := by decide +kernel
theorem dX7_figureOf_5 : decode cX7_figureOf 5 = .ok (.imul, 1) := by decide +kernel
theorem dX7_figureOf_6 : decode cX7_figureOf 6 = .ok (.iadd, 1) := by decide +kernel
theorem dX7_figureOf_7 : decode cX7_figureOf 7 = .ok (.iconst 1, 1) := by decide +kernel
theorem dX7_figureOf_8 : decode cX7_figureOf 8 = .ok (.iadd, 1) := by decide +kernel
theorem dX7_figureOf_9 : decode cX7_figureOf 9 = .ok (.iaload, 1) := by decide +kernel
theorem dX7_figureOf_10 : decode cX7_figureOf 10 = .ok (.ireturn, 1) := by decide +kernel
theorem dX7_isSeam_0 : decode cX7_isSeam 0 = .ok (.iload_n 0, 1) := by decide +kernel
theorem dX7_isSeam_1 : decode cX7_isSeam 1 = .ok (.iconst 1, 1) := by decide +kernel
theorem dX7_isSeam_2 : decode cX7_isSeam 2 = .ok (.if_icmp .eq 13, 3) := by decide +kernel
theorem dX7_isSeam_5 : decode cX7_isSeam 5 = .ok (.iload_n 0, 1) := by decide +kernel
theorem dX7_isSeam_6 : decode cX7_isSeam 6 = .ok (.iconst 3, 1) := by decide +kernel
theorem dX7_isSeam_7 : decode cX7_isSeam 7 = .ok (.if_icmp .eq 8, 3) := by decide +kernel
theorem dX7_isSeam_10 : decode cX7_isSeam 10 = .ok (.iload_n 0, 1) := by decide +kernel
theorem dX7_isSeam_11 : decode cX7_isSeam 11 = .ok (.iconst 5, 1) := by decide +kernel
theorem dX7_isSeam_12 : decode cX7_isSeam 12 = .ok (.if_icmp .ne 7, 3) := by decide +kernel
theorem dX7_isSeam_15 : decode cX7_isSeam 15 = .ok (.iconst 1, 1) := by decide +kernel
theorem dX7_isSeam_16 : decode cX7_isSeam 16 = .ok (.goto 4, 3) := by decide +kernel
theorem dX7_isSeam_19 : decode cX7_isSeam 19 = .ok (.iconst 0, 1) := by decide +kernel
theorem dX7_isSeam_20 : decode cX7_isSeam 20 = .ok (.ireturn, 1) := by decide +kernel
theorem dX7_movesAt_0 : decode cX7_movesAt 0 = .ok (.aload_n 0, 1) := by decide +kernel
theorem dX7_movesAt_1 : decode cX7_movesAt 1 = .ok (.iload_n 1, 1) := by decide +kernel
theorem dX7_movesAt_2 : decode cX7_movesAt 2 = .ok (.invokestatic 46, 3) := by decide +kernel
theorem dX7_movesAt_5 : decode cX7_movesAt 5 = .ok (.istore_n 2, 1) := by decide +kernel
theorem dX7_movesAt_6 : decode cX7_movesAt 6 = .ok (.iload_n 2, 1) := by decide +kernel
theorem dX7_movesAt_7 : decode cX7_movesAt 7 = .ok (.iconst 3, 1) := by decide +kernel
theorem dX7_movesAt_8 : decode cX7_movesAt 8 = .ok (.if_icmp .ne 7, 3) := by decide +kernel
theorem dX7_movesAt_11 : decode cX7_movesAt 11 = .ok (.iconst 0, 1) := by decide +kernel
theorem dX7_movesAt_12 : decode cX7_movesAt 12 = .ok (.goto 24, 3) := by decide +kernel
theorem dX7_movesAt_15 : decode cX7_movesAt 15 = .ok (.iload_n 2, 1) := by decide +kernel
theorem dX7_movesAt_16 : decode cX7_movesAt 16 = .ok (.invokestatic 50, 3) := by decide +kernel
theorem dX7_movesAt_19 : decode cX7_movesAt 19 = .ok (.ifCond .eq 7, 3) := by decide +kernel
theorem dX7_movesAt_22 : decode cX7_movesAt 22 = .ok (.iconst 1, 1) := by decide +kernel
theorem dX7_movesAt_23 : decode cX7_movesAt 23 = .ok (.goto 13, 3) := by decide +kernel
theorem dX7_movesAt_26 : decode cX7_movesAt 26 = .ok (.iload_n 2, 1) := by decide +kernel
theorem dX7_movesAt_27 : decode cX7_movesAt 27 = .ok (.iconst 2, 1) := by decide +kernel
theorem dX7_movesAt_28 : decode cX7_movesAt 28 = .ok (.if_icmp .ne 7, 3) := by decide +kernel
theorem dX7_movesAt_31 : decode cX7_movesAt 31 = .ok (.iconst 3, 1) := by decide +kernel
theorem dX7_movesAt_32 : decode cX7_movesAt 32 = .ok (.goto 4, 3) := by decide +kernel
theorem dX7_movesAt_35 : decode cX7_movesAt 35 = .ok (.iconst 2, 1) := by decide +kernel
theorem dX7_movesAt_36 : decode cX7_movesAt 36 = .ok (.ireturn, 1) := by decide +kernel
theorem dX7_bunchAt_0 : decode cX7_bunchAt 0 = .ok (.aload_n 0, 1) := by decide +kernel
theorem dX7_bunchAt_1 : decode cX7_bunchAt 1 = .ok (.iload_n 1, 1) := by decide +kernel
theorem dX7_bunchAt_2 : decode cX7_bunchAt 2 = .ok (.invokestatic 46, 3) := by decide +kernel
theorem dX7_bunchAt_5 : decode cX7_bunchAt 5 = .ok (.istore_n 2, 1) := by decide +kernel
theorem dX7_bunchAt_6 : decode cX7_bunchAt 6 = .ok (.iload_n 2, 1) := by decide +kernel
theorem dX7_bunchAt_7 : decode cX7_bunchAt 7 = .ok (.invokestatic 50, 3) := by decide +kernel
theorem dX7_bunchAt_10 : decode cX7_bunchAt 10 = .ok (.ifCond .eq 7, 3) := by decide +kernel
theorem dX7_bunchAt_13 : decode cX7_bunchAt 13 = .ok (.iconst 5, 1) := by decide +kernel
theorem dX7_bunchAt_14 : decode cX7_bunchAt 14 = .ok (.goto 19, 3) := by decide +kernel
theorem dX7_bunchAt_17 : decode cX7_bunchAt 17 = .ok (.iload_n 2, 1) := by decide +kernel
theorem dX7_bunchAt_18 : decode cX7_bunchAt 18 = .ok (.iconst 4, 1) := by decide +kernel
theorem dX7_bunchAt_19 : decode cX7_bunchAt 19 = .ok (.if_icmp .ne 13, 3) := by decide +kernel
theorem dX7_bunchAt_22 : decode cX7_bunchAt 22 = .ok (.iconst 3, 1) := by decide +kernel
theorem dX7_bunchAt_23 : decode cX7_bunchAt 23 = .ok (.aload_n 0, 1) := by decide +kernel
theorem dX7_bunchAt_24 : decode cX7_bunchAt 24 = .ok (.iload_n 1, 1) := by decide +kernel
theorem dX7_bunchAt_25 : decode cX7_bunchAt 25 = .ok (.invokestatic 54, 3) := by decide +kernel
theorem dX7_bunchAt_28 : decode cX7_bunchAt 28 = .ok (.iadd, 1) := by decide +kernel
theorem dX7_bunchAt_29 : decode cX7_bunchAt 29 = .ok (.goto 4, 3) := by decide +kernel
theorem dX7_bunchAt_32 : decode cX7_bunchAt 32 = .ok (.iconst 3, 1) := by decide +kernel
theorem dX7_bunchAt_33 : decode cX7_bunchAt 33 = .ok (.ireturn, 1) := by decide +kernel
theorem dX7_threadAt_0 : decode cX7_threadAt 0 = .ok (.aload_n 0, 1) := by decide +kernel
theorem dX7_threadAt_1 : decode cX7_threadAt 1 = .ok (.iload_n 1, 1) := by decide +kernel
theorem dX7_threadAt_2 : decode cX7_threadAt 2 = .ok (.invokestatic 46, 3) := by decide +kernel
theorem dX7_threadAt_5 : decode cX7_threadAt 5 = .ok (.istore_n 2, 1) := by decide +kernel
theorem dX7_threadAt_6 : decode cX7_threadAt 6 = .ok (.iload_n 2, 1) := by decide +kernel
theorem dX7_threadAt_7 : decode cX7_threadAt 7 = .ok (.iconst 3, 1) := by decide +kernel
theorem dX7_threadAt_8 : decode cX7_threadAt 8 = .ok (.if_icmp .ne 14, 3) := by decide +kernel
theorem dX7_threadAt_11 : decode cX7_threadAt 11 = .ok (.bipush 9, 2) := by decide +kernel
theorem dX7_threadAt_13 : decode cX7_threadAt 13 = .ok (.aload_n 0, 1) := by decide +kernel
theorem dX7_threadAt_14 : decode cX7_threadAt 14 = .ok (.iload_n 1, 1) := by decide +kernel
theorem dX7_threadAt_15 : decode cX7_threadAt 15 = .ok (.invokestatic 54, 3) := by decide +kernel
theorem dX7_threadAt_18 : decode cX7_threadAt 18 = .ok (.iadd, 1) := by decide +kernel
theorem dX7_threadAt_19 : decode cX7_threadAt 19 = .ok (.goto 26, 3) := by decide +kernel
theorem dX7_threadAt_22 : decode cX7_threadAt 22 = .ok (.iload_n 2, 1) := by decide +kernel
theorem dX7_threadAt_23 : decode cX7_threadAt 23 = .ok (.invokestatic 50, 3) := by decide +kernel
theorem dX7_threadAt_26 : decode cX7_threadAt 26 = .ok (.ifCond .eq 8, 3) := by decide +kernel
theorem dX7_threadAt_29 : decode cX7_threadAt 29 = .ok (.bipush 9, 2) := by decide +kernel
theorem dX7_threadAt_31 : decode cX7_threadAt 31 = .ok (.goto 14, 3) := by decide +kernel
theorem dX7_threadAt_34 : decode cX7_threadAt 34 = .ok (.iload_n 2, 1) := by decide +kernel
theorem dX7_threadAt_35 : decode cX7_threadAt 35 = .ok (.iconst 4, 1) := by decide +kernel
theorem dX7_threadAt_36 : decode cX7_threadAt 36 = .ok (.if_icmp .ne 8, 3) := by decide +kernel
theorem dX7_threadAt_39 : decode cX7_threadAt 39 = .ok (.bipush 6, 2) := by decide +kernel
theorem dX7_threadAt_41 : decode cX7_threadAt 41 = .ok (.goto 4, 3) := by decide +kernel
theorem dX7_threadAt_44 : decode cX7_threadAt 44 = .ok (.iconst 4, 1) := by decide +kernel
theorem dX7_threadAt_45 : decode cX7_threadAt 45 = .ok (.ireturn, 1) := by decide +kernel
theorem dX7_drawsAt_0 : decode cX7_drawsAt 0 = .ok (.aload_n 0, 1) := by decide +kernel
theorem dX7_drawsAt_1 : decode cX7_drawsAt 1 = .ok (.iload_n 1, 1) := by decide +kernel
theorem dX7_drawsAt_2 : decode cX7_drawsAt 2 = .ok (.invokestatic 46, 3) := by decide +kernel
theorem dX7_drawsAt_5 : decode cX7_drawsAt 5 = .ok (.istore_n 2, 1) := by decide +kernel
theorem dX7_drawsAt_6 : decode cX7_drawsAt 6 = .ok (.iload_n 2, 1) := by decide +kernel
theorem dX7_drawsAt_7 : decode cX7_drawsAt 7 = .ok (.iconst 5, 1) := by decide +kernel
theorem dX7_drawsAt_8 : decode cX7_drawsAt 8 = .ok (.if_icmp .ne 7, 3) := by decide +kernel
theorem dX7_drawsAt_11 : decode cX7_drawsAt 11 = .ok (.iconst 0, 1) := by decide +kernel
theorem dX7_drawsAt_12 : decode cX7_drawsAt 12 = .ok (.goto 37, 3) := by decide +kernel
theorem dX7_drawsAt_15 : decode cX7_drawsAt 15 = .ok (.iload_n 2, 1) := by decide +kernel
theorem dX7_drawsAt_16 : decode cX7_drawsAt 16 = .ok (.invokestatic 50, 3) := by decide +kernel
theorem dX7_drawsAt_19 : decode cX7_drawsAt 19 = .ok (.ifCond .eq 12, 3) := by decide +kernel
theorem dX7_drawsAt_22 : decode cX7_drawsAt 22 = .ok (.aload_n 0, 1) := by decide +kernel
theorem dX7_drawsAt_23 : decode cX7_drawsAt 23 = .ok (.bipush 7, 2) := by decide +kernel
theorem dX7_drawsAt_25 : decode cX7_drawsAt 25 = .ok (.iaload, 1) := by decide +kernel
theorem dX7_drawsAt_26 : decode cX7_drawsAt 26 = .ok (.iconst 2, 1) := by decide +kernel
theorem dX7_drawsAt_27 : decode cX7_drawsAt 27 = .ok (.idiv, 1) := by decide +kernel
theorem dX7_drawsAt_28 : decode cX7_drawsAt 28 = .ok (.goto 21, 3) := by decide +kernel
theorem dX7_drawsAt_31 : decode cX7_drawsAt 31 = .ok (.iload_n 2, 1) := by decide +kernel
theorem dX7_drawsAt_32 : decode cX7_drawsAt 32 = .ok (.iconst 2, 1) := by decide +kernel
theorem dX7_drawsAt_33 : decode cX7_drawsAt 33 = .ok (.if_icmp .ne 12, 3) := by decide +kernel
theorem dX7_drawsAt_36 : decode cX7_drawsAt 36 = .ok (.aload_n 0, 1) := by decide +kernel
theorem dX7_drawsAt_37 : decode cX7_drawsAt 37 = .ok (.bipush 7, 2) := by decide +kernel
theorem dX7_drawsAt_39 : decode cX7_drawsAt 39 = .ok (.iaload, 1) := by decide +kernel
theorem dX7_drawsAt_40 : decode cX7_drawsAt 40 = .ok (.iconst 1, 1) := by decide +kernel
theorem dX7_drawsAt_41 : decode cX7_drawsAt 41 = .ok (.iadd, 1) := by decide +kernel
theorem dX7_drawsAt_42 : decode cX7_drawsAt 42 = .ok (.goto 7, 3) := by decide +kernel
theorem dX7_drawsAt_45 : decode cX7_drawsAt 45 = .ok (.aload_n 0, 1) := by decide +kernel
theorem dX7_drawsAt_46 : decode cX7_drawsAt 46 = .ok (.bipush 7, 2) := by decide +kernel
theorem dX7_drawsAt_48 : decode cX7_drawsAt 48 = .ok (.iaload, 1) := by decide +kernel
theorem dX7_drawsAt_49 : decode cX7_drawsAt 49 = .ok (.ireturn, 1) := by decide +kernel
theorem dX7_inchOf_0 : decode cX7_inchOf 0 = .ok (.aload_n 0, 1) := by decide +kernel
theorem dX7_inchOf_1 : decode cX7_inchOf 1 = .ok (.iconst 1, 1) := by decide +kernel
theorem dX7_inchOf_2 : decode cX7_inchOf 2 = .ok (.iload_n 1, 1) := by decide +kernel
theorem dX7_inchOf_3 : decode cX7_inchOf 3 = .ok (.iadd, 1) := by decide +kernel
theorem dX7_inchOf_4 : decode cX7_inchOf 4 = .ok (.iaload, 1) := by decide +kernel
theorem dX7_inchOf_5 : decode cX7_inchOf 5 = .ok (.iconst 1, 1) := by decide +kernel
theorem dX7_inchOf_6 : decode cX7_inchOf 6 = .ok (.if_icmp .ge 7, 3) := by decide +kernel
theorem dX7_inchOf_9 : decode cX7_inchOf 9 = .ok (.iconst 0, 1) := by decide +kernel
theorem dX7_inchOf_10 : decode cX7_inchOf 10 = .ok (.goto 20, 3) := by decide +kernel
theorem dX7_inchOf_13 : decode cX7_inchOf 13 = .ok (.aload_n 0, 1) := by decide +kernel
theorem dX7_inchOf_14 : decode cX7_inchOf 14 = .ok (.iconst 0, 1) := by decide +kernel
theorem dX7_inchOf_15 : decode cX7_inchOf 15 = .ok (.iaload, 1) := by decide +kernel
theorem dX7_inchOf_16 : decode cX7_inchOf 16 = .ok (.iconst 1, 1) := by decide +kernel
theorem dX7_inchOf_17 : decode cX7_inchOf 17 = .ok (.isub, 1) := by decide +kernel
theorem dX7_inchOf_18 : decode cX7_inchOf 18 = .ok (.aload_n 0, 1) := by decide +kernel
theorem dX7_inchOf_19 : decode cX7_inchOf 19 = .ok (.iconst 1, 1) := by decide +kernel
theorem dX7_inchOf_20 : decode cX7_inchOf 20 = .ok (.iload_n 1, 1) := by decide +kernel
theorem dX7_inchOf_21 : decode cX7_inchOf 21 = .ok (.iadd, 1) := by decide +kernel
theorem dX7_inchOf_22 : decode cX7_inchOf 22 = .ok (.iaload, 1) := by decide +kernel
theorem dX7_inchOf_23 : decode cX7_inchOf 23 = .ok (.iconst 1, 1) := by decide +kernel
theorem dX7_inchOf_24 : decode cX7_inchOf 24 = .ok (.isub, 1) := by decide +kernel
theorem dX7_inchOf_25 : decode cX7_inchOf 25 = .ok (.iconst 2, 1) := by decide +kernel
theorem dX7_inchOf_26 : decode cX7_inchOf 26 = .ok (.idiv, 1) := by decide +kernel
theorem dX7_inchOf_27 : decode cX7_inchOf 27 = .ok (.invokestatic 57, 3) := by decide +kernel
theorem dX7_inchOf_30 : decode cX7_inchOf 30 = .ok (.istore_n 2, 1) := by decide +kernel
theorem dX7_inchOf_31 : decode cX7_inchOf 31 = .ok (.iload_n 1, 1) := by decide +kernel
theorem dX7_inchOf_32 : decode cX7_inchOf 32 = .ok (.ifCond .ne 7, 3) := by decide +kernel
theorem dX7_inchOf_35 : decode cX7_inchOf 35 = .ok (.iload_n 2, 1) := by decide +kernel
theorem dX7_inchOf_36 : decode cX7_inchOf 36 = .ok (.goto 10, 3) := by decide +kernel
theorem dX7_inchOf_39 : decode cX7_inchOf 39 = .ok (.aload_n 0, 1) := by decide +kernel
theorem dX7_inchOf_40 : decode cX7_inchOf 40 = .ok (.iconst 0, 1) := by decide +kernel
theorem dX7_inchOf_41 : decode cX7_inchOf 41 = .ok (.iaload, 1) := by decide +kernel
theorem dX7_inchOf_42 : decode cX7_inchOf 42 = .ok (.iconst 1, 1) := by decide +kernel
theorem dX7_inchOf_43 : decode cX7_inchOf 43 = .ok (.isub, 1) := by decide +kernel
theorem dX7_inchOf_44 : decode cX7_inchOf 44 = .ok (.iload_n 2, 1) := by decide +kernel
theorem dX7_inchOf_45 : decode cX7_inchOf 45 = .ok (.isub, 1) := by decide +kernel
theorem dX7_inchOf_46 : decode cX7_inchOf 46 = .ok (.ireturn, 1) := by decide +kernel
theorem dX7_isLost_0 : decode cX7_isLost 0 = .ok (.aload_n 0, 1) := by decide +kernel
theorem dX7_isLost_1 : decode cX7_isLost 1 = .ok (.iconst 1, 1) := by decide +kernel
theorem dX7_isLost_2 : decode cX7_isLost 2 = .ok (.iload_n 1, 1) := by decide +kernel
theorem dX7_isLost_3 : decode cX7_isLost 3 = .ok (.iadd, 1) := by decide +kernel
theorem dX7_isLost_4 : decode cX7_isLost 4 = .ok (.iaload, 1) := by decide +kernel
theorem dX7_isLost_5 : decode cX7_isLost 5 = .ok (.ifCond .le 7, 3) := by decide +kernel
theorem dX7_isLost_8 : decode cX7_isLost 8 = .ok (.iconst 1, 1) := by decide +kernel
theorem dX7_isLost_9 : decode cX7_isLost 9 = .ok (.goto 4, 3) := by decide +kernel
theorem dX7_isLost_12 : decode cX7_isLost 12 = .ok (.iconst 0, 1) := by decide +kernel
theorem dX7_isLost_13 : decode cX7_isLost 13 = .ok (.ireturn, 1) := by decide +kernel
theorem dX7_canPull_0 : decode cX7_canPull 0 = .ok (.aload_n 0, 1) := by decide +kernel
theorem dX7_canPull_1 : decode cX7_canPull 1 = .ok (.iconst 5, 1) := by decide +kernel
theorem dX7_canPull_2 : decode cX7_canPull 2 = .ok (.iaload, 1) := by decide +kernel
theorem dX7_canPull_3 : decode cX7_canPull 3 = .ok (.iconst 1, 1) := by decide +kernel
theorem dX7_canPull_4 : decode cX7_canPull 4 = .ok (.if_icmp .ne 5, 3) := by decide +kernel
theorem dX7_canPull_7 : decode cX7_canPull 7 = .ok (.iconst 0, 1) := by decide +kernel
theorem dX7_canPull_8 : decode cX7_canPull 8 = .ok (.ireturn, 1) := by decide +kernel
theorem dX7_canPull_9 : decode cX7_canPull 9 = .ok (.aload_n 0, 1) := by decide +kernel
theorem dX7_canPull_10 : decode cX7_canPull 10 = .ok (.iconst 2, 1) := by decide +kernel
theorem dX7_canPull_11 : decode cX7_canPull 11 = .ok (.iload_n 1, 1) := by decide +kernel
theorem dX7_canPull_12 : decode cX7_canPull 12 = .ok (.isub, 1) := by decide +kernel
theorem dX7_canPull_13 : decode cX7_canPull 13 = .ok (.iaload, 1) := by decide +kernel
theorem dX7_canPull_14 : decode cX7_canPull 14 = .ok (.istore_n 3, 1) := by decide +kernel
theorem dX7_canPull_15 : decode cX7_canPull 15 = .ok (.aload_n 0, 1) := by decide +kernel
theorem dX7_canPull_16 : decode cX7_canPull 16 = .ok (.iconst 4, 1) := by decide +kernel
theorem dX7_canPull_17 : decode cX7_canPull 17 = .ok (.iload_n 1, 1) := by decide +kernel
theorem dX7_canPull_18 : decode cX7_canPull 18 = .ok (.isub, 1) := by decide +kernel
theorem dX7_canPull_19 : decode cX7_canPull 19 = .ok (.iaload, 1) := by decide +kernel
theorem dX7_canPull_20 : decode cX7_canPull 20 = .ok (.iconst 1, 1) := by decide +kernel
theorem dX7_canPull_21 : decode cX7_canPull 21 = .ok (.if_icmp .ne 12, 3) := by decide +kernel
theorem dX7_canPull_24 : decode cX7_canPull 24 = .ok (.iconst 0, 1) := by decide +kernel
theorem dX7_canPull_25 : decode cX7_canPull 25 = .ok (.iload_n 3, 1) := by decide +kernel
theorem dX7_canPull_26 : decode cX7_canPull 26 = .ok (.ineg, 1) := by decide +kernel
theorem dX7_canPull_27 : decode cX7_canPull 27 = .ok (.invokestatic 61, 3) := by decide +kernel
theorem dX7_canPull_30 : decode cX7_canPull 30 = .ok (.goto 7, 3) := by decide +kernel
theorem dX7_canPull_33 : decode cX7_canPull 33 = .ok (.bipush 24, 2) := by decide +kernel
theorem dX7_canPull_35 : decode cX7_canPull 35 = .ok (.iload_n 3, 1) := by decide +kernel
theorem dX7_canPull_36 : decode cX7_canPull 36 = .ok (.isub, 1) := by decide +kernel
theorem dX7_canPull_37 : decode cX7_canPull 37 = .ok (.istore 4, 2) := by decide +kernel
theorem dX7_canPull_39 : decode cX7_canPull 39 = .ok (.iconst 0, 1) := by decide +kernel
theorem dX7_canPull_40 : decode cX7_canPull 40 = .ok (.iload_n 2, 1) := by decide +kernel
theorem dX7_canPull_41 : decode cX7_canPull 41 = .ok (.aload_n 0, 1) := by decide +kernel
theorem dX7_canPull_42 : decode cX7_canPull 42 = .ok (.iconst 1, 1) := by decide +kernel
theorem dX7_canPull_43 : decode cX7_canPull 43 = .ok (.iload_n 1, 1) := by decide +kernel
theorem dX7_canPull_44 : decode cX7_canPull 44 = .ok (.iadd, 1) := by decide +kernel
theorem dX7_canPull_45 : decode cX7_canPull 45 = .ok (.iaload, 1) := by decide +kernel
theorem dX7_canPull_46 : decode cX7_canPull 46 = .ok (.bipush (-40), 2) := by decide +kernel
theorem dX7_canPull_48 : decode cX7_canPull 48 = .ok (.isub, 1) := by decide +kernel
theorem dX7_canPull_49 : decode cX7_canPull 49 = .ok (.iload 4, 2) := by decide +kernel
theorem dX7_canPull_51 : decode cX7_canPull 51 = .ok (.invokestatic 57, 3) := by decide +kernel
theorem dX7_canPull_54 : decode cX7_canPull 54 = .ok (.invokestatic 57, 3) := by decide +kernel
theorem dX7_canPull_57 : decode cX7_canPull 57 = .ok (.invokestatic 61, 3) := by decide +kernel
theorem dX7_canPull_60 : decode cX7_canPull 60 = .ok (.ireturn, 1) := by decide +kernel
theorem dX7_pulls_0 : decode cX7_pulls 0 = .ok (.aload_n 0, 1) := by decide +kernel
theorem dX7_pulls_1 : decode cX7_pulls 1 = .ok (.iload_n 1, 1) := by decide +kernel
theorem dX7_pulls_2 : decode cX7_pulls 2 = .ok (.iload_n 2, 1) := by decide +kernel
theorem dX7_pulls_3 : decode cX7_pulls 3 = .ok (.invokestatic 64, 3) := by decide +kernel
theorem dX7_pulls_6 : decode cX7_pulls 6 = .ok (.istore_n 3, 1) := by decide +kernel
theorem dX7_pulls_7 : decode cX7_pulls 7 = .ok (.aload_n 0, 1) := by decide +kernel
theorem dX7_pulls_8 : decode cX7_pulls 8 = .ok (.iconst 1, 1) := by decide +kernel
theorem dX7_pulls_9 : decode cX7_pulls 9 = .ok (.iload_n 1, 1) := by decide +kernel
theorem dX7_pulls_10 : decode cX7_pulls 10 = .ok (.iadd, 1) := by decide +kernel
theorem dX7_pulls_11 : decode cX7_pulls 11 = .ok (.dup2, 1) := by decide +kernel
theorem dX7_pulls_12 : decode cX7_pulls 12 = .ok (.iaload, 1) := by decide +kernel
theorem dX7_pulls_13 : decode cX7_pulls 13 = .ok (.iload_n 3, 1) := by decide +kernel
theorem dX7_pulls_14 : decode cX7_pulls 14 = .ok (.isub, 1) := by decide +kernel
theorem dX7_pulls_15 : decode cX7_pulls 15 = .ok (.iastore, 1) := by decide +kernel
theorem dX7_pulls_16 : decode cX7_pulls 16 = .ok (.aload_n 0, 1) := by decide +kernel
theorem dX7_pulls_17 : decode cX7_pulls 17 = .ok (.iconst 2, 1) := by decide +kernel
theorem dX7_pulls_18 : decode cX7_pulls 18 = .ok (.iload_n 1, 1) := by decide +kernel
theorem dX7_pulls_19 : decode cX7_pulls 19 = .ok (.isub, 1) := by decide +kernel
theorem dX7_pulls_20 : decode cX7_pulls 20 = .ok (.dup2, 1) := by decide +kernel
theorem dX7_pulls_21 : decode cX7_pulls 21 = .ok (.iaload, 1) := by decide +kernel
theorem dX7_pulls_22 : decode cX7_pulls 22 = .ok (.iload_n 3, 1) := by decide +kernel
theorem dX7_pulls_23 : decode cX7_pulls 23 = .ok (.iadd, 1) := by decide +kernel
theorem dX7_pulls_24 : decode cX7_pulls 24 = .ok (.iastore, 1) := by decide +kernel
theorem dX7_pulls_25 : decode cX7_pulls 25 = .ok (.iload_n 3, 1) := by decide +kernel
theorem dX7_pulls_26 : decode cX7_pulls 26 = .ok (.ireturn, 1) := by decide +kernel
theorem dX7_washes_0 : decode cX7_washes 0 = .ok (.aload_n 0, 1) := by decide +kernel
theorem dX7_washes_1 : decode cX7_washes 1 = .ok (.iconst 2, 1) := by decide +kernel
theorem dX7_washes_2 : decode cX7_washes 2 = .ok (.iaload, 1) := by decide +kernel
theorem dX7_washes_3 : decode cX7_washes 3 = .ok (.aload_n 0, 1) := by decide +kernel
theorem dX7_washes_4 : decode cX7_washes 4 = .ok (.iconst 1, 1) := by decide +kernel
theorem dX7_washes_5 : decode cX7_washes 5 = .ok (.iaload, 1) := by decide +kernel
theorem dX7_washes_6 : decode cX7_washes 6 = .ok (.if_icmp .le 7, 3) := by decide +kernel
theorem dX7_washes_9 : decode cX7_washes 9 = .ok (.iconst 1, 1) := by decide +kernel
theorem dX7_washes_10 : decode cX7_washes 10 = .ok (.goto 4, 3) := by decide +kernel
theorem dX7_washes_13 : decode cX7_washes 13 = .ok (.iconst 0, 1) := by decide +kernel
theorem dX7_washes_14 : decode cX7_washes 14 = .ok (.istore_n 1, 1) := by decide +kernel
theorem dX7_washes_15 : decode cX7_washes 15 = .ok (.aload_n 0, 1) := by decide +kernel
theorem dX7_washes_16 : decode cX7_washes 16 = .ok (.iconst 1, 1) := by decide +kernel
theorem dX7_washes_17 : decode cX7_washes 17 = .ok (.iload_n 1, 1) := by decide +kernel
theorem dX7_washes_18 : decode cX7_washes 18 = .ok (.isub, 1) := by decide +kernel
theorem dX7_washes_19 : decode cX7_washes 19 = .ok (.aload_n 0, 1) := by decide +kernel
theorem dX7_washes_20 : decode cX7_washes 20 = .ok (.aload_n 0, 1) := by decide +kernel
theorem dX7_washes_21 : decode cX7_washes 21 = .ok (.iload_n 1, 1) := by decide +kernel
theorem dX7_washes_22 : decode cX7_washes 22 = .ok (.invokestatic 68, 3) := by decide +kernel
theorem dX7_washes_25 : decode cX7_washes 25 = .ok (.invokestatic 71, 3) := by decide +kernel
theorem dX7_washes_28 : decode cX7_washes 28 = .ok (.invokestatic 74, 3) := by decide +kernel
theorem dX7_washes_31 : decode cX7_washes 31 = .ok (.ireturn, 1) := by decide +kernel
theorem dX7_washesOn_0 : decode cX7_washesOn 0 = .ok (.iconst 0, 1) := by decide +kernel
theorem dX7_washesOn_1 : decode cX7_washesOn 1 = .ok (.istore_n 2, 1) := by decide +kernel
theorem dX7_washesOn_2 : decode cX7_washesOn 2 = .ok (.iconst 0, 1) := by decide +kernel
theorem dX7_washesOn_3 : decode cX7_washesOn 3 = .ok (.istore_n 3, 1) := by decide +kernel
theorem dX7_washesOn_4 : decode cX7_washesOn 4 = .ok (.iload_n 3, 1) := by decide +kernel
theorem dX7_washesOn_5 : decode cX7_washesOn 5 = .ok (.iload_n 1, 1) := by decide +kernel
theorem dX7_washesOn_6 : decode cX7_washesOn 6 = .ok (.if_icmp .ge 16, 3) := by decide +kernel
theorem dX7_washesOn_9 : decode cX7_washesOn 9 = .ok (.iload_n 2, 1) := by decide +kernel
theorem dX7_washesOn_10 : decode cX7_washesOn 10 = .ok (.aload_n 0, 1) := by decide +kernel
theorem dX7_washesOn_11 : decode cX7_washesOn 11 = .ok (.invokestatic 77, 3) := by decide +kernel
theorem dX7_washesOn_14 : decode cX7_washesOn 14 = .ok (.iadd, 1) := by decide +kernel
theorem dX7_washesOn_15 : decode cX7_washesOn 15 = .ok (.istore_n 2, 1) := by decide +kernel
theorem dX7_washesOn_16 : decode cX7_washesOn 16 = .ok (.iinc 3 1, 3) := by decide +kernel
theorem dX7_washesOn_19 : decode cX7_washesOn 19 = .ok (.goto (-15), 3) := by decide +kernel
theorem dX7_washesOn_22 : decode cX7_washesOn 22 = .ok (.return_, 1) := by decide +kernel
theorem dX7_bunches_0 : decode cX7_bunches 0 = .ok (.aload_n 0, 1) := by decide +kernel
theorem dX7_bunches_1 : decode cX7_bunches 1 = .ok (.iconst 1, 1) := by decide +kernel
theorem dX7_bunches_2 : decode cX7_bunches 2 = .ok (.iload_n 1, 1) := by decide +kernel
theorem dX7_bunches_3 : decode cX7_bunches 3 = .ok (.iadd, 1) := by decide +kernel
theorem dX7_bunches_4 : decode cX7_bunches 4 = .ok (.iconst 0, 1) := by decide +kernel
theorem dX7_bunches_5 : decode cX7_bunches 5 = .ok (.aload_n 0, 1) := by decide +kernel
theorem dX7_bunches_6 : decode cX7_bunches 6 = .ok (.iconst 1, 1) := by decide +kernel
theorem dX7_bunches_7 : decode cX7_bunches 7 = .ok (.iload_n 1, 1) := by decide +kernel
theorem dX7_bunches_8 : decode cX7_bunches 8 = .ok (.iadd, 1) := by decide +kernel
theorem dX7_bunches_9 : decode cX7_bunches 9 = .ok (.iaload, 1) := by decide +kernel
theorem dX7_bunches_10 : decode cX7_bunches 10 = .ok (.aload_n 0, 1) := by decide +kernel
theorem dX7_bunches_11 : decode cX7_bunches 11 = .ok (.aload_n 0, 1) := by decide +kernel
theorem dX7_bunches_12 : decode cX7_bunches 12 = .ok (.iload_n 1, 1) := by decide +kernel
theorem dX7_bunches_13 : decode cX7_bunches 13 = .ok (.invokestatic 68, 3) := by decide +kernel
theorem dX7_bunches_16 : decode cX7_bunches 16 = .ok (.invokestatic 81, 3) := by decide +kernel
theorem dX7_bunches_19 : decode cX7_bunches 19 = .ok (.isub, 1) := by decide +kernel
theorem dX7_bunches_20 : decode cX7_bunches 20 = .ok (.invokestatic 61, 3) := by decide +kernel
theorem dX7_bunches_23 : decode cX7_bunches 23 = .ok (.iastore, 1) := by decide +kernel
theorem dX7_bunches_24 : decode cX7_bunches 24 = .ok (.return_, 1) := by decide +kernel
theorem dX7_anewSeconds_0 : decode cX7_anewSeconds 0 = .ok (.iconst 0, 1) := by decide +kernel
theorem dX7_anewSeconds_1 : decode cX7_anewSeconds 1 = .ok (.istore_n 1, 1) := by decide +kernel
theorem dX7_anewSeconds_2 : decode cX7_anewSeconds 2 = .ok (.iconst 0, 1) := by decide +kernel
theorem dX7_anewSeconds_3 : decode cX7_anewSeconds 3 = .ok (.istore_n 2, 1) := by decide +kernel
theorem dX7_anewSeconds_4 : decode cX7_anewSeconds 4 = .ok (.iload_n 2, 1) := by decide +kernel
theorem dX7_anewSeconds_5 : decode cX7_anewSeconds 5 = .ok (.aload_n 0, 1) := by decide +kernel
theorem dX7_anewSeconds_6 : decode cX7_anewSeconds 6 = .ok (.iconst 0, 1) := by decide +kernel
theorem dX7_anewSeconds_7 : decode cX7_anewSeconds 7 = .ok (.iaload, 1) := by decide +kernel
theorem dX7_anewSeconds_8 : decode cX7_anewSeconds 8 = .ok (.if_icmp .ge 17, 3) := by decide +kernel
theorem dX7_anewSeconds_11 : decode cX7_anewSeconds 11 = .ok (.iload_n 1, 1) := by decide +kernel
theorem dX7_anewSeconds_12 : decode cX7_anewSeconds 12 = .ok (.aload_n 0, 1) := by decide +kernel
theorem dX7_anewSeconds_13 : decode cX7_anewSeconds 13 = .ok (.iload_n 2, 1) := by decide +kernel
theorem dX7_anewSeconds_14 : decode cX7_anewSeconds 14 = .ok (.invokestatic 84, 3) := by decide +kernel
theorem dX7_anewSeconds_17 : decode cX7_anewSeconds 17 = .ok (.iadd, 1) := by decide +kernel
theorem dX7_anewSeconds_18 : decode cX7_anewSeconds 18 = .ok (.istore_n 1, 1) := by decide +kernel
theorem dX7_anewSeconds_19 : decode cX7_anewSeconds 19 = .ok (.iinc 2 1, 3) := by decide +kernel
theorem dX7_anewSeconds_22 : decode cX7_anewSeconds 22 = .ok (.goto (-18), 3) := by decide +kernel
theorem dX7_anewSeconds_25 : decode cX7_anewSeconds 25 = .ok (.iload_n 1, 1) := by decide +kernel
theorem dX7_anewSeconds_26 : decode cX7_anewSeconds 26 = .ok (.ireturn, 1) := by decide +kernel
theorem dX7_threadBy_0 : decode cX7_threadBy 0 = .ok (.aload_n 0, 1) := by decide +kernel
theorem dX7_threadBy_1 : decode cX7_threadBy 1 = .ok (.iload_n 1, 1) := by decide +kernel
theorem dX7_threadBy_2 : decode cX7_threadBy 2 = .ok (.invokestatic 87, 3) := by decide +kernel
theorem dX7_threadBy_5 : decode cX7_threadBy 5 = .ok (.aload_n 0, 1) := by decide +kernel
theorem dX7_threadBy_6 : decode cX7_threadBy 6 = .ok (.iload_n 1, 1) := by decide +kernel
theorem dX7_threadBy_7 : decode cX7_threadBy 7 = .ok (.invokestatic 46, 3) := by decide +kernel
theorem dX7_threadBy_10 : decode cX7_threadBy 10 = .ok (.invokestatic 50, 3) := by decide +kernel
theorem dX7_threadBy_13 : decode cX7_threadBy 13 = .ok (.ifCond .eq 13, 3) := by decide +kernel
theorem dX7_threadBy_16 : decode cX7_threadBy 16 = .ok (.bipush 10, 2) := by decide +kernel
theorem dX7_threadBy_18 : decode cX7_threadBy 18 = .ok (.aload_n 0, 1) := by decide +kernel
theorem dX7_threadBy_19 : decode cX7_threadBy 19 = .ok (.bipush 6, 2) := by decide +kernel
theorem dX7_threadBy_21 : decode cX7_threadBy 21 = .ok (.iaload, 1) := by decide +kernel
theorem dX7_threadBy_22 : decode cX7_threadBy 22 = .ok (.isub, 1) := by decide +kernel
theorem dX7_threadBy_23 : decode cX7_threadBy 23 = .ok (.goto 4, 3) := by decide +kernel
theorem dX7_threadBy_26 : decode cX7_threadBy 26 = .ok (.iconst 0, 1) := by decide +kernel
theorem dX7_threadBy_27 : decode cX7_threadBy 27 = .ok (.iadd, 1) := by decide +kernel
theorem dX7_threadBy_28 : decode cX7_threadBy 28 = .ok (.ireturn, 1) := by decide +kernel
theorem dX7_threads_0 : decode cX7_threads 0 = .ok (.aload_n 0, 1) := by decide +kernel
theorem dX7_threads_1 : decode cX7_threads 1 = .ok (.iconst 1, 1) := by decide +kernel
theorem dX7_threads_2 : decode cX7_threads 2 = .ok (.bipush (-8), 2) := by decide +kernel
theorem dX7_threads_4 : decode cX7_threads 4 = .ok (.iastore, 1) := by decide +kernel
theorem dX7_threads_5 : decode cX7_threads 5 = .ok (.aload_n 0, 1) := by decide +kernel
theorem dX7_threads_6 : decode cX7_threads 6 = .ok (.iconst 2, 1) := by decide +kernel
theorem dX7_threads_7 : decode cX7_threads 7 = .ok (.bipush (-8), 2) := by decide +kernel
theorem dX7_threads_9 : decode cX7_threads 9 = .ok (.iastore, 1) := by decide +kernel
theorem dX7_threads_10 : decode cX7_threads 10 = .ok (.return_, 1) := by decide +kernel
theorem dX7_outSeconds_0 : decode cX7_outSeconds 0 = .ok (.aload_n 1, 1) := by decide +kernel
theorem dX7_outSeconds_1 : decode cX7_outSeconds 1 = .ok (.iconst 1, 1) := by decide +kernel
theorem dX7_outSeconds_2 : decode cX7_outSeconds 2 = .ok (.iload_n 2, 1) := by decide +kernel
theorem dX7_outSeconds_3 : decode cX7_outSeconds 3 = .ok (.iadd, 1) := by decide +kernel
theorem dX7_outSeconds_4 : decode cX7_outSeconds 4 = .ok (.iaload, 1) := by decide +kernel
theorem dX7_outSeconds_5 : decode cX7_outSeconds 5 = .ok (.istore_n 3, 1) := by decide +kernel
theorem dX7_outSeconds_6 : decode cX7_outSeconds 6 = .ok (.iconst 0, 1) := by decide +kernel
theorem dX7_outSeconds_7 : decode cX7_outSeconds 7 = .ok (.istore 4, 2) := by decide +kernel
theorem dX7_outSeconds_9 : decode cX7_outSeconds 9 = .ok (.aload_n 0, 1) := by decide +kernel
theorem dX7_outSeconds_10 : decode cX7_outSeconds 10 = .ok (.iconst 0, 1) := by decide +kernel
theorem dX7_outSeconds_11 : decode cX7_outSeconds 11 = .ok (.putfield 90, 3) := by decide +kernel
theorem dX7_outSeconds_14 : decode cX7_outSeconds 14 = .ok (.iconst 0, 1) := by decide +kernel
theorem dX7_outSeconds_15 : decode cX7_outSeconds 15 = .ok (.istore 5, 2) := by decide +kernel
theorem dX7_outSeconds_17 : decode cX7_outSeconds 17 = .ok (.iload 5, 2) := by decide +kernel
theorem dX7_outSeconds_19 : decode cX7_outSeconds 19 = .ok (.bipush 12, 2) := by decide +kernel
theorem dX7_outSeconds_21 : decode cX7_outSeconds 21 = .ok (.if_icmp .ge 17, 3) := by decide +kernel
theorem dX7_outSeconds_24 : decode cX7_outSeconds 24 = .ok (.aload_n 0, 1) := by decide +kernel
theorem dX7_outSeconds_25 : decode cX7_outSeconds 25 = .ok (.getfield 31, 3) := by decide +kernel
theorem dX7_outSeconds_28 : decode cX7_outSeconds 28 = .ok (.iload 5, 2) := by decide +kernel
theorem dX7_outSeconds_30 : decode cX7_outSeconds 30 = .ok (.iconst 0, 1) := by decide +kernel
theorem dX7_outSeconds_31 : decode cX7_outSeconds 31 = .ok (.iastore, 1) := by decide +kernel
theorem dX7_outSeconds_32 : decode cX7_outSeconds 32 = .ok (.iinc 5 1, 3) := by decide +kernel
theorem dX7_outSeconds_35 : decode cX7_outSeconds 35 = .ok (.goto (-18), 3) := by decide +kernel
theorem dX7_outSeconds_38 : decode cX7_outSeconds 38 = .ok (.iload 4, 2) := by decide +kernel
theorem dX7_outSeconds_40 : decode cX7_outSeconds 40 = .ok (.ifCond .lt 79, 3) := by decide +kernel
theorem dX7_outSeconds_43 : decode cX7_outSeconds 43 = .ok (.aload_n 1, 1) := by decide +kernel
theorem dX7_outSeconds_44 : decode cX7_outSeconds 44 = .ok (.iload_n 2, 1) := by decide +kernel
theorem dX7_outSeconds_45 : decode cX7_outSeconds 45 = .ok (.invokestatic 94, 3) := by decide +kernel
theorem dX7_outSeconds_48 : decode cX7_outSeconds 48 = .ok (.ifCond .eq 71, 3) := by decide +kernel
theorem dX7_outSeconds_51 : decode cX7_outSeconds 51 = .ok (.aload_n 1, 1) := by decide +kernel
theorem dX7_outSeconds_52 : decode cX7_outSeconds 52 = .ok (.iload_n 2, 1) := by decide +kernel
theorem dX7_outSeconds_53 : decode cX7_outSeconds 53 = .ok (.invokestatic 68, 3) := by decide +kernel
theorem dX7_outSeconds_56 : decode cX7_outSeconds 56 = .ok (.istore 5, 2) := by decide +kernel
theorem dX7_outSeconds_58 : decode cX7_outSeconds 58 = .ok (.aload_n 0, 1) := by decide +kernel
theorem dX7_outSeconds_59 : decode cX7_outSeconds 59 = .ok (.getfield 31, 3) := by decide +kernel
theorem dX7_outSeconds_62 : decode cX7_outSeconds 62 = .ok (.iload 5, 2) := by decide +kernel
theorem dX7_outSeconds_64 : decode cX7_outSeconds 64 = .ok (.dup2, 1) := by decide +kernel
theorem dX7_outSeconds_65 : decode cX7_outSeconds 65 = .ok (.iaload, 1) := by decide +kernel
theorem dX7_outSeconds_66 : decode cX7_outSeconds 66 = .ok (.aload_n 1, 1) := by decide +kernel
theorem dX7_outSeconds_67 : decode cX7_outSeconds 67 = .ok (.iload 5, 2) := by decide +kernel
theorem dX7_outSeconds_69 : decode cX7_outSeconds 69 = .ok (.invokestatic 98, 3) := by decide +kernel
theorem dX7_outSeconds_72 : decode cX7_outSeconds 72 = .ok (.iadd, 1) := by decide +kernel
theorem dX7_outSeconds_73 : decode cX7_outSeconds 73 = .ok (.iastore, 1) := by decide +kernel
theorem dX7_outSeconds_74 : decode cX7_outSeconds 74 = .ok (.iload 4, 2) := by decide +kernel
theorem dX7_outSeconds_76 : decode cX7_outSeconds 76 = .ok (.aload_n 1, 1) := by decide +kernel
theorem dX7_outSeconds_77 : decode cX7_outSeconds 77 = .ok (.iload 5, 2) := by decide +kernel
theorem dX7_outSeconds_79 : decode cX7_outSeconds 79 = .ok (.invokestatic 98, 3) := by decide +kernel
theorem dX7_outSeconds_82 : decode cX7_outSeconds 82 = .ok (.iadd, 1) := by decide +kernel
theorem dX7_outSeconds_83 : decode cX7_outSeconds 83 = .ok (.istore 4, 2) := by decide +kernel
theorem dX7_outSeconds_85 : decode cX7_outSeconds 85 = .ok (.aload_n 0, 1) := by decide +kernel
theorem dX7_outSeconds_86 : decode cX7_outSeconds 86 = .ok (.dup, 1) := by decide +kernel
theorem dX7_outSeconds_87 : decode cX7_outSeconds 87 = .ok (.getfield 90, 3) := by decide +kernel
theorem dX7_outSeconds_90 : decode cX7_outSeconds 90 = .ok (.iconst 1, 1) := by decide +kernel
theorem dX7_outSeconds_91 : decode cX7_outSeconds 91 = .ok (.iadd, 1) := by decide +kernel
theorem dX7_outSeconds_92 : decode cX7_outSeconds 92 = .ok (.putfield 90, 3) := by decide +kernel
theorem dX7_outSeconds_95 : decode cX7_outSeconds 95 = .ok (.aload_n 1, 1) := by decide +kernel
theorem dX7_outSeconds_96 : decode cX7_outSeconds 96 = .ok (.iload 5, 2) := by decide +kernel
theorem dX7_outSeconds_98 : decode cX7_outSeconds 98 = .ok (.invokestatic 81, 3) := by decide +kernel
theorem dX7_outSeconds_101 : decode cX7_outSeconds 101 = .ok (.ifCond .ne 10, 3) := by decide +kernel
theorem dX7_outSeconds_104 : decode cX7_outSeconds 104 = .ok (.bipush (-9), 2) := by decide +kernel
theorem dX7_outSeconds_106 : decode cX7_outSeconds 106 = .ok (.istore 4, 2) := by decide +kernel
theorem dX7_outSeconds_108 : decode cX7_outSeconds 108 = .ok (.goto 8, 3) := by decide +kernel
theorem dX7_outSeconds_111 : decode cX7_outSeconds 111 = .ok (.aload_n 1, 1) := by decide +kernel
theorem dX7_outSeconds_112 : decode cX7_outSeconds 112 = .ok (.iload_n 2, 1) := by decide +kernel
theorem dX7_outSeconds_113 : decode cX7_outSeconds 113 = .ok (.invokestatic 101, 3) := by decide +kernel
theorem dX7_outSeconds_116 : decode cX7_outSeconds 116 = .ok (.goto (-78), 3) := by decide +kernel
theorem dX7_outSeconds_119 : decode cX7_outSeconds 119 = .ok (.aload_n 1, 1) := by decide +kernel
theorem dX7_outSeconds_120 : decode cX7_outSeconds 120 = .ok (.iconst 1, 1) := by decide +kernel
theorem dX7_outSeconds_121 : decode cX7_outSeconds 121 = .ok (.iload_n 2, 1) := by decide +kernel
theorem dX7_outSeconds_122 : decode cX7_outSeconds 122 = .ok (.iadd, 1) := by decide +kernel
theorem dX7_outSeconds_123 : decode cX7_outSeconds 123 = .ok (.iload_n 3, 1) := by decide +kernel
theorem dX7_outSeconds_124 : decode cX7_outSeconds 124 = .ok (.iastore, 1) := by decide +kernel
theorem dX7_outSeconds_125 : decode cX7_outSeconds 125 = .ok (.iload 4, 2) := by decide +kernel
theorem dX7_outSeconds_127 : decode cX7_outSeconds 127 = .ok (.ireturn, 1) := by decide +kernel
theorem dX7_allSeconds_0 : decode cX7_allSeconds 0 = .ok (.aload_n 0, 1) := by decide +kernel
theorem dX7_allSeconds_1 : decode cX7_allSeconds 1 = .ok (.aload_n 1, 1) := by decide +kernel
theorem dX7_allSeconds_2 : decode cX7_allSeconds 2 = .ok (.iconst 0, 1) := by decide +kernel
theorem dX7_allSeconds_3 : decode cX7_allSeconds 3 = .ok (.invokevirtual 105, 3) := by decide +kernel
theorem dX7_allSeconds_6 : decode cX7_allSeconds 6 = .ok (.istore_n 2, 1) := by decide +kernel
theorem dX7_allSeconds_7 : decode cX7_allSeconds 7 = .ok (.aload_n 0, 1) := by decide +kernel
theorem dX7_allSeconds_8 : decode cX7_allSeconds 8 = .ok (.aload_n 1, 1) := by decide +kernel
theorem dX7_allSeconds_9 : decode cX7_allSeconds 9 = .ok (.iconst 1, 1) := by decide +kernel
theorem dX7_allSeconds_10 : decode cX7_allSeconds 10 = .ok (.invokevirtual 105, 3) := by decide +kernel
theorem dX7_allSeconds_13 : decode cX7_allSeconds 13 = .ok (.istore_n 3, 1) := by decide +kernel
theorem dX7_allSeconds_14 : decode cX7_allSeconds 14 = .ok (.iload_n 2, 1) := by decide +kernel
theorem dX7_allSeconds_15 : decode cX7_allSeconds 15 = .ok (.ifCond .lt 7, 3) := by decide +kernel
theorem dX7_allSeconds_18 : decode cX7_allSeconds 18 = .ok (.iload_n 3, 1) := by decide +kernel
theorem dX7_allSeconds_19 : decode cX7_allSeconds 19 = .ok (.ifCond .ge 8, 3) := by decide +kernel
theorem dX7_allSeconds_22 : decode cX7_allSeconds 22 = .ok (.bipush (-9), 2) := by decide +kernel
theorem dX7_allSeconds_24 : decode cX7_allSeconds 24 = .ok (.goto 6, 3) := by decide +kernel
theorem dX7_allSeconds_27 : decode cX7_allSeconds 27 = .ok (.iload_n 2, 1) := by decide +kernel
theorem dX7_allSeconds_28 : decode cX7_allSeconds 28 = .ok (.iload_n 3, 1) := by decide +kernel
theorem dX7_allSeconds_29 : decode cX7_allSeconds 29 = .ok (.iadd, 1) := by decide +kernel
theorem dX7_allSeconds_30 : decode cX7_allSeconds 30 = .ok (.ireturn, 1) := by decide +kernel
theorem dX7_lostMany_0 : decode cX7_lostMany 0 = .ok (.aload_n 0, 1) := by decide +kernel
theorem dX7_lostMany_1 : decode cX7_lostMany 1 = .ok (.iconst 0, 1) := by decide +kernel
theorem dX7_lostMany_2 : decode cX7_lostMany 2 = .ok (.invokestatic 94, 3) := by decide +kernel
theorem dX7_lostMany_5 : decode cX7_lostMany 5 = .ok (.ifCond .eq 7, 3) := by decide +kernel
theorem dX7_lostMany_8 : decode cX7_lostMany 8 = .ok (.iconst 1, 1) := by decide +kernel
theorem dX7_lostMany_9 : decode cX7_lostMany 9 = .ok (.goto 4, 3) := by decide +kernel
theorem dX7_lostMany_12 : decode cX7_lostMany 12 = .ok (.iconst 0, 1) := by decide +kernel
theorem dX7_lostMany_13 : decode cX7_lostMany 13 = .ok (.aload_n 0, 1) := by decide +kernel
theorem dX7_lostMany_14 : decode cX7_lostMany 14 = .ok (.iconst 1, 1) := by decide +kernel
theorem dX7_lostMany_15 : decode cX7_lostMany 15 = .ok (.invokestatic 94, 3) := by decide +kernel
theorem dX7_lostMany_18 : decode cX7_lostMany 18 = .ok (.ifCond .eq 7, 3) := by decide +kernel
theorem dX7_lostMany_21 : decode cX7_lostMany 21 = .ok (.iconst 1, 1) := by decide +kernel
theorem dX7_lostMany_22 : decode cX7_lostMany 22 = .ok (.goto 4, 3) := by decide +kernel
theorem dX7_lostMany_25 : decode cX7_lostMany 25 = .ok (.iconst 0, 1) := by decide +kernel
theorem dX7_lostMany_26 : decode cX7_lostMany 26 = .ok (.iadd, 1) := by decide +kernel
theorem dX7_lostMany_27 : decode cX7_lostMany 27 = .ok (.ireturn, 1) := by decide +kernel
theorem dX7_letter_0 : decode cX7_letter 0 = .ok (.iload_n 1, 1) := by decide +kernel
theorem dX7_letter_1 : decode cX7_letter 1 = .ok (.ifCond .ge 10, 3) := by decide +kernel
theorem dX7_letter_4 : decode cX7_letter 4 = .ok (.aload_n 0, 1) := by decide +kernel
theorem dX7_letter_5 : decode cX7_letter 5 = .ok (.bipush (-4), 2) := by decide +kernel
theorem dX7_letter_7 : decode cX7_letter 7 = .ok (.invokevirtual 38, 3) := by decide +kernel
theorem dX7_letter_10 : decode cX7_letter 10 = .ok (.ireturn, 1) := by decide +kernel
theorem dX7_letter_11 : decode cX7_letter 11 = .ok (.iload_n 1, 1) := by decide +kernel
theorem dX7_letter_12 : decode cX7_letter 12 = .ok (.sipush 255, 3) := by decide +kernel
theorem dX7_letter_15 : decode cX7_letter 15 = .ok (.if_icmp .gt 12, 3) := by decide +kernel
theorem dX7_letter_18 : decode cX7_letter 18 = .ok (.aload_n 0, 1) := by decide +kernel
theorem dX7_letter_19 : decode cX7_letter 19 = .ok (.getfield 108, 3) := by decide +kernel
theorem dX7_letter_22 : decode cX7_letter 22 = .ok (.bipush 96, 2) := by decide +kernel
theorem dX7_letter_24 : decode cX7_letter 24 = .ok (.if_icmp .ne 10, 3) := by decide +kernel
theorem dX7_letter_27 : decode cX7_letter 27 = .ok (.aload_n 0, 1) := by decide +kernel
theorem dX7_letter_28 : decode cX7_letter 28 = .ok (.bipush (-6), 2) := by decide +kernel
theorem dX7_letter_30 : decode cX7_letter 30 = .ok (.invokevirtual 38, 3) := by decide +kernel
theorem dX7_letter_33 : decode cX7_letter 33 = .ok (.ireturn, 1) := by decide +kernel
theorem dX7_letter_34 : decode cX7_letter 34 = .ok (.aload_n 0, 1) := by decide +kernel
theorem dX7_letter_35 : decode cX7_letter 35 = .ok (.getfield 22, 3) := by decide +kernel
theorem dX7_letter_38 : decode cX7_letter 38 = .ok (.aload_n 0, 1) := by decide +kernel
theorem dX7_letter_39 : decode cX7_letter 39 = .ok (.getfield 108, 3) := by decide +kernel
theorem dX7_letter_42 : decode cX7_letter 42 = .ok (.iload_n 1, 1) := by decide +kernel
theorem dX7_letter_43 : decode cX7_letter 43 = .ok (.iastore, 1) := by decide +kernel
theorem dX7_letter_44 : decode cX7_letter 44 = .ok (.aload_n 0, 1) := by decide +kernel
theorem dX7_letter_45 : decode cX7_letter 45 = .ok (.dup, 1) := by decide +kernel
theorem dX7_letter_46 : decode cX7_letter 46 = .ok (.getfield 108, 3) := by decide +kernel
theorem dX7_letter_49 : decode cX7_letter 49 = .ok (.iconst 1, 1) := by decide +kernel
theorem dX7_letter_50 : decode cX7_letter 50 = .ok (.iadd, 1) := by decide +kernel
theorem dX7_letter_51 : decode cX7_letter 51 = .ok (.putfield 108, 3) := by decide +kernel
theorem dX7_letter_54 : decode cX7_letter 54 = .ok (.aload_n 0, 1) := by decide +kernel
theorem dX7_letter_55 : decode cX7_letter 55 = .ok (.getfield 108, 3) := by decide +kernel
theorem dX7_letter_58 : decode cX7_letter 58 = .ok (.ireturn, 1) := by decide +kernel
theorem dX7_here_0 : decode cX7_here 0 = .ok (.aload_n 0, 1) := by decide +kernel
theorem dX7_here_1 : decode cX7_here 1 = .ok (.getfield 111, 3) := by decide +kernel
theorem dX7_here_4 : decode cX7_here 4 = .ok (.aload_n 0, 1) := by decide +kernel
theorem dX7_here_5 : decode cX7_here 5 = .ok (.getfield 108, 3) := by decide +kernel
theorem dX7_here_8 : decode cX7_here 8 = .ok (.if_icmp .ge 15, 3) := by decide +kernel
theorem dX7_here_11 : decode cX7_here 11 = .ok (.aload_n 0, 1) := by decide +kernel
theorem dX7_here_12 : decode cX7_here 12 = .ok (.getfield 22, 3) := by decide +kernel
theorem dX7_here_15 : decode cX7_here 15 = .ok (.aload_n 0, 1) := by decide +kernel
theorem dX7_here_16 : decode cX7_here 16 = .ok (.getfield 111, 3) := by decide +kernel
theorem dX7_here_19 : decode cX7_here 19 = .ok (.iaload, 1) := by decide +kernel
theorem dX7_here_20 : decode cX7_here 20 = .ok (.goto 4, 3) := by decide +kernel
theorem dX7_here_23 : decode cX7_here 23 = .ok (.iconst (-1), 1) := by decide +kernel
theorem dX7_here_24 : decode cX7_here 24 = .ok (.ireturn, 1) := by decide +kernel
theorem dX7_readsNumber_0 : decode cX7_readsNumber 0 = .ok (.aload_n 0, 1) := by decide +kernel
theorem dX7_readsNumber_1 : decode cX7_readsNumber 1 = .ok (.getfield 34, 3) := by decide +kernel
theorem dX7_readsNumber_4 : decode cX7_readsNumber 4 = .ok (.iload_n 1, 1) := by decide +kernel
theorem dX7_readsNumber_5 : decode cX7_readsNumber 5 = .ok (.iconst 0, 1) := by decide +kernel
theorem dX7_readsNumber_6 : decode cX7_readsNumber 6 = .ok (.iastore, 1) := by decide +kernel
theorem dX7_readsNumber_7 : decode cX7_readsNumber 7 = .ok (.iconst 0, 1) := by decide +kernel
theorem dX7_readsNumber_8 : decode cX7_readsNumber 8 = .ok (.istore_n 3, 1) := by decide +kernel
theorem dX7_readsNumber_9 : decode cX7_readsNumber 9 = .ok (.iload_n 3, 1) := by decide +kernel
theorem dX7_readsNumber_10 : decode cX7_readsNumber 10 = .ok (.iload_n 2, 1) := by decide +kernel
theorem dX7_readsNumber_11 : decode cX7_readsNumber 11 = .ok (.if_icmp .ge 58, 3) := by decide +kernel
theorem dX7_readsNumber_14 : decode cX7_readsNumber 14 = .ok (.aload_n 0, 1) := by decide +kernel
theorem dX7_readsNumber_15 : decode cX7_readsNumber 15 = .ok (.invokevirtual 114, 3) := by decide +kernel
theorem dX7_readsNumber_18 : decode cX7_readsNumber 18 = .ok (.bipush 48, 2) := by decide +kernel
theorem dX7_readsNumber_20 : decode cX7_readsNumber 20 = .ok (.bipush 57, 2) := by decide +kernel
theorem dX7_readsNumber_22 : decode cX7_readsNumber 22 = .ok (.invokestatic 42, 3) := by decide +kernel
theorem dX7_readsNumber_25 : decode cX7_readsNumber 25 = .ok (.ifCond .ne 5, 3) := by decide +kernel
theorem dX7_readsNumber_28 : decode cX7_readsNumber 28 = .ok (.iconst 0, 1) := by decide +kernel
theorem dX7_readsNumber_29 : decode cX7_readsNumber 29 = .ok (.ireturn, 1) := by decide +kernel
theorem dX7_readsNumber_30 : decode cX7_readsNumber 30 = .ok (.aload_n 0, 1) := by decide +kernel
theorem dX7_readsNumber_31 : decode cX7_readsNumber 31 = .ok (.getfield 34, 3) := by decide +kernel
theorem dX7_readsNumber_34 : decode cX7_readsNumber 34 = .ok (.iload_n 1, 1) := by decide +kernel
theorem dX7_readsNumber_35 : decode cX7_readsNumber 35 = .ok (.bipush 10, 2) := by decide +kernel
theorem dX7_readsNumber_37 : decode cX7_readsNumber 37 = .ok (.aload_n 0, 1) := by decide +kernel
theorem dX7_readsNumber_38 : decode cX7_readsNumber 38 = .ok (.getfield 34, 3) := by decide +kernel
theorem dX7_readsNumber_41 : decode cX7_readsNumber 41 = .ok (.iload_n 1, 1) := by decide +kernel
theorem dX7_readsNumber_42 : decode cX7_readsNumber 42 = .ok (.iaload, 1) := by decide +kernel
theorem dX7_readsNumber_43 : decode cX7_readsNumber 43 = .ok (.imul, 1) := by decide +kernel
theorem dX7_readsNumber_44 : decode cX7_readsNumber 44 = .ok (.aload_n 0, 1) := by decide +kernel
theorem dX7_readsNumber_45 : decode cX7_readsNumber 45 = .ok (.invokevirtual 114, 3) := by decide +kernel
theorem dX7_readsNumber_48 : decode cX7_readsNumber 48 = .ok (.iadd, 1) := by decide +kernel
theorem dX7_readsNumber_49 : decode cX7_readsNumber 49 = .ok (.bipush 48, 2) := by decide +kernel
theorem dX7_readsNumber_51 : decode cX7_readsNumber 51 = .ok (.isub, 1) := by decide +kernel
theorem dX7_readsNumber_52 : decode cX7_readsNumber 52 = .ok (.iastore, 1) := by decide +kernel
theorem dX7_readsNumber_53 : decode cX7_readsNumber 53 = .ok (.aload_n 0, 1) := by decide +kernel
theorem dX7_readsNumber_54 : decode cX7_readsNumber 54 = .ok (.dup, 1) := by decide +kernel
theorem dX7_readsNumber_55 : decode cX7_readsNumber 55 = .ok (.getfield 111, 3) := by decide +kernel
theorem dX7_readsNumber_58 : decode cX7_readsNumber 58 = .ok (.iconst 1, 1) := by decide +kernel
theorem dX7_readsNumber_59 : decode cX7_readsNumber 59 = .ok (.iadd, 1) := by decide +kernel
theorem dX7_readsNumber_60 : decode cX7_readsNumber 60 = .ok (.putfield 111, 3) := by decide +kernel
theorem dX7_readsNumber_63 : decode cX7_readsNumber 63 = .ok (.iinc 3 1, 3) := by decide +kernel
theorem dX7_readsNumber_66 : decode cX7_readsNumber 66 = .ok (.goto (-57), 3) := by decide +kernel
theorem dX7_readsNumber_69 : decode cX7_readsNumber 69 = .ok (.iconst 1, 1) := by decide +kernel
theorem dX7_readsNumber_70 : decode cX7_readsNumber 70 = .ok (.ireturn, 1) := by decide +kernel
theorem dX7_kindBy_0 : decode cX7_kindBy 0 = .ok (.iload_n 0, 1) := by decide +kernel
theorem dX7_kindBy_1 : decode cX7_kindBy 1 = .ok (.lookupswitch 71 #[(98, 69), (99, 59), (101, 63), (108, 65), (115, 61), (118, 67)], 59) := by decide +kernel
theorem dX7_kindBy_60 : decode cX7_kindBy 60 = .ok (.iconst 0, 1) := by decide +kernel
theorem dX7_kindBy_61 : decode cX7_kindBy 61 = .ok (.ireturn, 1) := by decide +kernel
theorem dX7_kindBy_62 : decode cX7_kindBy 62 = .ok (.iconst 1, 1) := by decide +kernel
theorem dX7_kindBy_63 : decode cX7_kindBy 63 = .ok (.ireturn, 1) := by decide +kernel
theorem dX7_kindBy_64 : decode cX7_kindBy 64 = .ok (.iconst 2, 1) := by decide +kernel
theorem dX7_kindBy_65 : decode cX7_kindBy 65 = .ok (.ireturn, 1) := by decide +kernel
theorem dX7_kindBy_66 : decode cX7_kindBy 66 = .ok (.iconst 3, 1) := by decide +kernel
theorem dX7_kindBy_67 : decode cX7_kindBy 67 = .ok (.ireturn, 1) := by decide +kernel
theorem dX7_kindBy_68 : decode cX7_kindBy 68 = .ok (.iconst 4, 1) := by decide +kernel
theorem dX7_kindBy_69 : decode cX7_kindBy 69 = .ok (.ireturn, 1) := by decide +kernel
theorem dX7_kindBy_70 : decode cX7_kindBy 70 = .ok (.iconst 5, 1) := by decide +kernel
theorem dX7_kindBy_71 : decode cX7_kindBy 71 = .ok (.ireturn, 1) := by decide +kernel
theorem dX7_kindBy_72 : decode cX7_kindBy 72 = .ok (.bipush (-9), 2) := by decide +kernel
theorem dX7_kindBy_74 : decode cX7_kindBy 74 = .ok (.ireturn, 1) := by decide +kernel
theorem dX7_readsKind_0 : decode cX7_readsKind 0 = .ok (.aload_n 0, 1) := by decide +kernel
theorem dX7_readsKind_1 : decode cX7_readsKind 1 = .ok (.getfield 34, 3) := by decide +kernel
theorem dX7_readsKind_4 : decode cX7_readsKind 4 = .ok (.iconst 0, 1) := by decide +kernel
theorem dX7_readsKind_5 : decode cX7_readsKind 5 = .ok (.aload_n 0, 1) := by decide +kernel
theorem dX7_readsKind_6 : decode cX7_readsKind 6 = .ok (.invokevirtual 114, 3) := by decide +kernel
theorem dX7_readsKind_9 : decode cX7_readsKind 9 = .ok (.invokestatic 118, 3) := by decide +kernel
theorem dX7_readsKind_12 : decode cX7_readsKind 12 = .ok (.iastore, 1) := by decide +kernel
theorem dX7_readsKind_13 : decode cX7_readsKind 13 = .ok (.aload_n 0, 1) := by decide +kernel
theorem dX7_readsKind_14 : decode cX7_readsKind 14 = .ok (.dup, 1) := by decide +kernel
theorem dX7_readsKind_15 : decode cX7_readsKind 15 = .ok (.getfield 111, 3) := by decide +kernel
theorem dX7_readsKind_18 : decode cX7_readsKind 18 = .ok (.aload_n 0, 1) := by decide +kernel
theorem dX7_readsKind_19 : decode cX7_readsKind 19 = .ok (.getfield 34, 3) := by decide +kernel
theorem dX7_readsKind_22 : decode cX7_readsKind 22 = .ok (.iconst 0, 1) := by decide +kernel
theorem dX7_readsKind_23 : decode cX7_readsKind 23 = .ok (.iaload, 1) := by decide +kernel
theorem dX7_readsKind_24 : decode cX7_readsKind 24 = .ok (.ifCond .ge 7, 3) := by decide +kernel
theorem dX7_readsKind_27 : decode cX7_readsKind 27 = .ok (.iconst 0, 1) := by decide +kernel
theorem dX7_readsKind_28 : decode cX7_readsKind 28 = .ok (.goto 4, 3) := by decide +kernel
theorem dX7_readsKind_31 : decode cX7_readsKind 31 = .ok (.iconst 1, 1) := by decide +kernel
theorem dX7_readsKind_32 : decode cX7_readsKind 32 = .ok (.iadd, 1) := by decide +kernel
theorem dX7_readsKind_33 : decode cX7_readsKind 33 = .ok (.putfield 111, 3) := by decide +kernel
theorem dX7_readsKind_36 : decode cX7_readsKind 36 = .ok (.aload_n 0, 1) := by decide +kernel
theorem dX7_readsKind_37 : decode cX7_readsKind 37 = .ok (.getfield 34, 3) := by decide +kernel
theorem dX7_readsKind_40 : decode cX7_readsKind 40 = .ok (.iconst 0, 1) := by decide +kernel
theorem dX7_readsKind_41 : decode cX7_readsKind 41 = .ok (.iaload, 1) := by decide +kernel
theorem dX7_readsKind_42 : decode cX7_readsKind 42 = .ok (.ifCond .lt 7, 3) := by decide +kernel
theorem dX7_readsKind_45 : decode cX7_readsKind 45 = .ok (.iconst 1, 1) := by decide +kernel
theorem dX7_readsKind_46 : decode cX7_readsKind 46 = .ok (.goto 4, 3) := by decide +kernel
theorem dX7_readsKind_49 : decode cX7_readsKind 49 = .ok (.iconst 0, 1) := by decide +kernel
theorem dX7_readsKind_50 : decode cX7_readsKind 50 = .ok (.ireturn, 1) := by decide +kernel
theorem dX7_readsSigned_0 : decode cX7_readsSigned 0 = .ok (.aload_n 0, 1) := by decide +kernel
theorem dX7_readsSigned_1 : decode cX7_readsSigned 1 = .ok (.invokevirtual 114, 3) := by decide +kernel
theorem dX7_readsSigned_4 : decode cX7_readsSigned 4 = .ok (.istore_n 1, 1) := by decide +kernel
theorem dX7_readsSigned_5 : decode cX7_readsSigned 5 = .ok (.iload_n 1, 1) := by decide +kernel
theorem dX7_readsSigned_6 : decode cX7_readsSigned 6 = .ok (.bipush 43, 2) := by decide +kernel
theorem dX7_readsSigned_8 : decode cX7_readsSigned 8 = .ok (.if_icmp .eq 11, 3) := by decide +kernel
theorem dX7_readsSigned_11 : decode cX7_readsSigned 11 = .ok (.iload_n 1, 1) := by decide +kernel
theorem dX7_readsSigned_12 : decode cX7_readsSigned 12 = .ok (.bipush 45, 2) := by decide +kernel
theorem dX7_readsSigned_14 : decode cX7_readsSigned 14 = .ok (.if_icmp .eq 5, 3) := by decide +kernel
theorem dX7_readsSigned_17 : decode cX7_readsSigned 17 = .ok (.iconst 0, 1) := by decide +kernel
theorem dX7_readsSigned_18 : decode cX7_readsSigned 18 = .ok (.ireturn, 1) := by decide +kernel
theorem dX7_readsSigned_19 : decode cX7_readsSigned 19 = .ok (.aload_n 0, 1) := by decide +kernel
theorem dX7_readsSigned_20 : decode cX7_readsSigned 20 = .ok (.dup, 1) := by decide +kernel
theorem dX7_readsSigned_21 : decode cX7_readsSigned 21 = .ok (.getfield 111, 3) := by decide +kernel
theorem dX7_readsSigned_24 : decode cX7_readsSigned 24 = .ok (.iconst 1, 1) := by decide +kernel
theorem dX7_readsSigned_25 : decode cX7_readsSigned 25 = .ok (.iadd, 1) := by decide +kernel
theorem dX7_readsSigned_26 : decode cX7_readsSigned 26 = .ok (.putfield 111, 3) := by decide +kernel
theorem dX7_readsSigned_29 : decode cX7_readsSigned 29 = .ok (.aload_n 0, 1) := by decide +kernel
theorem dX7_readsSigned_30 : decode cX7_readsSigned 30 = .ok (.iconst 1, 1) := by decide +kernel
theorem dX7_readsSigned_31 : decode cX7_readsSigned 31 = .ok (.iconst 2, 1) := by decide +kernel
theorem dX7_readsSigned_32 : decode cX7_readsSigned 32 = .ok (.invokevirtual 121, 3) := by decide +kernel
theorem dX7_readsSigned_35 : decode cX7_readsSigned 35 = .ok (.istore_n 2, 1) := by decide +kernel
theorem dX7_readsSigned_36 : decode cX7_readsSigned 36 = .ok (.aload_n 0, 1) := by decide +kernel
theorem dX7_readsSigned_37 : decode cX7_readsSigned 37 = .ok (.getfield 34, 3) := by decide +kernel
theorem dX7_readsSigned_40 : decode cX7_readsSigned 40 = .ok (.iconst 1, 1) := by decide +kernel
theorem dX7_readsSigned_41 : decode cX7_readsSigned 41 = .ok (.iload_n 1, 1) := by decide +kernel
theorem dX7_readsSigned_42 : decode cX7_readsSigned 42 = .ok (.bipush 45, 2) := by decide +kernel
theorem dX7_readsSigned_44 : decode cX7_readsSigned 44 = .ok (.if_icmp .ne 13, 3) := by decide +kernel
theorem dX7_readsSigned_47 : decode cX7_readsSigned 47 = .ok (.aload_n 0, 1) := by decide +kernel
theorem dX7_readsSigned_48 : decode cX7_readsSigned 48 = .ok (.getfield 34, 3) := by decide +kernel
theorem dX7_readsSigned_51 : decode cX7_readsSigned 51 = .ok (.iconst 1, 1) := by decide +kernel
theorem dX7_readsSigned_52 : decode cX7_readsSigned 52 = .ok (.iaload, 1) := by decide +kernel
theorem dX7_readsSigned_53 : decode cX7_readsSigned 53 = .ok (.ineg, 1) := by decide +kernel
theorem dX7_readsSigned_54 : decode cX7_readsSigned 54 = .ok (.goto 9, 3) := by decide +kernel
theorem dX7_readsSigned_57 : decode cX7_readsSigned 57 = .ok (.aload_n 0, 1) := by decide +kernel
theorem dX7_readsSigned_58 : decode cX7_readsSigned 58 = .ok (.getfield 34, 3) := by decide +kernel
theorem dX7_readsSigned_61 : decode cX7_readsSigned 61 = .ok (.iconst 1, 1) := by decide +kernel
theorem dX7_readsSigned_62 : decode cX7_readsSigned 62 = .ok (.iaload, 1) := by decide +kernel
theorem dX7_readsSigned_63 : decode cX7_readsSigned 63 = .ok (.iastore, 1) := by decide +kernel
theorem dX7_readsSigned_64 : decode cX7_readsSigned 64 = .ok (.iload_n 2, 1) := by decide +kernel
theorem dX7_readsSigned_65 : decode cX7_readsSigned 65 = .ok (.ireturn, 1) := by decide +kernel
theorem dX7_readsStatement_0 : decode cX7_readsStatement 0 = .ok (.aload_n 0, 1) := by decide +kernel
theorem dX7_readsStatement_1 : decode cX7_readsStatement 1 = .ok (.invokevirtual 114, 3) := by decide +kernel
theorem dX7_readsStatement_4 : decode cX7_readsStatement 4 = .ok (.istore_n 1, 1) := by decide +kernel
theorem dX7_readsStatement_5 : decode cX7_readsStatement 5 = .ok (.iconst 1, 1) := by decide +kernel
theorem dX7_readsStatement_6 : decode cX7_readsStatement 6 = .ok (.istore_n 2, 1) := by decide +kernel
theorem dX7_readsStatement_7 : decode cX7_readsStatement 7 = .ok (.aload_n 0, 1) := by decide +kernel
theorem dX7_readsStatement_8 : decode cX7_readsStatement 8 = .ok (.dup, 1) := by decide +kernel
theorem dX7_readsStatement_9 : decode cX7_readsStatement 9 = .ok (.getfield 111, 3) := by decide +kernel
theorem dX7_readsStatement_12 : decode cX7_readsStatement 12 = .ok (.iconst 1, 1) := by decide +kernel
theorem dX7_readsStatement_13 : decode cX7_readsStatement 13 = .ok (.iadd, 1) := by decide +kernel
theorem dX7_readsStatement_14 : decode cX7_readsStatement 14 = .ok (.putfield 111, 3) := by decide +kernel
theorem dX7_readsStatement_17 : decode cX7_readsStatement 17 = .ok (.iload_n 1, 1) := by decide +kernel
theorem dX7_readsStatement_18 : decode cX7_readsStatement 18 = .ok (.tableswitch 199 101 119 #[134, 199, 199, 199, 100, 199, 159, 199, 199, 90, 199, 172, 199, 199, 169, 199, 199, 199, 90], 90) := by decide +kernel
theorem dX7_readsStatement_108 : decode cX7_readsStatement 108 = .ok (.aload_n 0, 1) := by decide +kernel
theorem dX7_readsStatement_109 : decode cX7_readsStatement 109 = .ok (.iconst 0, 1) := by decide +kernel
theorem dX7_readsStatement_110 : decode cX7_readsStatement 110 = .ok (.iconst 2, 1) := by decide +kernel
theorem dX7_readsStatement_111 : decode cX7_readsStatement 111 = .ok (.invokevirtual 121, 3) := by decide +kernel
theorem dX7_readsStatement_114 : decode cX7_readsStatement 114 = .ok (.istore_n 2, 1) := by decide +kernel
theorem dX7_readsStatement_115 : decode cX7_readsStatement 115 = .ok (.goto 114, 3) := by decide +kernel
theorem dX7_readsStatement_118 : decode cX7_readsStatement 118 = .ok (.aload_n 0, 1) := by decide +kernel
theorem dX7_readsStatement_119 : decode cX7_readsStatement 119 = .ok (.invokevirtual 125, 3) := by decide +kernel
theorem dX7_readsStatement_122 : decode cX7_readsStatement 122 = .ok (.ifCond .eq 25, 3) := by decide +kernel
theorem dX7_readsStatement_125 : decode cX7_readsStatement 125 = .ok (.aload_n 0, 1) := by decide +kernel
theorem dX7_readsStatement_126 : decode cX7_readsStatement 126 = .ok (.iconst 1, 1) := by decide +kernel
theorem dX7_readsStatement_127 : decode cX7_readsStatement 127 = .ok (.iconst 2, 1) := by decide +kernel
theorem dX7_readsStatement_128 : decode cX7_readsStatement 128 = .ok (.invokevirtual 121, 3) := by decide +kernel
theorem dX7_readsStatement_131 : decode cX7_readsStatement 131 = .ok (.ifCond .eq 16, 3) := by decide +kernel
theorem dX7_readsStatement_134 : decode cX7_readsStatement 134 = .ok (.aload_n 0, 1) := by decide +kernel
theorem dX7_readsStatement_135 : decode cX7_readsStatement 135 = .ok (.iconst 2, 1) := by decide +kernel
theorem dX7_readsStatement_136 : decode cX7_readsStatement 136 = .ok (.iconst 1, 1) := by decide +kernel
theorem dX7_readsStatement_137 : decode cX7_readsStatement 137 = .ok (.invokevirtual 121, 3) := by decide +kernel
theorem dX7_readsStatement_140 : decode cX7_readsStatement 140 = .ok (.ifCond .eq 7, 3) := by decide +kernel
theorem dX7_readsStatement_143 : decode cX7_readsStatement 143 = .ok (.iconst 1, 1) := by decide +kernel
theorem dX7_readsStatement_144 : decode cX7_readsStatement 144 = .ok (.goto 4, 3) := by decide +kernel
theorem dX7_readsStatement_147 : decode cX7_readsStatement 147 = .ok (.iconst 0, 1) := by decide +kernel
theorem dX7_readsStatement_148 : decode cX7_readsStatement 148 = .ok (.istore_n 2, 1) := by decide +kernel
theorem dX7_readsStatement_149 : decode cX7_readsStatement 149 = .ok (.goto 80, 3) := by decide +kernel
theorem dX7_readsStatement_152 : decode cX7_readsStatement 152 = .ok (.aload_n 0, 1) := by decide +kernel
theorem dX7_readsStatement_153 : decode cX7_readsStatement 153 = .ok (.iconst 0, 1) := by decide +kernel
theorem dX7_readsStatement_154 : decode cX7_readsStatement 154 = .ok (.iconst 1, 1) := by decide +kernel
theorem dX7_readsStatement_155 : decode cX7_readsStatement 155 = .ok (.invokevirtual 121, 3) := by decide +kernel
theorem dX7_readsStatement_158 : decode cX7_readsStatement 158 = .ok (.ifCond .eq 14, 3) := by decide +kernel
theorem dX7_readsStatement_161 : decode cX7_readsStatement 161 = .ok (.aload_n 0, 1) := by decide +kernel
theorem dX7_readsStatement_162 : decode cX7_readsStatement 162 = .ok (.invokevirtual 129, 3) := by decide +kernel
theorem dX7_readsStatement_165 : decode cX7_readsStatement 165 = .ok (.ifCond .eq 7, 3) := by decide +kernel
theorem dX7_readsStatement_168 : decode cX7_readsStatement 168 = .ok (.iconst 1, 1) := by decide +kernel
theorem dX7_readsStatement_169 : decode cX7_readsStatement 169 = .ok (.goto 4, 3) := by decide +kernel
theorem dX7_readsStatement_172 : decode cX7_readsStatement 172 = .ok (.iconst 0, 1) := by decide +kernel
theorem dX7_readsStatement_173 : decode cX7_readsStatement 173 = .ok (.istore_n 2, 1) := by decide +kernel
theorem dX7_readsStatement_174 : decode cX7_readsStatement 174 = .ok (.goto 55, 3) := by decide +kernel
theorem dX7_readsStatement_177 : decode cX7_readsStatement 177 = .ok (.aload_n 0, 1) := by decide +kernel
theorem dX7_readsStatement_178 : decode cX7_readsStatement 178 = .ok (.iconst 0, 1) := by decide +kernel
theorem dX7_readsStatement_179 : decode cX7_readsStatement 179 = .ok (.iconst 1, 1) := by decide +kernel
theorem dX7_readsStatement_180 : decode cX7_readsStatement 180 = .ok (.invokevirtual 121, 3) := by decide +kernel
theorem dX7_readsStatement_183 : decode cX7_readsStatement 183 = .ok (.istore_n 2, 1) := by decide +kernel
theorem dX7_readsStatement_184 : decode cX7_readsStatement 184 = .ok (.goto 45, 3) := by decide +kernel
theorem dX7_readsStatement_187 : decode cX7_readsStatement 187 = .ok (.goto 42, 3) := by decide +kernel
theorem dX7_readsStatement_190 : decode cX7_readsStatement 190 = .ok (.aload_n 0, 1) := by decide +kernel
theorem dX7_readsStatement_191 : decode cX7_readsStatement 191 = .ok (.iconst 0, 1) := by decide +kernel
theorem dX7_readsStatement_192 : decode cX7_readsStatement 192 = .ok (.iconst 1, 1) := by decide +kernel
theorem dX7_readsStatement_193 : decode cX7_readsStatement 193 = .ok (.invokevirtual 121, 3) := by decide +kernel
theorem dX7_readsStatement_196 : decode cX7_readsStatement 196 = .ok (.ifCond .eq 16, 3) := by decide +kernel
theorem dX7_readsStatement_199 : decode cX7_readsStatement 199 = .ok (.aload_n 0, 1) := by decide +kernel
theorem dX7_readsStatement_200 : decode cX7_readsStatement 200 = .ok (.iconst 1, 1) := by decide +kernel
theorem dX7_readsStatement_201 : decode cX7_readsStatement 201 = .ok (.iconst 1, 1) := by decide +kernel
theorem dX7_readsStatement_202 : decode cX7_readsStatement 202 = .ok (.invokevirtual 121, 3) := by decide +kernel
theorem dX7_readsStatement_205 : decode cX7_readsStatement 205 = .ok (.ifCond .eq 7, 3) := by decide +kernel
theorem dX7_readsStatement_208 : decode cX7_readsStatement 208 = .ok (.iconst 1, 1) := by decide +kernel
theorem dX7_readsStatement_209 : decode cX7_readsStatement 209 = .ok (.goto 4, 3) := by decide +kernel
theorem dX7_readsStatement_212 : decode cX7_readsStatement 212 = .ok (.iconst 0, 1) := by decide +kernel
theorem dX7_readsStatement_213 : decode cX7_readsStatement 213 = .ok (.istore_n 2, 1) := by decide +kernel
theorem dX7_readsStatement_214 : decode cX7_readsStatement 214 = .ok (.goto 15, 3) := by decide +kernel
theorem dX7_readsStatement_217 : decode cX7_readsStatement 217 = .ok (.aload_n 0, 1) := by decide +kernel
theorem dX7_readsStatement_218 : decode cX7_readsStatement 218 = .ok (.dup, 1) := by decide +kernel
theorem dX7_readsStatement_219 : decode cX7_readsStatement 219 = .ok (.getfield 111, 3) := by decide +kernel
theorem dX7_readsStatement_222 : decode cX7_readsStatement 222 = .ok (.iconst 1, 1) := by decide +kernel
theorem dX7_readsStatement_223 : decode cX7_readsStatement 223 = .ok (.isub, 1) := by decide +kernel
theorem dX7_readsStatement_224 : decode cX7_readsStatement 224 = .ok (.putfield 111, 3) := by decide +kernel
theorem dX7_readsStatement_227 : decode cX7_readsStatement 227 = .ok (.iconst 0, 1) := by decide +kernel
theorem dX7_readsStatement_228 : decode cX7_readsStatement 228 = .ok (.ireturn, 1) := by decide +kernel
theorem dX7_readsStatement_229 : decode cX7_readsStatement 229 = .ok (.iload_n 2, 1) := by decide +kernel
theorem dX7_readsStatement_230 : decode cX7_readsStatement 230 = .ok (.ifCond .eq 12, 3) := by decide +kernel
theorem dX7_readsStatement_233 : decode cX7_readsStatement 233 = .ok (.aload_n 0, 1) := by decide +kernel
theorem dX7_readsStatement_234 : decode cX7_readsStatement 234 = .ok (.invokevirtual 114, 3) := by decide +kernel
theorem dX7_readsStatement_237 : decode cX7_readsStatement 237 = .ok (.bipush 59, 2) := by decide +kernel
theorem dX7_readsStatement_239 : decode cX7_readsStatement 239 = .ok (.if_icmp .eq 5, 3) := by decide +kernel
theorem dX7_readsStatement_242 : decode cX7_readsStatement 242 = .ok (.iconst 0, 1) := by decide +kernel
theorem dX7_readsStatement_243 : decode cX7_readsStatement 243 = .ok (.ireturn, 1) := by decide +kernel
theorem dX7_readsStatement_244 : decode cX7_readsStatement 244 = .ok (.aload_n 0, 1) := by decide +kernel
theorem dX7_readsStatement_245 : decode cX7_readsStatement 245 = .ok (.dup, 1) := by decide +kernel
theorem dX7_readsStatement_246 : decode cX7_readsStatement 246 = .ok (.getfield 111, 3) := by decide +kernel
theorem dX7_readsStatement_249 : decode cX7_readsStatement 249 = .ok (.iconst 1, 1) := by decide +kernel
theorem dX7_readsStatement_250 : decode cX7_readsStatement 250 = .ok (.iadd, 1) := by decide +kernel
theorem dX7_readsStatement_251 : decode cX7_readsStatement 251 = .ok (.putfield 111, 3) := by decide +kernel
theorem dX7_readsStatement_254 : decode cX7_readsStatement 254 = .ok (.iconst 1, 1) := by decide +kernel
theorem dX7_readsStatement_255 : decode cX7_readsStatement 255 = .ok (.ireturn, 1) := by decide +kernel
theorem dX7_isDone_0 : decode cX7_isDone 0 = .ok (.aload_n 0, 1) := by decide +kernel
theorem dX7_isDone_1 : decode cX7_isDone 1 = .ok (.getfield 34, 3) := by decide +kernel
theorem dX7_isDone_4 : decode cX7_isDone 4 = .ok (.iconst 0, 1) := by decide +kernel
theorem dX7_isDone_5 : decode cX7_isDone 5 = .ok (.iaload, 1) := by decide +kernel
theorem dX7_isDone_6 : decode cX7_isDone 6 = .ok (.istore_n 2, 1) := by decide +kernel
theorem dX7_isDone_7 : decode cX7_isDone 7 = .ok (.aload_n 0, 1) := by decide +kernel
theorem dX7_isDone_8 : decode cX7_isDone 8 = .ok (.getfield 34, 3) := by decide +kernel
theorem dX7_isDone_11 : decode cX7_isDone 11 = .ok (.iconst 1, 1) := by decide +kernel
theorem dX7_isDone_12 : decode cX7_isDone 12 = .ok (.iaload, 1) := by decide +kernel
theorem dX7_isDone_13 : decode cX7_isDone 13 = .ok (.istore_n 3, 1) := by decide +kernel
theorem dX7_isDone_14 : decode cX7_isDone 14 = .ok (.iload_n 1, 1) := by decide +kernel
theorem dX7_isDone_15 : decode cX7_isDone 15 = .ok (.tableswitch 224 101 115 #[131, 224, 224, 224, 88, 224, 162, 224, 224, 73, 224, 197, 224, 224, 185], 73) := by decide +kernel
theorem dX7_isDone_88 : decode cX7_isDone 88 = .ok (.aload_n 0, 1) := by decide +kernel
theorem dX7_isDone_89 : decode cX7_isDone 89 = .ok (.getfield 9, 3) := by decide +kernel
theorem dX7_isDone_92 : decode cX7_isDone 92 = .ok (.iconst 0, 1) := by decide +kernel
theorem dX7_isDone_93 : decode cX7_isDone 93 = .ok (.iload_n 2, 1) := by decide +kernel
theorem dX7_isDone_94 : decode cX7_isDone 94 = .ok (.iastore, 1) := by decide +kernel
theorem dX7_isDone_95 : decode cX7_isDone 95 = .ok (.iload_n 2, 1) := by decide +kernel
theorem dX7_isDone_96 : decode cX7_isDone 96 = .ok (.iconst 2, 1) := by decide +kernel
theorem dX7_isDone_97 : decode cX7_isDone 97 = .ok (.bipush 12, 2) := by decide +kernel
theorem dX7_isDone_99 : decode cX7_isDone 99 = .ok (.invokestatic 42, 3) := by decide +kernel
theorem dX7_isDone_102 : decode cX7_isDone 102 = .ok (.ireturn, 1) := by decide +kernel
theorem dX7_isDone_103 : decode cX7_isDone 103 = .ok (.aload_n 0, 1) := by decide +kernel
theorem dX7_isDone_104 : decode cX7_isDone 104 = .ok (.iload_n 3, 1) := by decide +kernel
theorem dX7_isDone_105 : decode cX7_isDone 105 = .ok (.invokevirtual 132, 3) := by decide +kernel
theorem dX7_isDone_108 : decode cX7_isDone 108 = .ok (.ifCond .ne 5, 3) := by decide +kernel
theorem dX7_isDone_111 : decode cX7_isDone 111 = .ok (.iconst 0, 1) := by decide +kernel
theorem dX7_isDone_112 : decode cX7_isDone 112 = .ok (.ireturn, 1) := by decide +kernel
theorem dX7_isDone_113 : decode cX7_isDone 113 = .ok (.aload_n 0, 1) := by decide +kernel
theorem dX7_isDone_114 : decode cX7_isDone 114 = .ok (.getfield 9, 3) := by decide +kernel
theorem dX7_isDone_117 : decode cX7_isDone 117 = .ok (.bipush 8, 2) := by decide +kernel
theorem dX7_isDone_119 : decode cX7_isDone 119 = .ok (.iconst 2, 1) := by decide +kernel
theorem dX7_isDone_120 : decode cX7_isDone 120 = .ok (.iload_n 3, 1) := by decide +kernel
theorem dX7_isDone_121 : decode cX7_isDone 121 = .ok (.imul, 1) := by decide +kernel
theorem dX7_isDone_122 : decode cX7_isDone 122 = .ok (.iadd, 1) := by decide +kernel
theorem dX7_isDone_123 : decode cX7_isDone 123 = .ok (.iload_n 2, 1) := by decide +kernel
theorem dX7_isDone_124 : decode cX7_isDone 124 = .ok (.iastore, 1) := by decide +kernel
theorem dX7_isDone_125 : decode cX7_isDone 125 = .ok (.aload_n 0, 1) := by decide +kernel
theorem dX7_isDone_126 : decode cX7_isDone 126 = .ok (.getfield 9, 3) := by decide +kernel
theorem dX7_isDone_129 : decode cX7_isDone 129 = .ok (.bipush 8, 2) := by decide +kernel
theorem dX7_isDone_131 : decode cX7_isDone 131 = .ok (.iconst 2, 1) := by decide +kernel
theorem dX7_isDone_132 : decode cX7_isDone 132 = .ok (.iload_n 3, 1) := by decide +kernel
theorem dX7_isDone_133 : decode cX7_isDone 133 = .ok (.imul, 1) := by decide +kernel
theorem dX7_isDone_134 : decode cX7_isDone 134 = .ok (.iadd, 1) := by decide +kernel
theorem dX7_isDone_135 : decode cX7_isDone 135 = .ok (.iconst 1, 1) := by decide +kernel
theorem dX7_isDone_136 : decode cX7_isDone 136 = .ok (.iadd, 1) := by decide +kernel
theorem dX7_isDone_137 : decode cX7_isDone 137 = .ok (.aload_n 0, 1) := by decide +kernel
theorem dX7_isDone_138 : decode cX7_isDone 138 = .ok (.getfield 34, 3) := by decide +kernel
theorem dX7_isDone_141 : decode cX7_isDone 141 = .ok (.iconst 2, 1) := by decide +kernel
theorem dX7_isDone_142 : decode cX7_isDone 142 = .ok (.iaload, 1) := by decide +kernel
theorem dX7_isDone_143 : decode cX7_isDone 143 = .ok (.iastore, 1) := by decide +kernel
theorem dX7_isDone_144 : decode cX7_isDone 144 = .ok (.iconst 1, 1) := by decide +kernel
theorem dX7_isDone_145 : decode cX7_isDone 145 = .ok (.ireturn, 1) := by decide +kernel
theorem dX7_isDone_146 : decode cX7_isDone 146 = .ok (.iload_n 2, 1) := by decide +kernel
theorem dX7_isDone_147 : decode cX7_isDone 147 = .ok (.invokestatic 135, 3) := by decide +kernel
theorem dX7_isDone_150 : decode cX7_isDone 150 = .ok (.ifCond .eq 14, 3) := by decide +kernel
theorem dX7_isDone_153 : decode cX7_isDone 153 = .ok (.iload_n 3, 1) := by decide +kernel
theorem dX7_isDone_154 : decode cX7_isDone 154 = .ok (.bipush (-40), 2) := by decide +kernel
theorem dX7_isDone_156 : decode cX7_isDone 156 = .ok (.bipush 24, 2) := by decide +kernel
theorem dX7_isDone_158 : decode cX7_isDone 158 = .ok (.invokestatic 42, 3) := by decide +kernel
theorem dX7_isDone_161 : decode cX7_isDone 161 = .ok (.ifCond .ne 5, 3) := by decide +kernel
theorem dX7_isDone_164 : decode cX7_isDone 164 = .ok (.iconst 0, 1) := by decide +kernel
theorem dX7_isDone_165 : decode cX7_isDone 165 = .ok (.ireturn, 1) := by decide +kernel
theorem dX7_isDone_166 : decode cX7_isDone 166 = .ok (.aload_n 0, 1) := by decide +kernel
theorem dX7_isDone_167 : decode cX7_isDone 167 = .ok (.getfield 9, 3) := by decide +kernel
theorem dX7_isDone_170 : decode cX7_isDone 170 = .ok (.iconst 1, 1) := by decide +kernel
theorem dX7_isDone_171 : decode cX7_isDone 171 = .ok (.iload_n 2, 1) := by decide +kernel
theorem dX7_isDone_172 : decode cX7_isDone 172 = .ok (.iadd, 1) := by decide +kernel
theorem dX7_isDone_173 : decode cX7_isDone 173 = .ok (.iload_n 3, 1) := by decide +kernel
theorem dX7_isDone_174 : decode cX7_isDone 174 = .ok (.iastore, 1) := by decide +kernel
theorem dX7_isDone_175 : decode cX7_isDone 175 = .ok (.iconst 1, 1) := by decide +kernel
theorem dX7_isDone_176 : decode cX7_isDone 176 = .ok (.ireturn, 1) := by decide +kernel
theorem dX7_isDone_177 : decode cX7_isDone 177 = .ok (.iload_n 2, 1) := by decide +kernel
theorem dX7_isDone_178 : decode cX7_isDone 178 = .ok (.invokestatic 135, 3) := by decide +kernel
theorem dX7_isDone_181 : decode cX7_isDone 181 = .ok (.ifCond .ne 5, 3) := by decide +kernel
theorem dX7_isDone_184 : decode cX7_isDone 184 = .ok (.iconst 0, 1) := by decide +kernel
theorem dX7_isDone_185 : decode cX7_isDone 185 = .ok (.ireturn, 1) := by decide +kernel
theorem dX7_isDone_186 : decode cX7_isDone 186 = .ok (.aload_n 0, 1) := by decide +kernel
theorem dX7_isDone_187 : decode cX7_isDone 187 = .ok (.getfield 9, 3) := by decide +kernel
theorem dX7_isDone_190 : decode cX7_isDone 190 = .ok (.iconst 3, 1) := by decide +kernel
theorem dX7_isDone_191 : decode cX7_isDone 191 = .ok (.iload_n 2, 1) := by decide +kernel
theorem dX7_isDone_192 : decode cX7_isDone 192 = .ok (.iadd, 1) := by decide +kernel
theorem dX7_isDone_193 : decode cX7_isDone 193 = .ok (.dup2, 1) := by decide +kernel
theorem dX7_isDone_194 : decode cX7_isDone 194 = .ok (.iaload, 1) := by decide +kernel
theorem dX7_isDone_195 : decode cX7_isDone 195 = .ok (.iconst 1, 1) := by decide +kernel
theorem dX7_isDone_196 : decode cX7_isDone 196 = .ok (.ixor, 1) := by decide +kernel
theorem dX7_isDone_197 : decode cX7_isDone 197 = .ok (.iastore, 1) := by decide +kernel
theorem dX7_isDone_198 : decode cX7_isDone 198 = .ok (.iconst 1, 1) := by decide +kernel
theorem dX7_isDone_199 : decode cX7_isDone 199 = .ok (.ireturn, 1) := by decide +kernel
theorem dX7_isDone_200 : decode cX7_isDone 200 = .ok (.aload_n 0, 1) := by decide +kernel
theorem dX7_isDone_201 : decode cX7_isDone 201 = .ok (.getfield 9, 3) := by decide +kernel
theorem dX7_isDone_204 : decode cX7_isDone 204 = .ok (.iconst 5, 1) := by decide +kernel
theorem dX7_isDone_205 : decode cX7_isDone 205 = .ok (.dup2, 1) := by decide +kernel
theorem dX7_isDone_206 : decode cX7_isDone 206 = .ok (.iaload, 1) := by decide +kernel
theorem dX7_isDone_207 : decode cX7_isDone 207 = .ok (.iconst 1, 1) := by decide +kernel
theorem dX7_isDone_208 : decode cX7_isDone 208 = .ok (.ixor, 1) := by decide +kernel
theorem dX7_isDone_209 : decode cX7_isDone 209 = .ok (.iastore, 1) := by decide +kernel
theorem dX7_isDone_210 : decode cX7_isDone 210 = .ok (.iconst 1, 1) := by decide +kernel
theorem dX7_isDone_211 : decode cX7_isDone 211 = .ok (.ireturn, 1) := by decide +kernel
theorem dX7_isDone_212 : decode cX7_isDone 212 = .ok (.aload_n 0, 1) := by decide +kernel
theorem dX7_isDone_213 : decode cX7_isDone 213 = .ok (.getfield 9, 3) := by decide +kernel
theorem dX7_isDone_216 : decode cX7_isDone 216 = .ok (.bipush 6, 2) := by decide +kernel
theorem dX7_isDone_218 : decode cX7_isDone 218 = .ok (.iload_n 2, 1) := by decide +kernel
theorem dX7_isDone_219 : decode cX7_isDone 219 = .ok (.iastore, 1) := by decide +kernel
theorem dX7_isDone_220 : decode cX7_isDone 220 = .ok (.aload_n 0, 1) := by decide +kernel
theorem dX7_isDone_221 : decode cX7_isDone 221 = .ok (.getfield 9, 3) := by decide +kernel
theorem dX7_isDone_224 : decode cX7_isDone 224 = .ok (.bipush 7, 2) := by decide +kernel
theorem dX7_isDone_226 : decode cX7_isDone 226 = .ok (.iload_n 3, 1) := by decide +kernel
theorem dX7_isDone_227 : decode cX7_isDone 227 = .ok (.iastore, 1) := by decide +kernel
theorem dX7_isDone_228 : decode cX7_isDone 228 = .ok (.iload_n 2, 1) := by decide +kernel
theorem dX7_isDone_229 : decode cX7_isDone 229 = .ok (.iconst 1, 1) := by decide +kernel
theorem dX7_isDone_230 : decode cX7_isDone 230 = .ok (.if_icmp .lt 7, 3) := by decide +kernel
theorem dX7_isDone_233 : decode cX7_isDone 233 = .ok (.iconst 1, 1) := by decide +kernel
theorem dX7_isDone_234 : decode cX7_isDone 234 = .ok (.goto 4, 3) := by decide +kernel
theorem dX7_isDone_237 : decode cX7_isDone 237 = .ok (.iconst 0, 1) := by decide +kernel
theorem dX7_isDone_238 : decode cX7_isDone 238 = .ok (.ireturn, 1) := by decide +kernel
theorem dX7_isDone_239 : decode cX7_isDone 239 = .ok (.iload_n 2, 1) := by decide +kernel
theorem dX7_isDone_240 : decode cX7_isDone 240 = .ok (.iconst 1, 1) := by decide +kernel
theorem dX7_isDone_241 : decode cX7_isDone 241 = .ok (.bipush 40, 2) := by decide +kernel
theorem dX7_isDone_243 : decode cX7_isDone 243 = .ok (.invokestatic 42, 3) := by decide +kernel
theorem dX7_isDone_246 : decode cX7_isDone 246 = .ok (.ifCond .ne 5, 3) := by decide +kernel
theorem dX7_isDone_249 : decode cX7_isDone 249 = .ok (.iconst 0, 1) := by decide +kernel
theorem dX7_isDone_250 : decode cX7_isDone 250 = .ok (.ireturn, 1) := by decide +kernel
theorem dX7_isDone_251 : decode cX7_isDone 251 = .ok (.aload_n 0, 1) := by decide +kernel
theorem dX7_isDone_252 : decode cX7_isDone 252 = .ok (.getfield 9, 3) := by decide +kernel
theorem dX7_isDone_255 : decode cX7_isDone 255 = .ok (.iload_n 2, 1) := by decide +kernel
theorem dX7_isDone_256 : decode cX7_isDone 256 = .ok (.invokestatic 138, 3) := by decide +kernel
theorem dX7_isDone_259 : decode cX7_isDone 259 = .ok (.iconst 1, 1) := by decide +kernel
theorem dX7_isDone_260 : decode cX7_isDone 260 = .ok (.ireturn, 1) := by decide +kernel
theorem dX7_hem_0 : decode cX7_hem 0 = .ok (.aload_n 0, 1) := by decide +kernel
theorem dX7_hem_1 : decode cX7_hem 1 = .ok (.iconst 0, 1) := by decide +kernel
theorem dX7_hem_2 : decode cX7_hem 2 = .ok (.putfield 111, 3) := by decide +kernel
theorem dX7_hem_5 : decode cX7_hem 5 = .ok (.iconst 0, 1) := by decide +kernel
theorem dX7_hem_6 : decode cX7_hem 6 = .ok (.istore_n 1, 1) := by decide +kernel
theorem dX7_hem_7 : decode cX7_hem 7 = .ok (.bipush (-9), 2) := by decide +kernel
theorem dX7_hem_9 : decode cX7_hem 9 = .ok (.istore_n 2, 1) := by decide +kernel
theorem dX7_hem_10 : decode cX7_hem 10 = .ok (.aload_n 0, 1) := by decide +kernel
theorem dX7_hem_11 : decode cX7_hem 11 = .ok (.invokevirtual 141, 3) := by decide +kernel
theorem dX7_hem_14 : decode cX7_hem 14 = .ok (.ifCond .ne 12, 3) := by decide +kernel
theorem dX7_hem_17 : decode cX7_hem 17 = .ok (.sipush (-1000), 3) := by decide +kernel
theorem dX7_hem_20 : decode cX7_hem 20 = .ok (.aload_n 0, 1) := by decide +kernel
theorem dX7_hem_21 : decode cX7_hem 21 = .ok (.getfield 111, 3) := by decide +kernel
theorem dX7_hem_24 : decode cX7_hem 24 = .ok (.isub, 1) := by decide +kernel
theorem dX7_hem_25 : decode cX7_hem 25 = .ok (.istore_n 2, 1) := by decide +kernel
theorem dX7_hem_26 : decode cX7_hem 26 = .ok (.iinc 1 1, 3) := by decide +kernel
theorem dX7_hem_29 : decode cX7_hem 29 = .ok (.iload_n 2, 1) := by decide +kernel
theorem dX7_hem_30 : decode cX7_hem 30 = .ok (.bipush (-9), 2) := by decide +kernel
theorem dX7_hem_32 : decode cX7_hem 32 = .ok (.if_icmp .ne 14, 3) := by decide +kernel
theorem dX7_hem_35 : decode cX7_hem 35 = .ok (.aload_n 0, 1) := by decide +kernel
theorem dX7_hem_36 : decode cX7_hem 36 = .ok (.getfield 111, 3) := by decide +kernel
theorem dX7_hem_39 : decode cX7_hem 39 = .ok (.aload_n 0, 1) := by decide +kernel
theorem dX7_hem_40 : decode cX7_hem 40 = .ok (.getfield 108, 3) := by decide +kernel
theorem dX7_hem_43 : decode cX7_hem 43 = .ok (.if_icmp .lt (-33), 3) := by decide +kernel
theorem dX7_hem_46 : decode cX7_hem 46 = .ok (.aload_n 0, 1) := by decide +kernel
theorem dX7_hem_47 : decode cX7_hem 47 = .ok (.getfield 9, 3) := by decide +kernel
theorem dX7_hem_50 : decode cX7_hem 50 = .ok (.aload_n 0, 1) := by decide +kernel
theorem dX7_hem_51 : decode cX7_hem 51 = .ok (.getfield 19, 3) := by decide +kernel
theorem dX7_hem_54 : decode cX7_hem 54 = .ok (.invokestatic 144, 3) := by decide +kernel
theorem dX7_hem_57 : decode cX7_hem 57 = .ok (.aload_n 0, 1) := by decide +kernel
theorem dX7_hem_58 : decode cX7_hem 58 = .ok (.iconst 0, 1) := by decide +kernel
theorem dX7_hem_59 : decode cX7_hem 59 = .ok (.putfield 111, 3) := by decide +kernel
theorem dX7_hem_62 : decode cX7_hem 62 = .ok (.iload_n 2, 1) := by decide +kernel
theorem dX7_hem_63 : decode cX7_hem 63 = .ok (.bipush (-9), 2) := by decide +kernel
theorem dX7_hem_65 : decode cX7_hem 65 = .ok (.if_icmp .ne 63, 3) := by decide +kernel
theorem dX7_hem_68 : decode cX7_hem 68 = .ok (.aload_n 0, 1) := by decide +kernel
theorem dX7_hem_69 : decode cX7_hem 69 = .ok (.getfield 111, 3) := by decide +kernel
theorem dX7_hem_72 : decode cX7_hem 72 = .ok (.aload_n 0, 1) := by decide +kernel
theorem dX7_hem_73 : decode cX7_hem 73 = .ok (.getfield 108, 3) := by decide +kernel
theorem dX7_hem_76 : decode cX7_hem 76 = .ok (.if_icmp .ge 52, 3) := by decide +kernel
theorem dX7_hem_79 : decode cX7_hem 79 = .ok (.aload_n 0, 1) := by decide +kernel
theorem dX7_hem_80 : decode cX7_hem 80 = .ok (.getfield 111, 3) := by decide +kernel
theorem dX7_hem_83 : decode cX7_hem 83 = .ok (.istore_n 3, 1) := by decide +kernel
theorem dX7_hem_84 : decode cX7_hem 84 = .ok (.aload_n 0, 1) := by decide +kernel
theorem dX7_hem_85 : decode cX7_hem 85 = .ok (.invokevirtual 114, 3) := by decide +kernel
theorem dX7_hem_88 : decode cX7_hem 88 = .ok (.istore 4, 2) := by decide +kernel
theorem dX7_hem_90 : decode cX7_hem 90 = .ok (.aload_n 0, 1) := by decide +kernel
theorem dX7_hem_91 : decode cX7_hem 91 = .ok (.invokevirtual 141, 3) := by decide +kernel
theorem dX7_hem_94 : decode cX7_hem 94 = .ok (.istore 5, 2) := by decide +kernel
theorem dX7_hem_96 : decode cX7_hem 96 = .ok (.aload_n 0, 1) := by decide +kernel
theorem dX7_hem_97 : decode cX7_hem 97 = .ok (.iload 4, 2) := by decide +kernel
theorem dX7_hem_99 : decode cX7_hem 99 = .ok (.invokevirtual 148, 3) := by decide +kernel
theorem dX7_hem_102 : decode cX7_hem 102 = .ok (.ifCond .eq 6, 3) := by decide +kernel
theorem dX7_hem_105 : decode cX7_hem 105 = .ok (.goto (-43), 3) := by decide +kernel
theorem dX7_hem_108 : decode cX7_hem 108 = .ok (.sipush (-2000), 3) := by decide +kernel
theorem dX7_hem_111 : decode cX7_hem 111 = .ok (.iload_n 3, 1) := by decide +kernel
theorem dX7_hem_112 : decode cX7_hem 112 = .ok (.isub, 1) := by decide +kernel
theorem dX7_hem_113 : decode cX7_hem 113 = .ok (.istore_n 2, 1) := by decide +kernel
theorem dX7_hem_114 : decode cX7_hem 114 = .ok (.aload_n 0, 1) := by decide +kernel
theorem dX7_hem_115 : decode cX7_hem 115 = .ok (.getfield 19, 3) := by decide +kernel
theorem dX7_hem_118 : decode cX7_hem 118 = .ok (.aload_n 0, 1) := by decide +kernel
theorem dX7_hem_119 : decode cX7_hem 119 = .ok (.getfield 9, 3) := by decide +kernel
theorem dX7_hem_122 : decode cX7_hem 122 = .ok (.invokestatic 144, 3) := by decide +kernel
theorem dX7_hem_125 : decode cX7_hem 125 = .ok (.goto (-63), 3) := by decide +kernel
theorem dX7_hem_128 : decode cX7_hem 128 = .ok (.aload_n 0, 1) := by decide +kernel
theorem dX7_hem_129 : decode cX7_hem 129 = .ok (.iconst 0, 1) := by decide +kernel
theorem dX7_hem_130 : decode cX7_hem 130 = .ok (.putfield 108, 3) := by decide +kernel
theorem dX7_hem_133 : decode cX7_hem 133 = .ok (.iload_n 2, 1) := by decide +kernel
theorem dX7_hem_134 : decode cX7_hem 134 = .ok (.bipush (-9), 2) := by decide +kernel
theorem dX7_hem_136 : decode cX7_hem 136 = .ok (.if_icmp .ne 7, 3) := by decide +kernel
theorem dX7_hem_139 : decode cX7_hem 139 = .ok (.iload_n 1, 1) := by decide +kernel
theorem dX7_hem_140 : decode cX7_hem 140 = .ok (.goto 4, 3) := by decide +kernel
theorem dX7_hem_143 : decode cX7_hem 143 = .ok (.iload_n 2, 1) := by decide +kernel
theorem dX7_hem_144 : decode cX7_hem 144 = .ok (.ireturn, 1) := by decide +kernel
theorem dX7_inch_0 : decode cX7_inch 0 = .ok (.aload_n 0, 1) := by decide +kernel
theorem dX7_inch_1 : decode cX7_inch 1 = .ok (.iload_n 1, 1) := by decide +kernel
theorem dX7_inch_2 : decode cX7_inch 2 = .ok (.invokevirtual 132, 3) := by decide +kernel
theorem dX7_inch_5 : decode cX7_inch 5 = .ok (.ifCond .ne 9, 3) := by decide +kernel
theorem dX7_inch_8 : decode cX7_inch 8 = .ok (.aload_n 0, 1) := by decide +kernel
theorem dX7_inch_9 : decode cX7_inch 9 = .ok (.iconst (-1), 1) := by decide +kernel
theorem dX7_inch_10 : decode cX7_inch 10 = .ok (.invokevirtual 38, 3) := by decide +kernel
theorem dX7_inch_13 : decode cX7_inch 13 = .ok (.ireturn, 1) := by decide +kernel
theorem dX7_inch_14 : decode cX7_inch 14 = .ok (.iload_n 2, 1) := by decide +kernel
theorem dX7_inch_15 : decode cX7_inch 15 = .ok (.tableswitch 91 0 5 #[37, 46, 55, 64, 73, 82], 37) := by decide +kernel
theorem dX7_inch_52 : decode cX7_inch 52 = .ok (.aload_n 0, 1) := by decide +kernel
theorem dX7_inch_53 : decode cX7_inch 53 = .ok (.getfield 9, 3) := by decide +kernel
theorem dX7_inch_56 : decode cX7_inch 56 = .ok (.iload_n 1, 1) := by decide +kernel
theorem dX7_inch_57 : decode cX7_inch 57 = .ok (.invokestatic 46, 3) := by decide +kernel
theorem dX7_inch_60 : decode cX7_inch 60 = .ok (.ireturn, 1) := by decide +kernel
theorem dX7_inch_61 : decode cX7_inch 61 = .ok (.aload_n 0, 1) := by decide +kernel
theorem dX7_inch_62 : decode cX7_inch 62 = .ok (.getfield 9, 3) := by decide +kernel
theorem dX7_inch_65 : decode cX7_inch 65 = .ok (.iload_n 1, 1) := by decide +kernel
theorem dX7_inch_66 : decode cX7_inch 66 = .ok (.invokestatic 54, 3) := by decide +kernel
theorem dX7_inch_69 : decode cX7_inch 69 = .ok (.ireturn, 1) := by decide +kernel
theorem dX7_inch_70 : decode cX7_inch 70 = .ok (.aload_n 0, 1) := by decide +kernel
theorem dX7_inch_71 : decode cX7_inch 71 = .ok (.getfield 9, 3) := by decide +kernel
theorem dX7_inch_74 : decode cX7_inch 74 = .ok (.iload_n 1, 1) := by decide +kernel
theorem dX7_inch_75 : decode cX7_inch 75 = .ok (.invokestatic 81, 3) := by decide +kernel
theorem dX7_inch_78 : decode cX7_inch 78 = .ok (.ireturn, 1) := by decide +kernel
theorem dX7_inch_79 : decode cX7_inch 79 = .ok (.aload_n 0, 1) := by decide +kernel
theorem dX7_inch_80 : decode cX7_inch 80 = .ok (.getfield 9, 3) := by decide +kernel
theorem dX7_inch_83 : decode cX7_inch 83 = .ok (.iload_n 1, 1) := by decide +kernel
theorem dX7_inch_84 : decode cX7_inch 84 = .ok (.invokestatic 98, 3) := by decide +kernel
theorem dX7_inch_87 : decode cX7_inch 87 = .ok (.ireturn, 1) := by decide +kernel
theorem dX7_inch_88 : decode cX7_inch 88 = .ok (.aload_n 0, 1) := by decide +kernel
theorem dX7_inch_89 : decode cX7_inch 89 = .ok (.getfield 9, 3) := by decide +kernel
theorem dX7_inch_92 : decode cX7_inch 92 = .ok (.iload_n 1, 1) := by decide +kernel
theorem dX7_inch_93 : decode cX7_inch 93 = .ok (.invokestatic 87, 3) := by decide +kernel
theorem dX7_inch_96 : decode cX7_inch 96 = .ok (.ireturn, 1) := by decide +kernel
theorem dX7_inch_97 : decode cX7_inch 97 = .ok (.aload_n 0, 1) := by decide +kernel
theorem dX7_inch_98 : decode cX7_inch 98 = .ok (.getfield 9, 3) := by decide +kernel
theorem dX7_inch_101 : decode cX7_inch 101 = .ok (.iload_n 1, 1) := by decide +kernel
theorem dX7_inch_102 : decode cX7_inch 102 = .ok (.invokestatic 71, 3) := by decide +kernel
theorem dX7_inch_105 : decode cX7_inch 105 = .ok (.ireturn, 1) := by decide +kernel
theorem dX7_inch_106 : decode cX7_inch 106 = .ok (.aload_n 0, 1) := by decide +kernel
theorem dX7_inch_107 : decode cX7_inch 107 = .ok (.bipush (-2), 2) := by decide +kernel
theorem dX7_inch_109 : decode cX7_inch 109 = .ok (.invokevirtual 38, 3) := by decide +kernel
theorem dX7_inch_112 : decode cX7_inch 112 = .ok (.ireturn, 1) := by decide +kernel
theorem dX7_turn_0 : decode cX7_turn 0 = .ok (.aload_n 0, 1) := by decide +kernel
theorem dX7_turn_1 : decode cX7_turn 1 = .ok (.iload_n 1, 1) := by decide +kernel
theorem dX7_turn_2 : decode cX7_turn 2 = .ok (.invokevirtual 132, 3) := by decide +kernel
theorem dX7_turn_5 : decode cX7_turn 5 = .ok (.ifCond .ne 9, 3) := by decide +kernel
theorem dX7_turn_8 : decode cX7_turn 8 = .ok (.aload_n 0, 1) := by decide +kernel
theorem dX7_turn_9 : decode cX7_turn 9 = .ok (.iconst (-1), 1) := by decide +kernel
theorem dX7_turn_10 : decode cX7_turn 10 = .ok (.invokevirtual 38, 3) := by decide +kernel
theorem dX7_turn_13 : decode cX7_turn 13 = .ok (.ireturn, 1) := by decide +kernel
theorem dX7_turn_14 : decode cX7_turn 14 = .ok (.iload_n 2, 1) := by decide +kernel
end
section
theorem dX7_turn_15 : decode cX7_turn 15 = .ok (.iconst 0, 1) := by decide +kernel
theorem dX7_turn_16 : decode cX7_turn 16 = .ok (.iconst 5, 1) := by decide +kernel
theorem dX7_turn_17 : decode cX7_turn 17 = .ok (.invokestatic 42, 3) := by decide +kernel
theorem dX7_turn_20 : decode cX7_turn 20 = .ok (.ifCond .ne 10, 3) := by decide +kernel
theorem dX7_turn_23 : decode cX7_turn 23 = .ok (.aload_n 0, 1) := by decide +kernel
theorem dX7_turn_24 : decode cX7_turn 24 = .ok (.bipush (-2), 2) := by decide +kernel
theorem dX7_turn_26 : decode cX7_turn 26 = .ok (.invokevirtual 38, 3) := by decide +kernel
theorem dX7_turn_29 : decode cX7_turn 29 = .ok (.ireturn, 1) := by decide +kernel
theorem dX7_turn_30 : decode cX7_turn 30 = .ok (.iload_n 3, 1) := by decide +kernel
theorem dX7_turn_31 : decode cX7_turn 31 = .ok (.ifCond .ge 10, 3) := by decide +kernel
theorem dX7_turn_34 : decode cX7_turn 34 = .ok (.aload_n 0, 1) := by decide +kernel
theorem dX7_turn_35 : decode cX7_turn 35 = .ok (.bipush (-4), 2) := by decide +kernel
theorem dX7_turn_37 : decode cX7_turn 37 = .ok (.invokevirtual 38, 3) := by decide +kernel
theorem dX7_turn_40 : decode cX7_turn 40 = .ok (.ireturn, 1) := by decide +kernel
theorem dX7_turn_41 : decode cX7_turn 41 = .ok (.iload_n 3, 1) := by decide +kernel
theorem dX7_turn_42 : decode cX7_turn 42 = .ok (.bipush 9, 2) := by decide +kernel
theorem dX7_turn_44 : decode cX7_turn 44 = .ok (.if_icmp .le 10, 3) := by decide +kernel
theorem dX7_turn_47 : decode cX7_turn 47 = .ok (.aload_n 0, 1) := by decide +kernel
theorem dX7_turn_48 : decode cX7_turn 48 = .ok (.bipush (-6), 2) := by decide +kernel
theorem dX7_turn_50 : decode cX7_turn 50 = .ok (.invokevirtual 38, 3) := by decide +kernel
theorem dX7_turn_53 : decode cX7_turn 53 = .ok (.ireturn, 1) := by decide +kernel
theorem dX7_turn_54 : decode cX7_turn 54 = .ok (.bipush 10, 2) := by decide +kernel
theorem dX7_turn_56 : decode cX7_turn 56 = .ok (.aload_n 0, 1) := by decide +kernel
theorem dX7_turn_57 : decode cX7_turn 57 = .ok (.getfield 9, 3) := by decide +kernel
theorem dX7_turn_60 : decode cX7_turn 60 = .ok (.iload_n 1, 1) := by decide +kernel
theorem dX7_turn_61 : decode cX7_turn 61 = .ok (.invokestatic 46, 3) := by decide +kernel
theorem dX7_turn_64 : decode cX7_turn 64 = .ok (.imul, 1) := by decide +kernel
theorem dX7_turn_65 : decode cX7_turn 65 = .ok (.aload_n 0, 1) := by decide +kernel
theorem dX7_turn_66 : decode cX7_turn 66 = .ok (.getfield 9, 3) := by decide +kernel
theorem dX7_turn_69 : decode cX7_turn 69 = .ok (.iload_n 1, 1) := by decide +kernel
theorem dX7_turn_70 : decode cX7_turn 70 = .ok (.invokestatic 54, 3) := by decide +kernel
theorem dX7_turn_73 : decode cX7_turn 73 = .ok (.iadd, 1) := by decide +kernel
theorem dX7_turn_74 : decode cX7_turn 74 = .ok (.istore 4, 2) := by decide +kernel
theorem dX7_turn_76 : decode cX7_turn 76 = .ok (.aload_n 0, 1) := by decide +kernel
theorem dX7_turn_77 : decode cX7_turn 77 = .ok (.getfield 9, 3) := by decide +kernel
theorem dX7_turn_80 : decode cX7_turn 80 = .ok (.bipush 8, 2) := by decide +kernel
theorem dX7_turn_82 : decode cX7_turn 82 = .ok (.iconst 2, 1) := by decide +kernel
theorem dX7_turn_83 : decode cX7_turn 83 = .ok (.iload_n 1, 1) := by decide +kernel
theorem dX7_turn_84 : decode cX7_turn 84 = .ok (.imul, 1) := by decide +kernel
theorem dX7_turn_85 : decode cX7_turn 85 = .ok (.iadd, 1) := by decide +kernel
theorem dX7_turn_86 : decode cX7_turn 86 = .ok (.iload_n 2, 1) := by decide +kernel
theorem dX7_turn_87 : decode cX7_turn 87 = .ok (.iastore, 1) := by decide +kernel
theorem dX7_turn_88 : decode cX7_turn 88 = .ok (.aload_n 0, 1) := by decide +kernel
theorem dX7_turn_89 : decode cX7_turn 89 = .ok (.getfield 9, 3) := by decide +kernel
theorem dX7_turn_92 : decode cX7_turn 92 = .ok (.bipush 8, 2) := by decide +kernel
theorem dX7_turn_94 : decode cX7_turn 94 = .ok (.iconst 2, 1) := by decide +kernel
theorem dX7_turn_95 : decode cX7_turn 95 = .ok (.iload_n 1, 1) := by decide +kernel
theorem dX7_turn_96 : decode cX7_turn 96 = .ok (.imul, 1) := by decide +kernel
theorem dX7_turn_97 : decode cX7_turn 97 = .ok (.iadd, 1) := by decide +kernel
theorem dX7_turn_98 : decode cX7_turn 98 = .ok (.iconst 1, 1) := by decide +kernel
theorem dX7_turn_99 : decode cX7_turn 99 = .ok (.iadd, 1) := by decide +kernel
theorem dX7_turn_100 : decode cX7_turn 100 = .ok (.iload_n 3, 1) := by decide +kernel
theorem dX7_turn_101 : decode cX7_turn 101 = .ok (.iastore, 1) := by decide +kernel
theorem dX7_turn_102 : decode cX7_turn 102 = .ok (.iload 4, 2) := by decide +kernel
theorem dX7_turn_104 : decode cX7_turn 104 = .ok (.ireturn, 1) := by decide +kernel
theorem dX7_inches_0 : decode cX7_inches 0 = .ok (.iload_n 1, 1) := by decide +kernel
theorem dX7_inches_1 : decode cX7_inches 1 = .ok (.iconst 2, 1) := by decide +kernel
theorem dX7_inches_2 : decode cX7_inches 2 = .ok (.if_icmp .ge 10, 3) := by decide +kernel
theorem dX7_inches_5 : decode cX7_inches 5 = .ok (.aload_n 0, 1) := by decide +kernel
theorem dX7_inches_6 : decode cX7_inches 6 = .ok (.bipush (-4), 2) := by decide +kernel
theorem dX7_inches_8 : decode cX7_inches 8 = .ok (.invokevirtual 38, 3) := by decide +kernel
theorem dX7_inches_11 : decode cX7_inches 11 = .ok (.ireturn, 1) := by decide +kernel
theorem dX7_inches_12 : decode cX7_inches 12 = .ok (.iload_n 1, 1) := by decide +kernel
theorem dX7_inches_13 : decode cX7_inches 13 = .ok (.bipush 12, 2) := by decide +kernel
theorem dX7_inches_15 : decode cX7_inches 15 = .ok (.if_icmp .le 10, 3) := by decide +kernel
theorem dX7_inches_18 : decode cX7_inches 18 = .ok (.aload_n 0, 1) := by decide +kernel
theorem dX7_inches_19 : decode cX7_inches 19 = .ok (.bipush (-6), 2) := by decide +kernel
theorem dX7_inches_21 : decode cX7_inches 21 = .ok (.invokevirtual 38, 3) := by decide +kernel
theorem dX7_inches_24 : decode cX7_inches 24 = .ok (.ireturn, 1) := by decide +kernel
theorem dX7_inches_25 : decode cX7_inches 25 = .ok (.aload_n 0, 1) := by decide +kernel
theorem dX7_inches_26 : decode cX7_inches 26 = .ok (.getfield 9, 3) := by decide +kernel
theorem dX7_inches_29 : decode cX7_inches 29 = .ok (.iconst 0, 1) := by decide +kernel
theorem dX7_inches_30 : decode cX7_inches 30 = .ok (.iaload, 1) := by decide +kernel
theorem dX7_inches_31 : decode cX7_inches 31 = .ok (.istore_n 2, 1) := by decide +kernel
theorem dX7_inches_32 : decode cX7_inches 32 = .ok (.aload_n 0, 1) := by decide +kernel
theorem dX7_inches_33 : decode cX7_inches 33 = .ok (.getfield 9, 3) := by decide +kernel
theorem dX7_inches_36 : decode cX7_inches 36 = .ok (.iconst 0, 1) := by decide +kernel
theorem dX7_inches_37 : decode cX7_inches 37 = .ok (.iload_n 1, 1) := by decide +kernel
theorem dX7_inches_38 : decode cX7_inches 38 = .ok (.iastore, 1) := by decide +kernel
theorem dX7_inches_39 : decode cX7_inches 39 = .ok (.iload_n 2, 1) := by decide +kernel
theorem dX7_inches_40 : decode cX7_inches 40 = .ok (.ireturn, 1) := by decide +kernel
theorem dX7_end_0 : decode cX7_end 0 = .ok (.iload_n 1, 1) := by decide +kernel
theorem dX7_end_1 : decode cX7_end 1 = .ok (.invokestatic 135, 3) := by decide +kernel
theorem dX7_end_4 : decode cX7_end 4 = .ok (.ifCond .ne 9, 3) := by decide +kernel
theorem dX7_end_7 : decode cX7_end 7 = .ok (.aload_n 0, 1) := by decide +kernel
theorem dX7_end_8 : decode cX7_end 8 = .ok (.iconst (-1), 1) := by decide +kernel
theorem dX7_end_9 : decode cX7_end 9 = .ok (.invokevirtual 151, 3) := by decide +kernel
theorem dX7_end_12 : decode cX7_end 12 = .ok (.ireturn, 1) := by decide +kernel
theorem dX7_end_13 : decode cX7_end 13 = .ok (.iload_n 2, 1) := by decide +kernel
theorem dX7_end_14 : decode cX7_end 14 = .ok (.bipush (-40), 2) := by decide +kernel
theorem dX7_end_16 : decode cX7_end 16 = .ok (.if_icmp .ge 10, 3) := by decide +kernel
theorem dX7_end_19 : decode cX7_end 19 = .ok (.aload_n 0, 1) := by decide +kernel
theorem dX7_end_20 : decode cX7_end 20 = .ok (.bipush (-4), 2) := by decide +kernel
theorem dX7_end_22 : decode cX7_end 22 = .ok (.invokevirtual 151, 3) := by decide +kernel
theorem dX7_end_25 : decode cX7_end 25 = .ok (.ireturn, 1) := by decide +kernel
theorem dX7_end_26 : decode cX7_end 26 = .ok (.iload_n 2, 1) := by decide +kernel
theorem dX7_end_27 : decode cX7_end 27 = .ok (.bipush 24, 2) := by decide +kernel
theorem dX7_end_29 : decode cX7_end 29 = .ok (.if_icmp .le 10, 3) := by decide +kernel
theorem dX7_end_32 : decode cX7_end 32 = .ok (.aload_n 0, 1) := by decide +kernel
theorem dX7_end_33 : decode cX7_end 33 = .ok (.bipush (-6), 2) := by decide +kernel
theorem dX7_end_35 : decode cX7_end 35 = .ok (.invokevirtual 151, 3) := by decide +kernel
theorem dX7_end_38 : decode cX7_end 38 = .ok (.ireturn, 1) := by decide +kernel
theorem dX7_end_39 : decode cX7_end 39 = .ok (.aload_n 0, 1) := by decide +kernel
theorem dX7_end_40 : decode cX7_end 40 = .ok (.getfield 9, 3) := by decide +kernel
theorem dX7_end_43 : decode cX7_end 43 = .ok (.iconst 1, 1) := by decide +kernel
theorem dX7_end_44 : decode cX7_end 44 = .ok (.iload_n 1, 1) := by decide +kernel
theorem dX7_end_45 : decode cX7_end 45 = .ok (.iadd, 1) := by decide +kernel
theorem dX7_end_46 : decode cX7_end 46 = .ok (.iaload, 1) := by decide +kernel
theorem dX7_end_47 : decode cX7_end 47 = .ok (.istore_n 3, 1) := by decide +kernel
theorem dX7_end_48 : decode cX7_end 48 = .ok (.aload_n 0, 1) := by decide +kernel
theorem dX7_end_49 : decode cX7_end 49 = .ok (.getfield 9, 3) := by decide +kernel
theorem dX7_end_52 : decode cX7_end 52 = .ok (.iconst 1, 1) := by decide +kernel
theorem dX7_end_53 : decode cX7_end 53 = .ok (.iload_n 1, 1) := by decide +kernel
theorem dX7_end_54 : decode cX7_end 54 = .ok (.iadd, 1) := by decide +kernel
theorem dX7_end_55 : decode cX7_end 55 = .ok (.iload_n 2, 1) := by decide +kernel
theorem dX7_end_56 : decode cX7_end 56 = .ok (.iastore, 1) := by decide +kernel
theorem dX7_end_57 : decode cX7_end 57 = .ok (.iload_n 3, 1) := by decide +kernel
theorem dX7_end_58 : decode cX7_end 58 = .ok (.ireturn, 1) := by decide +kernel
theorem dX7_tie_0 : decode cX7_tie 0 = .ok (.iload_n 1, 1) := by decide +kernel
theorem dX7_tie_1 : decode cX7_tie 1 = .ok (.invokestatic 135, 3) := by decide +kernel
theorem dX7_tie_4 : decode cX7_tie 4 = .ok (.ifCond .ne 9, 3) := by decide +kernel
theorem dX7_tie_7 : decode cX7_tie 7 = .ok (.aload_n 0, 1) := by decide +kernel
theorem dX7_tie_8 : decode cX7_tie 8 = .ok (.iconst (-1), 1) := by decide +kernel
theorem dX7_tie_9 : decode cX7_tie 9 = .ok (.invokevirtual 38, 3) := by decide +kernel
theorem dX7_tie_12 : decode cX7_tie 12 = .ok (.ireturn, 1) := by decide +kernel
theorem dX7_tie_13 : decode cX7_tie 13 = .ok (.aload_n 0, 1) := by decide +kernel
theorem dX7_tie_14 : decode cX7_tie 14 = .ok (.getfield 9, 3) := by decide +kernel
theorem dX7_tie_17 : decode cX7_tie 17 = .ok (.iconst 3, 1) := by decide +kernel
theorem dX7_tie_18 : decode cX7_tie 18 = .ok (.iload_n 1, 1) := by decide +kernel
theorem dX7_tie_19 : decode cX7_tie 19 = .ok (.iadd, 1) := by decide +kernel
theorem dX7_tie_20 : decode cX7_tie 20 = .ok (.dup2, 1) := by decide +kernel
theorem dX7_tie_21 : decode cX7_tie 21 = .ok (.iaload, 1) := by decide +kernel
theorem dX7_tie_22 : decode cX7_tie 22 = .ok (.iconst 1, 1) := by decide +kernel
theorem dX7_tie_23 : decode cX7_tie 23 = .ok (.ixor, 1) := by decide +kernel
theorem dX7_tie_24 : decode cX7_tie 24 = .ok (.iastore, 1) := by decide +kernel
theorem dX7_tie_25 : decode cX7_tie 25 = .ok (.aload_n 0, 1) := by decide +kernel
theorem dX7_tie_26 : decode cX7_tie 26 = .ok (.getfield 9, 3) := by decide +kernel
theorem dX7_tie_29 : decode cX7_tie 29 = .ok (.iconst 3, 1) := by decide +kernel
theorem dX7_tie_30 : decode cX7_tie 30 = .ok (.iload_n 1, 1) := by decide +kernel
theorem dX7_tie_31 : decode cX7_tie 31 = .ok (.iadd, 1) := by decide +kernel
theorem dX7_tie_32 : decode cX7_tie 32 = .ok (.iaload, 1) := by decide +kernel
theorem dX7_tie_33 : decode cX7_tie 33 = .ok (.ireturn, 1) := by decide +kernel
theorem dX7_sew_0 : decode cX7_sew 0 = .ok (.aload_n 0, 1) := by decide +kernel
theorem dX7_sew_1 : decode cX7_sew 1 = .ok (.getfield 9, 3) := by decide +kernel
theorem dX7_sew_4 : decode cX7_sew 4 = .ok (.iconst 5, 1) := by decide +kernel
theorem dX7_sew_5 : decode cX7_sew 5 = .ok (.dup2, 1) := by decide +kernel
theorem dX7_sew_6 : decode cX7_sew 6 = .ok (.iaload, 1) := by decide +kernel
theorem dX7_sew_7 : decode cX7_sew 7 = .ok (.iconst 1, 1) := by decide +kernel
theorem dX7_sew_8 : decode cX7_sew 8 = .ok (.ixor, 1) := by decide +kernel
theorem dX7_sew_9 : decode cX7_sew 9 = .ok (.iastore, 1) := by decide +kernel
theorem dX7_sew_10 : decode cX7_sew 10 = .ok (.aload_n 0, 1) := by decide +kernel
theorem dX7_sew_11 : decode cX7_sew 11 = .ok (.getfield 9, 3) := by decide +kernel
theorem dX7_sew_14 : decode cX7_sew 14 = .ok (.iconst 5, 1) := by decide +kernel
theorem dX7_sew_15 : decode cX7_sew 15 = .ok (.iaload, 1) := by decide +kernel
theorem dX7_sew_16 : decode cX7_sew 16 = .ok (.ireturn, 1) := by decide +kernel
theorem dX7_set_0 : decode cX7_set 0 = .ok (.iload_n 1, 1) := by decide +kernel
theorem dX7_set_1 : decode cX7_set 1 = .ok (.iconst 0, 1) := by decide +kernel
theorem dX7_set_2 : decode cX7_set 2 = .ok (.iconst 1, 1) := by decide +kernel
theorem dX7_set_3 : decode cX7_set 3 = .ok (.invokestatic 42, 3) := by decide +kernel
theorem dX7_set_6 : decode cX7_set 6 = .ok (.ifCond .ne 10, 3) := by decide +kernel
theorem dX7_set_9 : decode cX7_set 9 = .ok (.aload_n 0, 1) := by decide +kernel
theorem dX7_set_10 : decode cX7_set 10 = .ok (.bipush (-2), 2) := by decide +kernel
theorem dX7_set_12 : decode cX7_set 12 = .ok (.invokevirtual 38, 3) := by decide +kernel
theorem dX7_set_15 : decode cX7_set 15 = .ok (.ireturn, 1) := by decide +kernel
theorem dX7_set_16 : decode cX7_set 16 = .ok (.iload_n 2, 1) := by decide +kernel
theorem dX7_set_17 : decode cX7_set 17 = .ok (.iconst 1, 1) := by decide +kernel
theorem dX7_set_18 : decode cX7_set 18 = .ok (.iload_n 1, 1) := by decide +kernel
theorem dX7_set_19 : decode cX7_set 19 = .ok (.isub, 1) := by decide +kernel
theorem dX7_set_20 : decode cX7_set 20 = .ok (.if_icmp .ge 10, 3) := by decide +kernel
theorem dX7_set_23 : decode cX7_set 23 = .ok (.aload_n 0, 1) := by decide +kernel
theorem dX7_set_24 : decode cX7_set 24 = .ok (.bipush (-4), 2) := by decide +kernel
theorem dX7_set_26 : decode cX7_set 26 = .ok (.invokevirtual 38, 3) := by decide +kernel
theorem dX7_set_29 : decode cX7_set 29 = .ok (.ireturn, 1) := by decide +kernel
theorem dX7_set_30 : decode cX7_set 30 = .ok (.iload_n 2, 1) := by decide +kernel
theorem dX7_set_31 : decode cX7_set 31 = .ok (.bipush 9, 2) := by decide +kernel
theorem dX7_set_33 : decode cX7_set 33 = .ok (.if_icmp .le 10, 3) := by decide +kernel
theorem dX7_set_36 : decode cX7_set 36 = .ok (.aload_n 0, 1) := by decide +kernel
theorem dX7_set_37 : decode cX7_set 37 = .ok (.bipush (-6), 2) := by decide +kernel
theorem dX7_set_39 : decode cX7_set 39 = .ok (.invokevirtual 38, 3) := by decide +kernel
theorem dX7_set_42 : decode cX7_set 42 = .ok (.ireturn, 1) := by decide +kernel
theorem dX7_set_43 : decode cX7_set 43 = .ok (.aload_n 0, 1) := by decide +kernel
theorem dX7_set_44 : decode cX7_set 44 = .ok (.getfield 9, 3) := by decide +kernel
theorem dX7_set_47 : decode cX7_set 47 = .ok (.bipush 6, 2) := by decide +kernel
theorem dX7_set_49 : decode cX7_set 49 = .ok (.iload_n 1, 1) := by decide +kernel
theorem dX7_set_50 : decode cX7_set 50 = .ok (.iadd, 1) := by decide +kernel
theorem dX7_set_51 : decode cX7_set 51 = .ok (.iaload, 1) := by decide +kernel
theorem dX7_set_52 : decode cX7_set 52 = .ok (.istore_n 3, 1) := by decide +kernel
theorem dX7_set_53 : decode cX7_set 53 = .ok (.aload_n 0, 1) := by decide +kernel
theorem dX7_set_54 : decode cX7_set 54 = .ok (.getfield 9, 3) := by decide +kernel
theorem dX7_set_57 : decode cX7_set 57 = .ok (.bipush 6, 2) := by decide +kernel
theorem dX7_set_59 : decode cX7_set 59 = .ok (.iload_n 1, 1) := by decide +kernel
theorem dX7_set_60 : decode cX7_set 60 = .ok (.iadd, 1) := by decide +kernel
theorem dX7_set_61 : decode cX7_set 61 = .ok (.iload_n 2, 1) := by decide +kernel
theorem dX7_set_62 : decode cX7_set 62 = .ok (.iastore, 1) := by decide +kernel
theorem dX7_set_63 : decode cX7_set 63 = .ok (.iload_n 3, 1) := by decide +kernel
theorem dX7_set_64 : decode cX7_set 64 = .ok (.ireturn, 1) := by decide +kernel
theorem dX7_pull_0 : decode cX7_pull 0 = .ok (.iload_n 1, 1) := by decide +kernel
theorem dX7_pull_1 : decode cX7_pull 1 = .ok (.invokestatic 135, 3) := by decide +kernel
theorem dX7_pull_4 : decode cX7_pull 4 = .ok (.ifCond .ne 9, 3) := by decide +kernel
theorem dX7_pull_7 : decode cX7_pull 7 = .ok (.aload_n 0, 1) := by decide +kernel
theorem dX7_pull_8 : decode cX7_pull 8 = .ok (.iconst (-1), 1) := by decide +kernel
theorem dX7_pull_9 : decode cX7_pull 9 = .ok (.invokevirtual 151, 3) := by decide +kernel
theorem dX7_pull_12 : decode cX7_pull 12 = .ok (.ireturn, 1) := by decide +kernel
theorem dX7_pull_13 : decode cX7_pull 13 = .ok (.iload_n 2, 1) := by decide +kernel
theorem dX7_pull_14 : decode cX7_pull 14 = .ok (.iconst 1, 1) := by decide +kernel
theorem dX7_pull_15 : decode cX7_pull 15 = .ok (.if_icmp .ge 10, 3) := by decide +kernel
theorem dX7_pull_18 : decode cX7_pull 18 = .ok (.aload_n 0, 1) := by decide +kernel
theorem dX7_pull_19 : decode cX7_pull 19 = .ok (.bipush (-4), 2) := by decide +kernel
theorem dX7_pull_21 : decode cX7_pull 21 = .ok (.invokevirtual 151, 3) := by decide +kernel
theorem dX7_pull_24 : decode cX7_pull 24 = .ok (.ireturn, 1) := by decide +kernel
theorem dX7_pull_25 : decode cX7_pull 25 = .ok (.iload_n 2, 1) := by decide +kernel
theorem dX7_pull_26 : decode cX7_pull 26 = .ok (.bipush 40, 2) := by decide +kernel
theorem dX7_pull_28 : decode cX7_pull 28 = .ok (.if_icmp .le 10, 3) := by decide +kernel
theorem dX7_pull_31 : decode cX7_pull 31 = .ok (.aload_n 0, 1) := by decide +kernel
theorem dX7_pull_32 : decode cX7_pull 32 = .ok (.bipush (-6), 2) := by decide +kernel
theorem dX7_pull_34 : decode cX7_pull 34 = .ok (.invokevirtual 151, 3) := by decide +kernel
theorem dX7_pull_37 : decode cX7_pull 37 = .ok (.ireturn, 1) := by decide +kernel
theorem dX7_pull_38 : decode cX7_pull 38 = .ok (.aload_n 0, 1) := by decide +kernel
theorem dX7_pull_39 : decode cX7_pull 39 = .ok (.getfield 9, 3) := by decide +kernel
theorem dX7_pull_42 : decode cX7_pull 42 = .ok (.iload_n 1, 1) := by decide +kernel
theorem dX7_pull_43 : decode cX7_pull 43 = .ok (.iload_n 2, 1) := by decide +kernel
theorem dX7_pull_44 : decode cX7_pull 44 = .ok (.invokestatic 64, 3) := by decide +kernel
theorem dX7_pull_47 : decode cX7_pull 47 = .ok (.ifCond .ne 10, 3) := by decide +kernel
theorem dX7_pull_50 : decode cX7_pull 50 = .ok (.aload_n 0, 1) := by decide +kernel
theorem dX7_pull_51 : decode cX7_pull 51 = .ok (.bipush (-3), 2) := by decide +kernel
theorem dX7_pull_53 : decode cX7_pull 53 = .ok (.invokevirtual 151, 3) := by decide +kernel
theorem dX7_pull_56 : decode cX7_pull 56 = .ok (.ireturn, 1) := by decide +kernel
theorem dX7_pull_57 : decode cX7_pull 57 = .ok (.aload_n 0, 1) := by decide +kernel
theorem dX7_pull_58 : decode cX7_pull 58 = .ok (.getfield 9, 3) := by decide +kernel
theorem dX7_pull_61 : decode cX7_pull 61 = .ok (.iload_n 1, 1) := by decide +kernel
theorem dX7_pull_62 : decode cX7_pull 62 = .ok (.iload_n 2, 1) := by decide +kernel
theorem dX7_pull_63 : decode cX7_pull 63 = .ok (.invokestatic 74, 3) := by decide +kernel
theorem dX7_pull_66 : decode cX7_pull 66 = .ok (.istore_n 3, 1) := by decide +kernel
theorem dX7_pull_67 : decode cX7_pull 67 = .ok (.aload_n 0, 1) := by decide +kernel
theorem dX7_pull_68 : decode cX7_pull 68 = .ok (.getfield 9, 3) := by decide +kernel
theorem dX7_pull_71 : decode cX7_pull 71 = .ok (.iconst 1, 1) := by decide +kernel
theorem dX7_pull_72 : decode cX7_pull 72 = .ok (.iload_n 1, 1) := by decide +kernel
theorem dX7_pull_73 : decode cX7_pull 73 = .ok (.iadd, 1) := by decide +kernel
theorem dX7_pull_74 : decode cX7_pull 74 = .ok (.iaload, 1) := by decide +kernel
theorem dX7_pull_75 : decode cX7_pull 75 = .ok (.ireturn, 1) := by decide +kernel
theorem dX7_bunch_0 : decode cX7_bunch 0 = .ok (.iload_n 1, 1) := by decide +kernel
theorem dX7_bunch_1 : decode cX7_bunch 1 = .ok (.invokestatic 135, 3) := by decide +kernel
theorem dX7_bunch_4 : decode cX7_bunch 4 = .ok (.ifCond .ne 9, 3) := by decide +kernel
theorem dX7_bunch_7 : decode cX7_bunch 7 = .ok (.aload_n 0, 1) := by decide +kernel
theorem dX7_bunch_8 : decode cX7_bunch 8 = .ok (.iconst (-1), 1) := by decide +kernel
theorem dX7_bunch_9 : decode cX7_bunch 9 = .ok (.invokevirtual 151, 3) := by decide +kernel
theorem dX7_bunch_12 : decode cX7_bunch 12 = .ok (.ireturn, 1) := by decide +kernel
theorem dX7_bunch_13 : decode cX7_bunch 13 = .ok (.aload_n 0, 1) := by decide +kernel
theorem dX7_bunch_14 : decode cX7_bunch 14 = .ok (.getfield 9, 3) := by decide +kernel
theorem dX7_bunch_17 : decode cX7_bunch 17 = .ok (.iload_n 1, 1) := by decide +kernel
theorem dX7_bunch_18 : decode cX7_bunch 18 = .ok (.invokestatic 94, 3) := by decide +kernel
theorem dX7_bunch_21 : decode cX7_bunch 21 = .ok (.ifCond .ne 10, 3) := by decide +kernel
theorem dX7_bunch_24 : decode cX7_bunch 24 = .ok (.aload_n 0, 1) := by decide +kernel
theorem dX7_bunch_25 : decode cX7_bunch 25 = .ok (.bipush (-3), 2) := by decide +kernel
theorem dX7_bunch_27 : decode cX7_bunch 27 = .ok (.invokevirtual 151, 3) := by decide +kernel
theorem dX7_bunch_30 : decode cX7_bunch 30 = .ok (.ireturn, 1) := by decide +kernel
theorem dX7_bunch_31 : decode cX7_bunch 31 = .ok (.aload_n 0, 1) := by decide +kernel
theorem dX7_bunch_32 : decode cX7_bunch 32 = .ok (.getfield 9, 3) := by decide +kernel
theorem dX7_bunch_35 : decode cX7_bunch 35 = .ok (.iload_n 1, 1) := by decide +kernel
theorem dX7_bunch_36 : decode cX7_bunch 36 = .ok (.invokestatic 101, 3) := by decide +kernel
theorem dX7_bunch_39 : decode cX7_bunch 39 = .ok (.aload_n 0, 1) := by decide +kernel
theorem dX7_bunch_40 : decode cX7_bunch 40 = .ok (.getfield 9, 3) := by decide +kernel
theorem dX7_bunch_43 : decode cX7_bunch 43 = .ok (.iconst 1, 1) := by decide +kernel
theorem dX7_bunch_44 : decode cX7_bunch 44 = .ok (.iload_n 1, 1) := by decide +kernel
theorem dX7_bunch_45 : decode cX7_bunch 45 = .ok (.iadd, 1) := by decide +kernel
theorem dX7_bunch_46 : decode cX7_bunch 46 = .ok (.iaload, 1) := by decide +kernel
theorem dX7_bunch_47 : decode cX7_bunch 47 = .ok (.ireturn, 1) := by decide +kernel
theorem dX7_anew_0 : decode cX7_anew 0 = .ok (.aload_n 0, 1) := by decide +kernel
theorem dX7_anew_1 : decode cX7_anew 1 = .ok (.getfield 9, 3) := by decide +kernel
theorem dX7_anew_4 : decode cX7_anew 4 = .ok (.invokestatic 154, 3) := by decide +kernel
theorem dX7_anew_7 : decode cX7_anew 7 = .ok (.aload_n 0, 1) := by decide +kernel
theorem dX7_anew_8 : decode cX7_anew 8 = .ok (.getfield 9, 3) := by decide +kernel
theorem dX7_anew_11 : decode cX7_anew 11 = .ok (.invokestatic 158, 3) := by decide +kernel
theorem dX7_anew_14 : decode cX7_anew 14 = .ok (.ireturn, 1) := by decide +kernel
theorem dX7_wash_0 : decode cX7_wash 0 = .ok (.iload_n 1, 1) := by decide +kernel
theorem dX7_wash_1 : decode cX7_wash 1 = .ok (.iconst 1, 1) := by decide +kernel
theorem dX7_wash_2 : decode cX7_wash 2 = .ok (.if_icmp .ge 10, 3) := by decide +kernel
theorem dX7_wash_5 : decode cX7_wash 5 = .ok (.aload_n 0, 1) := by decide +kernel
theorem dX7_wash_6 : decode cX7_wash 6 = .ok (.bipush (-4), 2) := by decide +kernel
theorem dX7_wash_8 : decode cX7_wash 8 = .ok (.invokevirtual 38, 3) := by decide +kernel
theorem dX7_wash_11 : decode cX7_wash 11 = .ok (.ireturn, 1) := by decide +kernel
theorem dX7_wash_12 : decode cX7_wash 12 = .ok (.iload_n 1, 1) := by decide +kernel
theorem dX7_wash_13 : decode cX7_wash 13 = .ok (.bipush 40, 2) := by decide +kernel
theorem dX7_wash_15 : decode cX7_wash 15 = .ok (.if_icmp .le 10, 3) := by decide +kernel
theorem dX7_wash_18 : decode cX7_wash 18 = .ok (.aload_n 0, 1) := by decide +kernel
theorem dX7_wash_19 : decode cX7_wash 19 = .ok (.bipush (-6), 2) := by decide +kernel
theorem dX7_wash_21 : decode cX7_wash 21 = .ok (.invokevirtual 38, 3) := by decide +kernel
theorem dX7_wash_24 : decode cX7_wash 24 = .ok (.ireturn, 1) := by decide +kernel
theorem dX7_wash_25 : decode cX7_wash 25 = .ok (.aload_n 0, 1) := by decide +kernel
theorem dX7_wash_26 : decode cX7_wash 26 = .ok (.getfield 9, 3) := by decide +kernel
theorem dX7_wash_29 : decode cX7_wash 29 = .ok (.iload_n 1, 1) := by decide +kernel
theorem dX7_wash_30 : decode cX7_wash 30 = .ok (.invokestatic 138, 3) := by decide +kernel
theorem dX7_wash_33 : decode cX7_wash 33 = .ok (.aload_n 0, 1) := by decide +kernel
theorem dX7_wash_34 : decode cX7_wash 34 = .ok (.getfield 9, 3) := by decide +kernel
theorem dX7_wash_37 : decode cX7_wash 37 = .ok (.invokestatic 161, 3) := by decide +kernel
theorem dX7_wash_40 : decode cX7_wash 40 = .ok (.ireturn, 1) := by decide +kernel
theorem dX7_of_0 : decode cX7_of 0 = .ok (.iload_n 1, 1) := by decide +kernel
theorem dX7_of_1 : decode cX7_of 1 = .ok (.invokestatic 135, 3) := by decide +kernel
theorem dX7_of_4 : decode cX7_of 4 = .ok (.ifCond .ne 9, 3) := by decide +kernel
theorem dX7_of_7 : decode cX7_of 7 = .ok (.aload_n 0, 1) := by decide +kernel
theorem dX7_of_8 : decode cX7_of 8 = .ok (.iconst (-1), 1) := by decide +kernel
theorem dX7_of_9 : decode cX7_of 9 = .ok (.invokevirtual 38, 3) := by decide +kernel
theorem dX7_of_12 : decode cX7_of 12 = .ok (.ireturn, 1) := by decide +kernel
theorem dX7_of_13 : decode cX7_of 13 = .ok (.aload_n 0, 1) := by decide +kernel
theorem dX7_of_14 : decode cX7_of 14 = .ok (.getfield 9, 3) := by decide +kernel
theorem dX7_of_17 : decode cX7_of 17 = .ok (.iload_n 1, 1) := by decide +kernel
theorem dX7_of_18 : decode cX7_of 18 = .ok (.invokestatic 68, 3) := by decide +kernel
theorem dX7_of_21 : decode cX7_of 21 = .ok (.istore_n 3, 1) := by decide +kernel
theorem dX7_of_22 : decode cX7_of 22 = .ok (.iload_n 2, 1) := by decide +kernel
theorem dX7_of_23 : decode cX7_of 23 = .ok (.tableswitch 66 0 3 #[29, 31, 48, 57], 29) := by decide +kernel
theorem dX7_of_52 : decode cX7_of 52 = .ok (.iload_n 3, 1) := by decide +kernel
theorem dX7_of_53 : decode cX7_of 53 = .ok (.ireturn, 1) := by decide +kernel
theorem dX7_of_54 : decode cX7_of 54 = .ok (.aload_n 0, 1) := by decide +kernel
theorem dX7_of_55 : decode cX7_of 55 = .ok (.getfield 9, 3) := by decide +kernel
theorem dX7_of_58 : decode cX7_of 58 = .ok (.iload_n 1, 1) := by decide +kernel
theorem dX7_of_59 : decode cX7_of 59 = .ok (.invokestatic 94, 3) := by decide +kernel
theorem dX7_of_62 : decode cX7_of 62 = .ok (.ifCond .eq 7, 3) := by decide +kernel
theorem dX7_of_65 : decode cX7_of 65 = .ok (.iconst 1, 1) := by decide +kernel
theorem dX7_of_66 : decode cX7_of 66 = .ok (.goto 4, 3) := by decide +kernel
theorem dX7_of_69 : decode cX7_of 69 = .ok (.iconst 0, 1) := by decide +kernel
theorem dX7_of_70 : decode cX7_of 70 = .ok (.ireturn, 1) := by decide +kernel
theorem dX7_of_71 : decode cX7_of 71 = .ok (.aload_n 0, 1) := by decide +kernel
theorem dX7_of_72 : decode cX7_of 72 = .ok (.getfield 9, 3) := by decide +kernel
theorem dX7_of_75 : decode cX7_of 75 = .ok (.iload_n 3, 1) := by decide +kernel
theorem dX7_of_76 : decode cX7_of 76 = .ok (.invokestatic 81, 3) := by decide +kernel
theorem dX7_of_79 : decode cX7_of 79 = .ok (.ireturn, 1) := by decide +kernel
theorem dX7_of_80 : decode cX7_of 80 = .ok (.aload_n 0, 1) := by decide +kernel
theorem dX7_of_81 : decode cX7_of 81 = .ok (.getfield 9, 3) := by decide +kernel
theorem dX7_of_84 : decode cX7_of 84 = .ok (.iload_n 3, 1) := by decide +kernel
theorem dX7_of_85 : decode cX7_of 85 = .ok (.invokestatic 71, 3) := by decide +kernel
theorem dX7_of_88 : decode cX7_of 88 = .ok (.ireturn, 1) := by decide +kernel
theorem dX7_of_89 : decode cX7_of 89 = .ok (.aload_n 0, 1) := by decide +kernel
theorem dX7_of_90 : decode cX7_of 90 = .ok (.bipush (-2), 2) := by decide +kernel
theorem dX7_of_92 : decode cX7_of 92 = .ok (.invokevirtual 38, 3) := by decide +kernel
theorem dX7_of_95 : decode cX7_of 95 = .ok (.ireturn, 1) := by decide +kernel
theorem dX7_costliest_0 : decode cX7_costliest 0 = .ok (.bipush (-9), 2) := by decide +kernel
theorem dX7_costliest_2 : decode cX7_costliest 2 = .ok (.istore_n 2, 1) := by decide +kernel
theorem dX7_costliest_3 : decode cX7_costliest 3 = .ok (.iconst 0, 1) := by decide +kernel
theorem dX7_costliest_4 : decode cX7_costliest 4 = .ok (.istore_n 3, 1) := by decide +kernel
theorem dX7_costliest_5 : decode cX7_costliest 5 = .ok (.iload_n 3, 1) := by decide +kernel
theorem dX7_costliest_6 : decode cX7_costliest 6 = .ok (.aload_n 0, 1) := by decide +kernel
theorem dX7_costliest_7 : decode cX7_costliest 7 = .ok (.getfield 9, 3) := by decide +kernel
theorem dX7_costliest_10 : decode cX7_costliest 10 = .ok (.iconst 0, 1) := by decide +kernel
theorem dX7_costliest_11 : decode cX7_costliest 11 = .ok (.iaload, 1) := by decide +kernel
theorem dX7_costliest_12 : decode cX7_costliest 12 = .ok (.if_icmp .ge 62, 3) := by decide +kernel
theorem dX7_costliest_15 : decode cX7_costliest 15 = .ok (.iload_n 1, 1) := by decide +kernel
theorem dX7_costliest_16 : decode cX7_costliest 16 = .ok (.ifCond .ne 7, 3) := by decide +kernel
theorem dX7_costliest_19 : decode cX7_costliest 19 = .ok (.iload_n 3, 1) := by decide +kernel
theorem dX7_costliest_20 : decode cX7_costliest 20 = .ok (.goto 13, 3) := by decide +kernel
theorem dX7_costliest_23 : decode cX7_costliest 23 = .ok (.aload_n 0, 1) := by decide +kernel
theorem dX7_costliest_24 : decode cX7_costliest 24 = .ok (.getfield 9, 3) := by decide +kernel
theorem dX7_costliest_27 : decode cX7_costliest 27 = .ok (.iconst 0, 1) := by decide +kernel
theorem dX7_costliest_28 : decode cX7_costliest 28 = .ok (.iaload, 1) := by decide +kernel
theorem dX7_costliest_29 : decode cX7_costliest 29 = .ok (.iconst 1, 1) := by decide +kernel
theorem dX7_costliest_30 : decode cX7_costliest 30 = .ok (.isub, 1) := by decide +kernel
theorem dX7_costliest_31 : decode cX7_costliest 31 = .ok (.iload_n 3, 1) := by decide +kernel
theorem dX7_costliest_32 : decode cX7_costliest 32 = .ok (.isub, 1) := by decide +kernel
theorem dX7_costliest_33 : decode cX7_costliest 33 = .ok (.istore 4, 2) := by decide +kernel
theorem dX7_costliest_35 : decode cX7_costliest 35 = .ok (.aload_n 0, 1) := by decide +kernel
theorem dX7_costliest_36 : decode cX7_costliest 36 = .ok (.getfield 31, 3) := by decide +kernel
theorem dX7_costliest_39 : decode cX7_costliest 39 = .ok (.iload 4, 2) := by decide +kernel
theorem dX7_costliest_41 : decode cX7_costliest 41 = .ok (.iaload, 1) := by decide +kernel
theorem dX7_costliest_42 : decode cX7_costliest 42 = .ok (.ifCond .le 26, 3) := by decide +kernel
theorem dX7_costliest_45 : decode cX7_costliest 45 = .ok (.iload_n 2, 1) := by decide +kernel
theorem dX7_costliest_46 : decode cX7_costliest 46 = .ok (.ifCond .lt 19, 3) := by decide +kernel
theorem dX7_costliest_49 : decode cX7_costliest 49 = .ok (.aload_n 0, 1) := by decide +kernel
theorem dX7_costliest_50 : decode cX7_costliest 50 = .ok (.getfield 31, 3) := by decide +kernel
theorem dX7_costliest_53 : decode cX7_costliest 53 = .ok (.iload 4, 2) := by decide +kernel
theorem dX7_costliest_55 : decode cX7_costliest 55 = .ok (.iaload, 1) := by decide +kernel
theorem dX7_costliest_56 : decode cX7_costliest 56 = .ok (.aload_n 0, 1) := by decide +kernel
theorem dX7_costliest_57 : decode cX7_costliest 57 = .ok (.getfield 31, 3) := by decide +kernel
theorem dX7_costliest_60 : decode cX7_costliest 60 = .ok (.iload_n 2, 1) := by decide +kernel
theorem dX7_costliest_61 : decode cX7_costliest 61 = .ok (.iaload, 1) := by decide +kernel
theorem dX7_costliest_62 : decode cX7_costliest 62 = .ok (.if_icmp .le 6, 3) := by decide +kernel
theorem dX7_costliest_65 : decode cX7_costliest 65 = .ok (.iload 4, 2) := by decide +kernel
theorem dX7_costliest_67 : decode cX7_costliest 67 = .ok (.istore_n 2, 1) := by decide +kernel
theorem dX7_costliest_68 : decode cX7_costliest 68 = .ok (.iinc 3 1, 3) := by decide +kernel
theorem dX7_costliest_71 : decode cX7_costliest 71 = .ok (.goto (-66), 3) := by decide +kernel
theorem dX7_costliest_74 : decode cX7_costliest 74 = .ok (.iload_n 2, 1) := by decide +kernel
theorem dX7_costliest_75 : decode cX7_costliest 75 = .ok (.ireturn, 1) := by decide +kernel
theorem dX7_out_0 : decode cX7_out 0 = .ok (.iload_n 1, 1) := by decide +kernel
theorem dX7_out_1 : decode cX7_out 1 = .ok (.invokestatic 135, 3) := by decide +kernel
theorem dX7_out_4 : decode cX7_out 4 = .ok (.ifCond .ne 9, 3) := by decide +kernel
theorem dX7_out_7 : decode cX7_out 7 = .ok (.aload_n 0, 1) := by decide +kernel
theorem dX7_out_8 : decode cX7_out 8 = .ok (.iconst (-1), 1) := by decide +kernel
theorem dX7_out_9 : decode cX7_out 9 = .ok (.invokevirtual 38, 3) := by decide +kernel
theorem dX7_out_12 : decode cX7_out 12 = .ok (.ireturn, 1) := by decide +kernel
theorem dX7_out_13 : decode cX7_out 13 = .ok (.iload_n 2, 1) := by decide +kernel
theorem dX7_out_14 : decode cX7_out 14 = .ok (.iconst 0, 1) := by decide +kernel
theorem dX7_out_15 : decode cX7_out 15 = .ok (.iconst 2, 1) := by decide +kernel
theorem dX7_out_16 : decode cX7_out 16 = .ok (.invokestatic 42, 3) := by decide +kernel
theorem dX7_out_19 : decode cX7_out 19 = .ok (.ifCond .ne 10, 3) := by decide +kernel
theorem dX7_out_22 : decode cX7_out 22 = .ok (.aload_n 0, 1) := by decide +kernel
theorem dX7_out_23 : decode cX7_out 23 = .ok (.bipush (-2), 2) := by decide +kernel
theorem dX7_out_25 : decode cX7_out 25 = .ok (.invokevirtual 38, 3) := by decide +kernel
theorem dX7_out_28 : decode cX7_out 28 = .ok (.ireturn, 1) := by decide +kernel
theorem dX7_out_29 : decode cX7_out 29 = .ok (.aload_n 0, 1) := by decide +kernel
theorem dX7_out_30 : decode cX7_out 30 = .ok (.aload_n 0, 1) := by decide +kernel
theorem dX7_out_31 : decode cX7_out 31 = .ok (.getfield 9, 3) := by decide +kernel
theorem dX7_out_34 : decode cX7_out 34 = .ok (.iload_n 1, 1) := by decide +kernel
theorem dX7_out_35 : decode cX7_out 35 = .ok (.invokevirtual 105, 3) := by decide +kernel
theorem dX7_out_38 : decode cX7_out 38 = .ok (.istore_n 3, 1) := by decide +kernel
theorem dX7_out_39 : decode cX7_out 39 = .ok (.iload_n 3, 1) := by decide +kernel
theorem dX7_out_40 : decode cX7_out 40 = .ok (.ifCond .ge 6, 3) := by decide +kernel
theorem dX7_out_43 : decode cX7_out 43 = .ok (.bipush (-9), 2) := by decide +kernel
theorem dX7_out_45 : decode cX7_out 45 = .ok (.ireturn, 1) := by decide +kernel
theorem dX7_out_46 : decode cX7_out 46 = .ok (.iload_n 2, 1) := by decide +kernel
theorem dX7_out_47 : decode cX7_out 47 = .ok (.ifCond .ne 10, 3) := by decide +kernel
theorem dX7_out_50 : decode cX7_out 50 = .ok (.aload_n 0, 1) := by decide +kernel
theorem dX7_out_51 : decode cX7_out 51 = .ok (.getfield 90, 3) := by decide +kernel
theorem dX7_out_54 : decode cX7_out 54 = .ok (.goto 17, 3) := by decide +kernel
theorem dX7_out_57 : decode cX7_out 57 = .ok (.iload_n 2, 1) := by decide +kernel
theorem dX7_out_58 : decode cX7_out 58 = .ok (.iconst 1, 1) := by decide +kernel
theorem dX7_out_59 : decode cX7_out 59 = .ok (.if_icmp .ne 7, 3) := by decide +kernel
theorem dX7_out_62 : decode cX7_out 62 = .ok (.iload_n 3, 1) := by decide +kernel
theorem dX7_out_63 : decode cX7_out 63 = .ok (.goto 8, 3) := by decide +kernel
theorem dX7_out_66 : decode cX7_out 66 = .ok (.aload_n 0, 1) := by decide +kernel
theorem dX7_out_67 : decode cX7_out 67 = .ok (.iload_n 1, 1) := by decide +kernel
theorem dX7_out_68 : decode cX7_out 68 = .ok (.invokevirtual 164, 3) := by decide +kernel
theorem dX7_out_71 : decode cX7_out 71 = .ok (.ireturn, 1) := by decide +kernel
theorem dX7_soonest_0 : decode cX7_soonest 0 = .ok (.aload_n 0, 1) := by decide +kernel
theorem dX7_soonest_1 : decode cX7_soonest 1 = .ok (.getfield 9, 3) := by decide +kernel
theorem dX7_soonest_4 : decode cX7_soonest 4 = .ok (.invokestatic 161, 3) := by decide +kernel
theorem dX7_soonest_7 : decode cX7_soonest 7 = .ok (.ifCond .ne 6, 3) := by decide +kernel
theorem dX7_soonest_10 : decode cX7_soonest 10 = .ok (.bipush (-9), 2) := by decide +kernel
theorem dX7_soonest_12 : decode cX7_soonest 12 = .ok (.ireturn, 1) := by decide +kernel
theorem dX7_soonest_13 : decode cX7_soonest 13 = .ok (.aload_n 0, 1) := by decide +kernel
theorem dX7_soonest_14 : decode cX7_soonest 14 = .ok (.getfield 9, 3) := by decide +kernel
theorem dX7_soonest_17 : decode cX7_soonest 17 = .ok (.iconst 0, 1) := by decide +kernel
theorem dX7_soonest_18 : decode cX7_soonest 18 = .ok (.invokestatic 94, 3) := by decide +kernel
theorem dX7_soonest_21 : decode cX7_soonest 21 = .ok (.ifCond .eq 15, 3) := by decide +kernel
theorem dX7_soonest_24 : decode cX7_soonest 24 = .ok (.aload_n 0, 1) := by decide +kernel
theorem dX7_soonest_25 : decode cX7_soonest 25 = .ok (.aload_n 0, 1) := by decide +kernel
theorem dX7_soonest_26 : decode cX7_soonest 26 = .ok (.getfield 9, 3) := by decide +kernel
theorem dX7_soonest_29 : decode cX7_soonest 29 = .ok (.iconst 0, 1) := by decide +kernel
theorem dX7_soonest_30 : decode cX7_soonest 30 = .ok (.invokevirtual 105, 3) := by decide +kernel
theorem dX7_soonest_33 : decode cX7_soonest 33 = .ok (.goto 5, 3) := by decide +kernel
theorem dX7_soonest_36 : decode cX7_soonest 36 = .ok (.bipush (-9), 2) := by decide +kernel
theorem dX7_soonest_38 : decode cX7_soonest 38 = .ok (.istore_n 1, 1) := by decide +kernel
theorem dX7_soonest_39 : decode cX7_soonest 39 = .ok (.aload_n 0, 1) := by decide +kernel
theorem dX7_soonest_40 : decode cX7_soonest 40 = .ok (.getfield 9, 3) := by decide +kernel
theorem dX7_soonest_43 : decode cX7_soonest 43 = .ok (.iconst 1, 1) := by decide +kernel
theorem dX7_soonest_44 : decode cX7_soonest 44 = .ok (.invokestatic 94, 3) := by decide +kernel
theorem dX7_soonest_47 : decode cX7_soonest 47 = .ok (.ifCond .eq 15, 3) := by decide +kernel
theorem dX7_soonest_50 : decode cX7_soonest 50 = .ok (.aload_n 0, 1) := by decide +kernel
theorem dX7_soonest_51 : decode cX7_soonest 51 = .ok (.aload_n 0, 1) := by decide +kernel
theorem dX7_soonest_52 : decode cX7_soonest 52 = .ok (.getfield 9, 3) := by decide +kernel
theorem dX7_soonest_55 : decode cX7_soonest 55 = .ok (.iconst 1, 1) := by decide +kernel
theorem dX7_soonest_56 : decode cX7_soonest 56 = .ok (.invokevirtual 105, 3) := by decide +kernel
theorem dX7_soonest_59 : decode cX7_soonest 59 = .ok (.goto 5, 3) := by decide +kernel
theorem dX7_soonest_62 : decode cX7_soonest 62 = .ok (.bipush (-9), 2) := by decide +kernel
theorem dX7_soonest_64 : decode cX7_soonest 64 = .ok (.istore_n 2, 1) := by decide +kernel
theorem dX7_soonest_65 : decode cX7_soonest 65 = .ok (.iload_n 1, 1) := by decide +kernel
theorem dX7_soonest_66 : decode cX7_soonest 66 = .ok (.ifCond .ge 10, 3) := by decide +kernel
theorem dX7_soonest_69 : decode cX7_soonest 69 = .ok (.iload_n 2, 1) := by decide +kernel
theorem dX7_soonest_70 : decode cX7_soonest 70 = .ok (.ifCond .ge 6, 3) := by decide +kernel
theorem dX7_soonest_73 : decode cX7_soonest 73 = .ok (.bipush 9, 2) := by decide +kernel
theorem dX7_soonest_75 : decode cX7_soonest 75 = .ok (.ireturn, 1) := by decide +kernel
theorem dX7_soonest_76 : decode cX7_soonest 76 = .ok (.iload_n 1, 1) := by decide +kernel
theorem dX7_soonest_77 : decode cX7_soonest 77 = .ok (.ifCond .lt 12, 3) := by decide +kernel
theorem dX7_soonest_80 : decode cX7_soonest 80 = .ok (.iload_n 2, 1) := by decide +kernel
theorem dX7_soonest_81 : decode cX7_soonest 81 = .ok (.ifCond .lt 12, 3) := by decide +kernel
theorem dX7_soonest_84 : decode cX7_soonest 84 = .ok (.iload_n 2, 1) := by decide +kernel
theorem dX7_soonest_85 : decode cX7_soonest 85 = .ok (.iload_n 1, 1) := by decide +kernel
theorem dX7_soonest_86 : decode cX7_soonest 86 = .ok (.if_icmp .ge 7, 3) := by decide +kernel
theorem dX7_soonest_89 : decode cX7_soonest 89 = .ok (.iconst 1, 1) := by decide +kernel
theorem dX7_soonest_90 : decode cX7_soonest 90 = .ok (.goto 4, 3) := by decide +kernel
theorem dX7_soonest_93 : decode cX7_soonest 93 = .ok (.iconst 0, 1) := by decide +kernel
theorem dX7_soonest_94 : decode cX7_soonest 94 = .ok (.ireturn, 1) := by decide +kernel
theorem dX7_better_0 : decode cX7_better 0 = .ok (.iload_n 1, 1) := by decide +kernel
theorem dX7_better_1 : decode cX7_better 1 = .ok (.iconst 0, 1) := by decide +kernel
theorem dX7_better_2 : decode cX7_better 2 = .ok (.iconst 1, 1) := by decide +kernel
theorem dX7_better_3 : decode cX7_better 3 = .ok (.invokestatic 42, 3) := by decide +kernel
theorem dX7_better_6 : decode cX7_better 6 = .ok (.ifCond .ne 10, 3) := by decide +kernel
theorem dX7_better_9 : decode cX7_better 9 = .ok (.aload_n 0, 1) := by decide +kernel
theorem dX7_better_10 : decode cX7_better 10 = .ok (.bipush (-2), 2) := by decide +kernel
theorem dX7_better_12 : decode cX7_better 12 = .ok (.invokevirtual 38, 3) := by decide +kernel
theorem dX7_better_15 : decode cX7_better 15 = .ok (.ireturn, 1) := by decide +kernel
theorem dX7_better_16 : decode cX7_better 16 = .ok (.aload_n 0, 1) := by decide +kernel
theorem dX7_better_17 : decode cX7_better 17 = .ok (.getfield 9, 3) := by decide +kernel
theorem dX7_better_20 : decode cX7_better 20 = .ok (.invokestatic 158, 3) := by decide +kernel
theorem dX7_better_23 : decode cX7_better 23 = .ok (.istore_n 2, 1) := by decide +kernel
theorem dX7_better_24 : decode cX7_better 24 = .ok (.iload_n 1, 1) := by decide +kernel
theorem dX7_better_25 : decode cX7_better 25 = .ok (.ifCond .ne 5, 3) := by decide +kernel
theorem dX7_better_28 : decode cX7_better 28 = .ok (.iload_n 2, 1) := by decide +kernel
theorem dX7_better_29 : decode cX7_better 29 = .ok (.ireturn, 1) := by decide +kernel
theorem dX7_better_30 : decode cX7_better 30 = .ok (.aload_n 0, 1) := by decide +kernel
theorem dX7_better_31 : decode cX7_better 31 = .ok (.aload_n 0, 1) := by decide +kernel
theorem dX7_better_32 : decode cX7_better 32 = .ok (.getfield 9, 3) := by decide +kernel
theorem dX7_better_35 : decode cX7_better 35 = .ok (.invokevirtual 167, 3) := by decide +kernel
theorem dX7_better_38 : decode cX7_better 38 = .ok (.istore_n 3, 1) := by decide +kernel
theorem dX7_better_39 : decode cX7_better 39 = .ok (.iload_n 3, 1) := by decide +kernel
theorem dX7_better_40 : decode cX7_better 40 = .ok (.ifCond .lt 8, 3) := by decide +kernel
theorem dX7_better_43 : decode cX7_better 43 = .ok (.iload_n 2, 1) := by decide +kernel
theorem dX7_better_44 : decode cX7_better 44 = .ok (.iload_n 3, 1) := by decide +kernel
theorem dX7_better_45 : decode cX7_better 45 = .ok (.if_icmp .ge 7, 3) := by decide +kernel
theorem dX7_better_48 : decode cX7_better 48 = .ok (.iconst 1, 1) := by decide +kernel
theorem dX7_better_49 : decode cX7_better 49 = .ok (.goto 4, 3) := by decide +kernel
theorem dX7_better_52 : decode cX7_better 52 = .ok (.iconst 0, 1) := by decide +kernel
theorem dX7_better_53 : decode cX7_better 53 = .ok (.ireturn, 1) := by decide +kernel
theorem dX7_wrongWashes_0 : decode cX7_wrongWashes 0 = .ok (.iload_n 0, 1) := by decide +kernel
theorem dX7_wrongWashes_1 : decode cX7_wrongWashes 1 = .ok (.ifCond .ge 8, 3) := by decide +kernel
theorem dX7_wrongWashes_4 : decode cX7_wrongWashes 4 = .ok (.bipush (-4), 2) := by decide +kernel
theorem dX7_wrongWashes_6 : decode cX7_wrongWashes 6 = .ok (.goto 16, 3) := by decide +kernel
theorem dX7_wrongWashes_9 : decode cX7_wrongWashes 9 = .ok (.iload_n 0, 1) := by decide +kernel
theorem dX7_wrongWashes_10 : decode cX7_wrongWashes 10 = .ok (.sipush 200, 3) := by decide +kernel
theorem dX7_wrongWashes_13 : decode cX7_wrongWashes 13 = .ok (.if_icmp .le 8, 3) := by decide +kernel
theorem dX7_wrongWashes_16 : decode cX7_wrongWashes 16 = .ok (.bipush (-6), 2) := by decide +kernel
theorem dX7_wrongWashes_18 : decode cX7_wrongWashes 18 = .ok (.goto 4, 3) := by decide +kernel
theorem dX7_wrongWashes_21 : decode cX7_wrongWashes 21 = .ok (.iconst 0, 1) := by decide +kernel
theorem dX7_wrongWashes_22 : decode cX7_wrongWashes 22 = .ok (.ireturn, 1) := by decide +kernel
theorem dX7_inIn_0 : decode cX7_inIn 0 = .ok (.iload_n 1, 1) := by decide +kernel
theorem dX7_inIn_1 : decode cX7_inIn 1 = .ok (.invokestatic 135, 3) := by decide +kernel
theorem dX7_inIn_4 : decode cX7_inIn 4 = .ok (.ifCond .ne 7, 3) := by decide +kernel
theorem dX7_inIn_7 : decode cX7_inIn 7 = .ok (.iconst (-1), 1) := by decide +kernel
theorem dX7_inIn_8 : decode cX7_inIn 8 = .ok (.goto 7, 3) := by decide +kernel
theorem dX7_inIn_11 : decode cX7_inIn 11 = .ok (.iload_n 2, 1) := by decide +kernel
theorem dX7_inIn_12 : decode cX7_inIn 12 = .ok (.invokestatic 170, 3) := by decide +kernel
theorem dX7_inIn_15 : decode cX7_inIn 15 = .ok (.istore_n 3, 1) := by decide +kernel
theorem dX7_inIn_16 : decode cX7_inIn 16 = .ok (.iload_n 3, 1) := by decide +kernel
theorem dX7_inIn_17 : decode cX7_inIn 17 = .ok (.ifCond .eq 9, 3) := by decide +kernel
theorem dX7_inIn_20 : decode cX7_inIn 20 = .ok (.aload_n 0, 1) := by decide +kernel
theorem dX7_inIn_21 : decode cX7_inIn 21 = .ok (.iload_n 3, 1) := by decide +kernel
theorem dX7_inIn_22 : decode cX7_inIn 22 = .ok (.invokevirtual 151, 3) := by decide +kernel
theorem dX7_inIn_25 : decode cX7_inIn 25 = .ok (.ireturn, 1) := by decide +kernel
theorem dX7_inIn_26 : decode cX7_inIn 26 = .ok (.aload_n 0, 1) := by decide +kernel
theorem dX7_inIn_27 : decode cX7_inIn 27 = .ok (.getfield 9, 3) := by decide +kernel
theorem dX7_inIn_30 : decode cX7_inIn 30 = .ok (.aload_n 0, 1) := by decide +kernel
theorem dX7_inIn_31 : decode cX7_inIn 31 = .ok (.getfield 13, 3) := by decide +kernel
theorem dX7_inIn_34 : decode cX7_inIn 34 = .ok (.invokestatic 144, 3) := by decide +kernel
theorem dX7_inIn_37 : decode cX7_inIn 37 = .ok (.aload_n 0, 1) := by decide +kernel
theorem dX7_inIn_38 : decode cX7_inIn 38 = .ok (.getfield 13, 3) := by decide +kernel
theorem dX7_inIn_41 : decode cX7_inIn 41 = .ok (.iload_n 2, 1) := by decide +kernel
theorem dX7_inIn_42 : decode cX7_inIn 42 = .ok (.invokestatic 138, 3) := by decide +kernel
theorem dX7_inIn_45 : decode cX7_inIn 45 = .ok (.aload_n 0, 1) := by decide +kernel
theorem dX7_inIn_46 : decode cX7_inIn 46 = .ok (.getfield 13, 3) := by decide +kernel
theorem dX7_inIn_49 : decode cX7_inIn 49 = .ok (.iconst 1, 1) := by decide +kernel
theorem dX7_inIn_50 : decode cX7_inIn 50 = .ok (.iload_n 1, 1) := by decide +kernel
theorem dX7_inIn_51 : decode cX7_inIn 51 = .ok (.iadd, 1) := by decide +kernel
theorem dX7_inIn_52 : decode cX7_inIn 52 = .ok (.iaload, 1) := by decide +kernel
theorem dX7_inIn_53 : decode cX7_inIn 53 = .ok (.ireturn, 1) := by decide +kernel
theorem dX7_lost_0 : decode cX7_lost 0 = .ok (.iload_n 1, 1) := by decide +kernel
theorem dX7_lost_1 : decode cX7_lost 1 = .ok (.iconst 0, 1) := by decide +kernel
theorem dX7_lost_2 : decode cX7_lost 2 = .ok (.iconst 1, 1) := by decide +kernel
theorem dX7_lost_3 : decode cX7_lost 3 = .ok (.invokestatic 42, 3) := by decide +kernel
theorem dX7_lost_6 : decode cX7_lost 6 = .ok (.ifCond .ne 10, 3) := by decide +kernel
theorem dX7_lost_9 : decode cX7_lost 9 = .ok (.aload_n 0, 1) := by decide +kernel
theorem dX7_lost_10 : decode cX7_lost 10 = .ok (.bipush (-2), 2) := by decide +kernel
theorem dX7_lost_12 : decode cX7_lost 12 = .ok (.invokevirtual 38, 3) := by decide +kernel
theorem dX7_lost_15 : decode cX7_lost 15 = .ok (.ireturn, 1) := by decide +kernel
theorem dX7_lost_16 : decode cX7_lost 16 = .ok (.aload_n 0, 1) := by decide +kernel
theorem dX7_lost_17 : decode cX7_lost 17 = .ok (.getfield 9, 3) := by decide +kernel
theorem dX7_lost_20 : decode cX7_lost 20 = .ok (.aload_n 0, 1) := by decide +kernel
theorem dX7_lost_21 : decode cX7_lost 21 = .ok (.getfield 13, 3) := by decide +kernel
theorem dX7_lost_24 : decode cX7_lost 24 = .ok (.invokestatic 144, 3) := by decide +kernel
theorem dX7_lost_27 : decode cX7_lost 27 = .ok (.iconst 0, 1) := by decide +kernel
theorem dX7_lost_28 : decode cX7_lost 28 = .ok (.istore_n 2, 1) := by decide +kernel
theorem dX7_lost_29 : decode cX7_lost 29 = .ok (.iload_n 2, 1) := by decide +kernel
theorem dX7_lost_30 : decode cX7_lost 30 = .ok (.sipush 200, 3) := by decide +kernel
theorem dX7_lost_33 : decode cX7_lost 33 = .ok (.if_icmp .gt 67, 3) := by decide +kernel
theorem dX7_lost_36 : decode cX7_lost 36 = .ok (.aload_n 0, 1) := by decide +kernel
theorem dX7_lost_37 : decode cX7_lost 37 = .ok (.getfield 13, 3) := by decide +kernel
theorem dX7_lost_40 : decode cX7_lost 40 = .ok (.invokestatic 161, 3) := by decide +kernel
theorem dX7_lost_43 : decode cX7_lost 43 = .ok (.ifCond .le 43, 3) := by decide +kernel
theorem dX7_lost_46 : decode cX7_lost 46 = .ok (.iload_n 1, 1) := by decide +kernel
theorem dX7_lost_47 : decode cX7_lost 47 = .ok (.ifCond .ne 7, 3) := by decide +kernel
theorem dX7_lost_50 : decode cX7_lost 50 = .ok (.iload_n 2, 1) := by decide +kernel
theorem dX7_lost_51 : decode cX7_lost 51 = .ok (.goto 34, 3) := by decide +kernel
theorem dX7_lost_54 : decode cX7_lost 54 = .ok (.aload_n 0, 1) := by decide +kernel
theorem dX7_lost_55 : decode cX7_lost 55 = .ok (.getfield 13, 3) := by decide +kernel
theorem dX7_lost_58 : decode cX7_lost 58 = .ok (.invokestatic 161, 3) := by decide +kernel
theorem dX7_lost_61 : decode cX7_lost 61 = .ok (.iconst 2, 1) := by decide +kernel
theorem dX7_lost_62 : decode cX7_lost 62 = .ok (.if_icmp .ne 7, 3) := by decide +kernel
theorem dX7_lost_65 : decode cX7_lost 65 = .ok (.iconst 2, 1) := by decide +kernel
theorem dX7_lost_66 : decode cX7_lost 66 = .ok (.goto 19, 3) := by decide +kernel
theorem dX7_lost_69 : decode cX7_lost 69 = .ok (.aload_n 0, 1) := by decide +kernel
theorem dX7_lost_70 : decode cX7_lost 70 = .ok (.getfield 13, 3) := by decide +kernel
theorem dX7_lost_73 : decode cX7_lost 73 = .ok (.iconst 0, 1) := by decide +kernel
theorem dX7_lost_74 : decode cX7_lost 74 = .ok (.invokestatic 94, 3) := by decide +kernel
theorem dX7_lost_77 : decode cX7_lost 77 = .ok (.ifCond .eq 7, 3) := by decide +kernel
theorem dX7_lost_80 : decode cX7_lost 80 = .ok (.iconst 0, 1) := by decide +kernel
theorem dX7_lost_81 : decode cX7_lost 81 = .ok (.goto 4, 3) := by decide +kernel
theorem dX7_lost_84 : decode cX7_lost 84 = .ok (.iconst 1, 1) := by decide +kernel
theorem dX7_lost_85 : decode cX7_lost 85 = .ok (.ireturn, 1) := by decide +kernel
theorem dX7_lost_86 : decode cX7_lost 86 = .ok (.aload_n 0, 1) := by decide +kernel
theorem dX7_lost_87 : decode cX7_lost 87 = .ok (.getfield 13, 3) := by decide +kernel
theorem dX7_lost_90 : decode cX7_lost 90 = .ok (.invokestatic 77, 3) := by decide +kernel
theorem dX7_lost_93 : decode cX7_lost 93 = .ok (.istore_n 3, 1) := by decide +kernel
theorem dX7_lost_94 : decode cX7_lost 94 = .ok (.iinc 2 1, 3) := by decide +kernel
theorem dX7_lost_97 : decode cX7_lost 97 = .ok (.goto (-68), 3) := by decide +kernel
theorem dX7_lost_100 : decode cX7_lost 100 = .ok (.bipush (-9), 2) := by decide +kernel
theorem dX7_lost_102 : decode cX7_lost 102 = .ok (.ireturn, 1) := by decide +kernel
theorem dX7_still_0 : decode cX7_still 0 = .ok (.aload_n 0, 1) := by decide +kernel
theorem dX7_still_1 : decode cX7_still 1 = .ok (.getfield 9, 3) := by decide +kernel
theorem dX7_still_4 : decode cX7_still 4 = .ok (.aload_n 0, 1) := by decide +kernel
theorem dX7_still_5 : decode cX7_still 5 = .ok (.getfield 13, 3) := by decide +kernel
theorem dX7_still_8 : decode cX7_still 8 = .ok (.invokestatic 144, 3) := by decide +kernel
theorem dX7_still_11 : decode cX7_still 11 = .ok (.iconst 0, 1) := by decide +kernel
theorem dX7_still_12 : decode cX7_still 12 = .ok (.istore_n 1, 1) := by decide +kernel
theorem dX7_still_13 : decode cX7_still 13 = .ok (.iload_n 1, 1) := by decide +kernel
theorem dX7_still_14 : decode cX7_still 14 = .ok (.sipush 200, 3) := by decide +kernel
theorem dX7_still_17 : decode cX7_still 17 = .ok (.if_icmp .gt 21, 3) := by decide +kernel
theorem dX7_still_20 : decode cX7_still 20 = .ok (.aload_n 0, 1) := by decide +kernel
theorem dX7_still_21 : decode cX7_still 21 = .ok (.getfield 13, 3) := by decide +kernel
theorem dX7_still_24 : decode cX7_still 24 = .ok (.invokestatic 77, 3) := by decide +kernel
theorem dX7_still_27 : decode cX7_still 27 = .ok (.ifCond .ne 5, 3) := by decide +kernel
theorem dX7_still_30 : decode cX7_still 30 = .ok (.iload_n 1, 1) := by decide +kernel
theorem dX7_still_31 : decode cX7_still 31 = .ok (.ireturn, 1) := by decide +kernel
theorem dX7_still_32 : decode cX7_still 32 = .ok (.iinc 1 1, 3) := by decide +kernel
theorem dX7_still_35 : decode cX7_still 35 = .ok (.goto (-22), 3) := by decide +kernel
theorem dX7_still_38 : decode cX7_still 38 = .ok (.bipush (-9), 2) := by decide +kernel
theorem dX7_still_40 : decode cX7_still 40 = .ok (.ireturn, 1) := by decide +kernel
theorem dX7_wrongSeconds_0 : decode cX7_wrongSeconds 0 = .ok (.iload_n 0, 1) := by decide +kernel
theorem dX7_wrongSeconds_1 : decode cX7_wrongSeconds 1 = .ok (.ifCond .ge 8, 3) := by decide +kernel
theorem dX7_wrongSeconds_4 : decode cX7_wrongSeconds 4 = .ok (.bipush (-4), 2) := by decide +kernel
theorem dX7_wrongSeconds_6 : decode cX7_wrongSeconds 6 = .ok (.goto 16, 3) := by decide +kernel
theorem dX7_wrongSeconds_9 : decode cX7_wrongSeconds 9 = .ok (.iload_n 0, 1) := by decide +kernel
theorem dX7_wrongSeconds_10 : decode cX7_wrongSeconds 10 = .ok (.sipush 999, 3) := by decide +kernel
theorem dX7_wrongSeconds_13 : decode cX7_wrongSeconds 13 = .ok (.if_icmp .le 8, 3) := by decide +kernel
theorem dX7_wrongSeconds_16 : decode cX7_wrongSeconds 16 = .ok (.bipush (-6), 2) := by decide +kernel
theorem dX7_wrongSeconds_18 : decode cX7_wrongSeconds 18 = .ok (.goto 4, 3) := by decide +kernel
theorem dX7_wrongSeconds_21 : decode cX7_wrongSeconds 21 = .ok (.iconst 0, 1) := by decide +kernel
theorem dX7_wrongSeconds_22 : decode cX7_wrongSeconds 22 = .ok (.ireturn, 1) := by decide +kernel
theorem dX7_keep_0 : decode cX7_keep 0 = .ok (.iload_n 1, 1) := by decide +kernel
theorem dX7_keep_1 : decode cX7_keep 1 = .ok (.invokestatic 173, 3) := by decide +kernel
theorem dX7_keep_4 : decode cX7_keep 4 = .ok (.istore_n 2, 1) := by decide +kernel
theorem dX7_keep_5 : decode cX7_keep 5 = .ok (.iload_n 2, 1) := by decide +kernel
theorem dX7_keep_6 : decode cX7_keep 6 = .ok (.ifCond .eq 9, 3) := by decide +kernel
theorem dX7_keep_9 : decode cX7_keep 9 = .ok (.aload_n 0, 1) := by decide +kernel
theorem dX7_keep_10 : decode cX7_keep 10 = .ok (.iload_n 2, 1) := by decide +kernel
theorem dX7_keep_11 : decode cX7_keep 11 = .ok (.invokevirtual 38, 3) := by decide +kernel
theorem dX7_keep_14 : decode cX7_keep 14 = .ok (.ireturn, 1) := by decide +kernel
theorem dX7_keep_15 : decode cX7_keep 15 = .ok (.aload_n 0, 1) := by decide +kernel
theorem dX7_keep_16 : decode cX7_keep 16 = .ok (.getfield 9, 3) := by decide +kernel
theorem dX7_keep_19 : decode cX7_keep 19 = .ok (.aload_n 0, 1) := by decide +kernel
theorem dX7_keep_20 : decode cX7_keep 20 = .ok (.getfield 13, 3) := by decide +kernel
theorem dX7_keep_23 : decode cX7_keep 23 = .ok (.invokestatic 144, 3) := by decide +kernel
theorem dX7_keep_26 : decode cX7_keep 26 = .ok (.iconst 0, 1) := by decide +kernel
theorem dX7_keep_27 : decode cX7_keep 27 = .ok (.istore_n 3, 1) := by decide +kernel
theorem dX7_keep_28 : decode cX7_keep 28 = .ok (.iload_n 3, 1) := by decide +kernel
theorem dX7_keep_29 : decode cX7_keep 29 = .ok (.sipush 200, 3) := by decide +kernel
theorem dX7_keep_32 : decode cX7_keep 32 = .ok (.if_icmp .gt 41, 3) := by decide +kernel
theorem dX7_keep_35 : decode cX7_keep 35 = .ok (.aload_n 0, 1) := by decide +kernel
theorem dX7_keep_36 : decode cX7_keep 36 = .ok (.aload_n 0, 1) := by decide +kernel
theorem dX7_keep_37 : decode cX7_keep 37 = .ok (.getfield 13, 3) := by decide +kernel
theorem dX7_keep_40 : decode cX7_keep 40 = .ok (.invokevirtual 167, 3) := by decide +kernel
theorem dX7_keep_43 : decode cX7_keep 43 = .ok (.istore 4, 2) := by decide +kernel
theorem dX7_keep_45 : decode cX7_keep 45 = .ok (.iload 4, 2) := by decide +kernel
theorem dX7_keep_47 : decode cX7_keep 47 = .ok (.ifCond .lt 9, 3) := by decide +kernel
theorem dX7_keep_50 : decode cX7_keep 50 = .ok (.iload 4, 2) := by decide +kernel
theorem dX7_keep_52 : decode cX7_keep 52 = .ok (.iload_n 1, 1) := by decide +kernel
theorem dX7_keep_53 : decode cX7_keep 53 = .ok (.if_icmp .le 5, 3) := by decide +kernel
theorem dX7_keep_56 : decode cX7_keep 56 = .ok (.iload_n 3, 1) := by decide +kernel
theorem dX7_keep_57 : decode cX7_keep 57 = .ok (.ireturn, 1) := by decide +kernel
theorem dX7_keep_58 : decode cX7_keep 58 = .ok (.aload_n 0, 1) := by decide +kernel
theorem dX7_keep_59 : decode cX7_keep 59 = .ok (.getfield 13, 3) := by decide +kernel
theorem dX7_keep_62 : decode cX7_keep 62 = .ok (.invokestatic 77, 3) := by decide +kernel
theorem dX7_keep_65 : decode cX7_keep 65 = .ok (.istore 5, 2) := by decide +kernel
theorem dX7_keep_67 : decode cX7_keep 67 = .ok (.iinc 3 1, 3) := by decide +kernel
theorem dX7_keep_70 : decode cX7_keep 70 = .ok (.goto (-42), 3) := by decide +kernel
theorem dX7_keep_73 : decode cX7_keep 73 = .ok (.bipush (-9), 2) := by decide +kernel
theorem dX7_keep_75 : decode cX7_keep 75 = .ok (.ireturn, 1) := by decide +kernel
theorem dX7_deep_0 : decode cX7_deep 0 = .ok (.iload_n 1, 1) := by decide +kernel
theorem dX7_deep_1 : decode cX7_deep 1 = .ok (.invokestatic 135, 3) := by decide +kernel
theorem dX7_deep_4 : decode cX7_deep 4 = .ok (.ifCond .ne 7, 3) := by decide +kernel
theorem dX7_deep_7 : decode cX7_deep 7 = .ok (.iconst (-1), 1) := by decide +kernel
theorem dX7_deep_8 : decode cX7_deep 8 = .ok (.goto 7, 3) := by decide +kernel
theorem dX7_deep_11 : decode cX7_deep 11 = .ok (.iload_n 2, 1) := by decide +kernel
theorem dX7_deep_12 : decode cX7_deep 12 = .ok (.invokestatic 173, 3) := by decide +kernel
theorem dX7_deep_15 : decode cX7_deep 15 = .ok (.istore_n 3, 1) := by decide +kernel
theorem dX7_deep_16 : decode cX7_deep 16 = .ok (.iload_n 3, 1) := by decide +kernel
theorem dX7_deep_17 : decode cX7_deep 17 = .ok (.ifCond .eq 9, 3) := by decide +kernel
theorem dX7_deep_20 : decode cX7_deep 20 = .ok (.aload_n 0, 1) := by decide +kernel
theorem dX7_deep_21 : decode cX7_deep 21 = .ok (.iload_n 3, 1) := by decide +kernel
theorem dX7_deep_22 : decode cX7_deep 22 = .ok (.invokevirtual 38, 3) := by decide +kernel
theorem dX7_deep_25 : decode cX7_deep 25 = .ok (.ireturn, 1) := by decide +kernel
theorem dX7_deep_26 : decode cX7_deep 26 = .ok (.aload_n 0, 1) := by decide +kernel
theorem dX7_deep_27 : decode cX7_deep 27 = .ok (.getfield 9, 3) := by decide +kernel
theorem dX7_deep_30 : decode cX7_deep 30 = .ok (.aload_n 0, 1) := by decide +kernel
theorem dX7_deep_31 : decode cX7_deep 31 = .ok (.getfield 13, 3) := by decide +kernel
theorem dX7_deep_34 : decode cX7_deep 34 = .ok (.invokestatic 144, 3) := by decide +kernel
theorem dX7_deep_37 : decode cX7_deep 37 = .ok (.bipush 24, 2) := by decide +kernel
theorem dX7_deep_39 : decode cX7_deep 39 = .ok (.istore 4, 2) := by decide +kernel
theorem dX7_deep_41 : decode cX7_deep 41 = .ok (.iload 4, 2) := by decide +kernel
theorem dX7_deep_43 : decode cX7_deep 43 = .ok (.ifCond .le 44, 3) := by decide +kernel
theorem dX7_deep_46 : decode cX7_deep 46 = .ok (.aload_n 0, 1) := by decide +kernel
theorem dX7_deep_47 : decode cX7_deep 47 = .ok (.getfield 13, 3) := by decide +kernel
theorem dX7_deep_50 : decode cX7_deep 50 = .ok (.iconst 1, 1) := by decide +kernel
theorem dX7_deep_51 : decode cX7_deep 51 = .ok (.iload_n 1, 1) := by decide +kernel
theorem dX7_deep_52 : decode cX7_deep 52 = .ok (.iadd, 1) := by decide +kernel
theorem dX7_deep_53 : decode cX7_deep 53 = .ok (.iload 4, 2) := by decide +kernel
theorem dX7_deep_55 : decode cX7_deep 55 = .ok (.iastore, 1) := by decide +kernel
theorem dX7_deep_56 : decode cX7_deep 56 = .ok (.aload_n 0, 1) := by decide +kernel
theorem dX7_deep_57 : decode cX7_deep 57 = .ok (.aload_n 0, 1) := by decide +kernel
theorem dX7_deep_58 : decode cX7_deep 58 = .ok (.getfield 13, 3) := by decide +kernel
theorem dX7_deep_61 : decode cX7_deep 61 = .ok (.iload_n 1, 1) := by decide +kernel
theorem dX7_deep_62 : decode cX7_deep 62 = .ok (.invokevirtual 105, 3) := by decide +kernel
theorem dX7_deep_65 : decode cX7_deep 65 = .ok (.istore 5, 2) := by decide +kernel
theorem dX7_deep_67 : decode cX7_deep 67 = .ok (.iload 5, 2) := by decide +kernel
theorem dX7_deep_69 : decode cX7_deep 69 = .ok (.ifCond .lt 12, 3) := by decide +kernel
theorem dX7_deep_72 : decode cX7_deep 72 = .ok (.iload 5, 2) := by decide +kernel
theorem dX7_deep_74 : decode cX7_deep 74 = .ok (.iload_n 2, 1) := by decide +kernel
theorem dX7_deep_75 : decode cX7_deep 75 = .ok (.if_icmp .gt 6, 3) := by decide +kernel
theorem dX7_deep_78 : decode cX7_deep 78 = .ok (.iload 4, 2) := by decide +kernel
theorem dX7_deep_80 : decode cX7_deep 80 = .ok (.ireturn, 1) := by decide +kernel
theorem dX7_deep_81 : decode cX7_deep 81 = .ok (.iinc 4 (-1), 3) := by decide +kernel
theorem dX7_deep_84 : decode cX7_deep 84 = .ok (.goto (-43), 3) := by decide +kernel
theorem dX7_deep_87 : decode cX7_deep 87 = .ok (.bipush (-9), 2) := by decide +kernel
theorem dX7_deep_89 : decode cX7_deep 89 = .ok (.ireturn, 1) := by decide +kernel
theorem dX7_mended_0 : decode cX7_mended 0 = .ok (.iconst 0, 1) := by decide +kernel
theorem dX7_mended_1 : decode cX7_mended 1 = .ok (.istore_n 2, 1) := by decide +kernel
theorem dX7_mended_2 : decode cX7_mended 2 = .ok (.aload_n 0, 1) := by decide +kernel
theorem dX7_mended_3 : decode cX7_mended 3 = .ok (.iconst 0, 1) := by decide +kernel
theorem dX7_mended_4 : decode cX7_mended 4 = .ok (.putfield 176, 3) := by decide +kernel
theorem dX7_mended_7 : decode cX7_mended 7 = .ok (.iconst 0, 1) := by decide +kernel
theorem dX7_mended_8 : decode cX7_mended 8 = .ok (.istore_n 3, 1) := by decide +kernel
theorem dX7_mended_9 : decode cX7_mended 9 = .ok (.iload_n 3, 1) := by decide +kernel
theorem dX7_mended_10 : decode cX7_mended 10 = .ok (.iload_n 1, 1) := by decide +kernel
theorem dX7_mended_11 : decode cX7_mended 11 = .ok (.if_icmp .ge 122, 3) := by decide +kernel
theorem dX7_mended_14 : decode cX7_mended 14 = .ok (.aload_n 0, 1) := by decide +kernel
theorem dX7_mended_15 : decode cX7_mended 15 = .ok (.getfield 13, 3) := by decide +kernel
theorem dX7_mended_18 : decode cX7_mended 18 = .ok (.invokestatic 77, 3) := by decide +kernel
theorem dX7_mended_21 : decode cX7_mended 21 = .ok (.istore 4, 2) := by decide +kernel
theorem dX7_mended_23 : decode cX7_mended 23 = .ok (.iconst 0, 1) := by decide +kernel
theorem dX7_mended_24 : decode cX7_mended 24 = .ok (.istore 5, 2) := by decide +kernel
theorem dX7_mended_26 : decode cX7_mended 26 = .ok (.iload 5, 2) := by decide +kernel
theorem dX7_mended_28 : decode cX7_mended 28 = .ok (.iconst 2, 1) := by decide +kernel
theorem dX7_mended_29 : decode cX7_mended 29 = .ok (.if_icmp .ge 98, 3) := by decide +kernel
theorem dX7_mended_32 : decode cX7_mended 32 = .ok (.aload_n 0, 1) := by decide +kernel
theorem dX7_mended_33 : decode cX7_mended 33 = .ok (.getfield 13, 3) := by decide +kernel
theorem dX7_mended_36 : decode cX7_mended 36 = .ok (.iload 5, 2) := by decide +kernel
theorem dX7_mended_38 : decode cX7_mended 38 = .ok (.invokestatic 94, 3) := by decide +kernel
theorem dX7_mended_41 : decode cX7_mended 41 = .ok (.ifCond .ne 6, 3) := by decide +kernel
theorem dX7_mended_44 : decode cX7_mended 44 = .ok (.goto 77, 3) := by decide +kernel
theorem dX7_mended_47 : decode cX7_mended 47 = .ok (.aload_n 0, 1) := by decide +kernel
theorem dX7_mended_48 : decode cX7_mended 48 = .ok (.aload_n 0, 1) := by decide +kernel
theorem dX7_mended_49 : decode cX7_mended 49 = .ok (.getfield 13, 3) := by decide +kernel
theorem dX7_mended_52 : decode cX7_mended 52 = .ok (.iload 5, 2) := by decide +kernel
theorem dX7_mended_54 : decode cX7_mended 54 = .ok (.invokevirtual 105, 3) := by decide +kernel
theorem dX7_mended_57 : decode cX7_mended 57 = .ok (.istore 6, 2) := by decide +kernel
theorem dX7_mended_59 : decode cX7_mended 59 = .ok (.aload_n 0, 1) := by decide +kernel
theorem dX7_mended_60 : decode cX7_mended 60 = .ok (.dup, 1) := by decide +kernel
theorem dX7_mended_61 : decode cX7_mended 61 = .ok (.getfield 176, 3) := by decide +kernel
theorem dX7_mended_64 : decode cX7_mended 64 = .ok (.iconst 1, 1) := by decide +kernel
theorem dX7_mended_65 : decode cX7_mended 65 = .ok (.iadd, 1) := by decide +kernel
theorem dX7_mended_66 : decode cX7_mended 66 = .ok (.putfield 176, 3) := by decide +kernel
theorem dX7_mended_69 : decode cX7_mended 69 = .ok (.iload 6, 2) := by decide +kernel
theorem dX7_mended_71 : decode cX7_mended 71 = .ok (.ifCond .lt 15, 3) := by decide +kernel
theorem dX7_mended_74 : decode cX7_mended 74 = .ok (.aload_n 0, 1) := by decide +kernel
theorem dX7_mended_75 : decode cX7_mended 75 = .ok (.getfield 13, 3) := by decide +kernel
theorem dX7_mended_78 : decode cX7_mended 78 = .ok (.invokestatic 158, 3) := by decide +kernel
theorem dX7_mended_81 : decode cX7_mended 81 = .ok (.iload 6, 2) := by decide +kernel
theorem dX7_mended_83 : decode cX7_mended 83 = .ok (.if_icmp .ge 23, 3) := by decide +kernel
theorem dX7_mended_86 : decode cX7_mended 86 = .ok (.iload_n 2, 1) := by decide +kernel
theorem dX7_mended_87 : decode cX7_mended 87 = .ok (.aload_n 0, 1) := by decide +kernel
theorem dX7_mended_88 : decode cX7_mended 88 = .ok (.getfield 13, 3) := by decide +kernel
theorem dX7_mended_91 : decode cX7_mended 91 = .ok (.invokestatic 158, 3) := by decide +kernel
theorem dX7_mended_94 : decode cX7_mended 94 = .ok (.iadd, 1) := by decide +kernel
theorem dX7_mended_95 : decode cX7_mended 95 = .ok (.istore_n 2, 1) := by decide +kernel
theorem dX7_mended_96 : decode cX7_mended 96 = .ok (.aload_n 0, 1) := by decide +kernel
theorem dX7_mended_97 : decode cX7_mended 97 = .ok (.getfield 13, 3) := by decide +kernel
theorem dX7_mended_100 : decode cX7_mended 100 = .ok (.invokestatic 154, 3) := by decide +kernel
theorem dX7_mended_103 : decode cX7_mended 103 = .ok (.goto 18, 3) := by decide +kernel
theorem dX7_mended_106 : decode cX7_mended 106 = .ok (.iload_n 2, 1) := by decide +kernel
theorem dX7_mended_107 : decode cX7_mended 107 = .ok (.iload 6, 2) := by decide +kernel
theorem dX7_mended_109 : decode cX7_mended 109 = .ok (.iadd, 1) := by decide +kernel
theorem dX7_mended_110 : decode cX7_mended 110 = .ok (.istore_n 2, 1) := by decide +kernel
theorem dX7_mended_111 : decode cX7_mended 111 = .ok (.aload_n 0, 1) := by decide +kernel
theorem dX7_mended_112 : decode cX7_mended 112 = .ok (.getfield 13, 3) := by decide +kernel
theorem dX7_mended_115 : decode cX7_mended 115 = .ok (.iconst 1, 1) := by decide +kernel
theorem dX7_mended_116 : decode cX7_mended 116 = .ok (.iload 5, 2) := by decide +kernel
theorem dX7_mended_118 : decode cX7_mended 118 = .ok (.iadd, 1) := by decide +kernel
theorem dX7_mended_119 : decode cX7_mended 119 = .ok (.iconst 0, 1) := by decide +kernel
theorem dX7_mended_120 : decode cX7_mended 120 = .ok (.iastore, 1) := by decide +kernel
theorem dX7_mended_121 : decode cX7_mended 121 = .ok (.iinc 5 1, 3) := by decide +kernel
theorem dX7_mended_124 : decode cX7_mended 124 = .ok (.goto (-98), 3) := by decide +kernel
theorem dX7_mended_127 : decode cX7_mended 127 = .ok (.iinc 3 1, 3) := by decide +kernel
theorem dX7_mended_130 : decode cX7_mended 130 = .ok (.goto (-121), 3) := by decide +kernel
theorem dX7_mended_133 : decode cX7_mended 133 = .ok (.iload_n 2, 1) := by decide +kernel
theorem dX7_mended_134 : decode cX7_mended 134 = .ok (.ireturn, 1) := by decide +kernel
theorem dX7_stops_0 : decode cX7_stops 0 = .ok (.iload_n 1, 1) := by decide +kernel
theorem dX7_stops_1 : decode cX7_stops 1 = .ok (.invokestatic 170, 3) := by decide +kernel
theorem dX7_stops_4 : decode cX7_stops 4 = .ok (.istore_n 3, 1) := by decide +kernel
theorem dX7_stops_5 : decode cX7_stops 5 = .ok (.iload_n 3, 1) := by decide +kernel
theorem dX7_stops_6 : decode cX7_stops 6 = .ok (.ifCond .ne 15, 3) := by decide +kernel
theorem dX7_stops_9 : decode cX7_stops 9 = .ok (.iload_n 2, 1) := by decide +kernel
theorem dX7_stops_10 : decode cX7_stops 10 = .ok (.iconst 0, 1) := by decide +kernel
theorem dX7_stops_11 : decode cX7_stops 11 = .ok (.iconst 1, 1) := by decide +kernel
theorem dX7_stops_12 : decode cX7_stops 12 = .ok (.invokestatic 42, 3) := by decide +kernel
theorem dX7_stops_15 : decode cX7_stops 15 = .ok (.ifCond .ne 6, 3) := by decide +kernel
theorem dX7_stops_18 : decode cX7_stops 18 = .ok (.bipush (-2), 2) := by decide +kernel
theorem dX7_stops_20 : decode cX7_stops 20 = .ok (.istore_n 3, 1) := by decide +kernel
theorem dX7_stops_21 : decode cX7_stops 21 = .ok (.iload_n 3, 1) := by decide +kernel
theorem dX7_stops_22 : decode cX7_stops 22 = .ok (.ifCond .eq 9, 3) := by decide +kernel
theorem dX7_stops_25 : decode cX7_stops 25 = .ok (.aload_n 0, 1) := by decide +kernel
theorem dX7_stops_26 : decode cX7_stops 26 = .ok (.iload_n 3, 1) := by decide +kernel
theorem dX7_stops_27 : decode cX7_stops 27 = .ok (.invokevirtual 38, 3) := by decide +kernel
theorem dX7_stops_30 : decode cX7_stops 30 = .ok (.ireturn, 1) := by decide +kernel
theorem dX7_stops_31 : decode cX7_stops 31 = .ok (.iconst 0, 1) := by decide +kernel
theorem dX7_stops_32 : decode cX7_stops 32 = .ok (.istore 4, 2) := by decide +kernel
theorem dX7_stops_34 : decode cX7_stops 34 = .ok (.ldc 37, 2) := by decide +kernel
theorem dX7_stops_36 : decode cX7_stops 36 = .ok (.istore 5, 2) := by decide +kernel
theorem dX7_stops_38 : decode cX7_stops 38 = .ok (.iconst 0, 1) := by decide +kernel
theorem dX7_stops_39 : decode cX7_stops 39 = .ok (.istore 6, 2) := by decide +kernel
theorem dX7_stops_41 : decode cX7_stops 41 = .ok (.iload 6, 2) := by decide +kernel
theorem dX7_stops_43 : decode cX7_stops 43 = .ok (.iconst 5, 1) := by decide +kernel
theorem dX7_stops_44 : decode cX7_stops 44 = .ok (.if_icmp .ge 130, 3) := by decide +kernel
theorem dX7_stops_47 : decode cX7_stops 47 = .ok (.aload_n 0, 1) := by decide +kernel
theorem dX7_stops_48 : decode cX7_stops 48 = .ok (.getfield 9, 3) := by decide +kernel
theorem dX7_stops_51 : decode cX7_stops 51 = .ok (.aload_n 0, 1) := by decide +kernel
theorem dX7_stops_52 : decode cX7_stops 52 = .ok (.getfield 13, 3) := by decide +kernel
theorem dX7_stops_55 : decode cX7_stops 55 = .ok (.invokestatic 144, 3) := by decide +kernel
theorem dX7_stops_58 : decode cX7_stops 58 = .ok (.iload 6, 2) := by decide +kernel
theorem dX7_stops_60 : decode cX7_stops 60 = .ok (.iconst 1, 1) := by decide +kernel
theorem dX7_stops_61 : decode cX7_stops 61 = .ok (.if_icmp .eq 9, 3) := by decide +kernel
theorem dX7_stops_64 : decode cX7_stops 64 = .ok (.iload 6, 2) := by decide +kernel
theorem dX7_stops_66 : decode cX7_stops 66 = .ok (.iconst 3, 1) := by decide +kernel
theorem dX7_stops_67 : decode cX7_stops 67 = .ok (.if_icmp .ne 10, 3) := by decide +kernel
theorem dX7_stops_70 : decode cX7_stops 70 = .ok (.aload_n 0, 1) := by decide +kernel
theorem dX7_stops_71 : decode cX7_stops 71 = .ok (.getfield 13, 3) := by decide +kernel
theorem dX7_stops_74 : decode cX7_stops 74 = .ok (.iconst 3, 1) := by decide +kernel
theorem dX7_stops_75 : decode cX7_stops 75 = .ok (.iconst 1, 1) := by decide +kernel
theorem dX7_stops_76 : decode cX7_stops 76 = .ok (.iastore, 1) := by decide +kernel
theorem dX7_stops_77 : decode cX7_stops 77 = .ok (.iload 6, 2) := by decide +kernel
theorem dX7_stops_79 : decode cX7_stops 79 = .ok (.iconst 2, 1) := by decide +kernel
theorem dX7_stops_80 : decode cX7_stops 80 = .ok (.if_icmp .eq 9, 3) := by decide +kernel
theorem dX7_stops_83 : decode cX7_stops 83 = .ok (.iload 6, 2) := by decide +kernel
theorem dX7_stops_85 : decode cX7_stops 85 = .ok (.iconst 3, 1) := by decide +kernel
theorem dX7_stops_86 : decode cX7_stops 86 = .ok (.if_icmp .ne 10, 3) := by decide +kernel
theorem dX7_stops_89 : decode cX7_stops 89 = .ok (.aload_n 0, 1) := by decide +kernel
theorem dX7_stops_90 : decode cX7_stops 90 = .ok (.getfield 13, 3) := by decide +kernel
theorem dX7_stops_93 : decode cX7_stops 93 = .ok (.iconst 4, 1) := by decide +kernel
theorem dX7_stops_94 : decode cX7_stops 94 = .ok (.iconst 1, 1) := by decide +kernel
theorem dX7_stops_95 : decode cX7_stops 95 = .ok (.iastore, 1) := by decide +kernel
theorem dX7_stops_96 : decode cX7_stops 96 = .ok (.iload 6, 2) := by decide +kernel
theorem dX7_stops_98 : decode cX7_stops 98 = .ok (.iconst 4, 1) := by decide +kernel
theorem dX7_stops_99 : decode cX7_stops 99 = .ok (.if_icmp .ne 10, 3) := by decide +kernel
theorem dX7_stops_102 : decode cX7_stops 102 = .ok (.aload_n 0, 1) := by decide +kernel
theorem dX7_stops_103 : decode cX7_stops 103 = .ok (.getfield 13, 3) := by decide +kernel
theorem dX7_stops_106 : decode cX7_stops 106 = .ok (.iconst 5, 1) := by decide +kernel
theorem dX7_stops_107 : decode cX7_stops 107 = .ok (.iconst 1, 1) := by decide +kernel
theorem dX7_stops_108 : decode cX7_stops 108 = .ok (.iastore, 1) := by decide +kernel
theorem dX7_stops_109 : decode cX7_stops 109 = .ok (.aload_n 0, 1) := by decide +kernel
theorem dX7_stops_110 : decode cX7_stops 110 = .ok (.iload_n 1, 1) := by decide +kernel
theorem dX7_stops_111 : decode cX7_stops 111 = .ok (.invokevirtual 179, 3) := by decide +kernel
theorem dX7_stops_114 : decode cX7_stops 114 = .ok (.iload 6, 2) := by decide +kernel
theorem dX7_stops_116 : decode cX7_stops 116 = .ok (.ifCond .ne 7, 3) := by decide +kernel
theorem dX7_stops_119 : decode cX7_stops 119 = .ok (.iconst 0, 1) := by decide +kernel
theorem dX7_stops_120 : decode cX7_stops 120 = .ok (.goto 27, 3) := by decide +kernel
theorem dX7_stops_123 : decode cX7_stops 123 = .ok (.iload 6, 2) := by decide +kernel
theorem dX7_stops_125 : decode cX7_stops 125 = .ok (.iconst 3, 1) := by decide +kernel
theorem dX7_stops_126 : decode cX7_stops 126 = .ok (.if_icmp .ge 8, 3) := by decide +kernel
theorem dX7_stops_129 : decode cX7_stops 129 = .ok (.bipush 20, 2) := by decide +kernel
theorem dX7_stops_131 : decode cX7_stops 131 = .ok (.goto 16, 3) := by decide +kernel
theorem dX7_stops_134 : decode cX7_stops 134 = .ok (.iload 6, 2) := by decide +kernel
theorem dX7_stops_136 : decode cX7_stops 136 = .ok (.iconst 3, 1) := by decide +kernel
theorem dX7_stops_137 : decode cX7_stops 137 = .ok (.if_icmp .ne 8, 3) := by decide +kernel
theorem dX7_stops_140 : decode cX7_stops 140 = .ok (.bipush 40, 2) := by decide +kernel
theorem dX7_stops_142 : decode cX7_stops 142 = .ok (.goto 5, 3) := by decide +kernel
theorem dX7_stops_145 : decode cX7_stops 145 = .ok (.bipush 50, 2) := by decide +kernel
theorem dX7_stops_147 : decode cX7_stops 147 = .ok (.iadd, 1) := by decide +kernel
theorem dX7_stops_148 : decode cX7_stops 148 = .ok (.istore 7, 2) := by decide +kernel
theorem dX7_stops_150 : decode cX7_stops 150 = .ok (.iload 7, 2) := by decide +kernel
theorem dX7_stops_152 : decode cX7_stops 152 = .ok (.iload 5, 2) := by decide +kernel
theorem dX7_stops_154 : decode cX7_stops 154 = .ok (.if_icmp .lt 6, 3) := by decide +kernel
theorem dX7_stops_157 : decode cX7_stops 157 = .ok (.goto 11, 3) := by decide +kernel
theorem dX7_stops_160 : decode cX7_stops 160 = .ok (.iload 6, 2) := by decide +kernel
theorem dX7_stops_162 : decode cX7_stops 162 = .ok (.istore 4, 2) := by decide +kernel
theorem dX7_stops_164 : decode cX7_stops 164 = .ok (.iload 7, 2) := by decide +kernel
theorem dX7_stops_166 : decode cX7_stops 166 = .ok (.istore 5, 2) := by decide +kernel
theorem dX7_stops_168 : decode cX7_stops 168 = .ok (.iinc 6 1, 3) := by decide +kernel
theorem dX7_stops_171 : decode cX7_stops 171 = .ok (.goto (-130), 3) := by decide +kernel
theorem dX7_stops_174 : decode cX7_stops 174 = .ok (.iload_n 2, 1) := by decide +kernel
theorem dX7_stops_175 : decode cX7_stops 175 = .ok (.ifCond .ne 8, 3) := by decide +kernel
theorem dX7_stops_178 : decode cX7_stops 178 = .ok (.iload 4, 2) := by decide +kernel
theorem dX7_stops_180 : decode cX7_stops 180 = .ok (.goto 5, 3) := by decide +kernel
theorem dX7_stops_183 : decode cX7_stops 183 = .ok (.iload 5, 2) := by decide +kernel
theorem dX7_stops_185 : decode cX7_stops 185 = .ok (.ireturn, 1) := by decide +kernel
theorem dX7_care_0 : decode cX7_care 0 = .ok (.iload_n 1, 1) := by decide +kernel
theorem dX7_care_1 : decode cX7_care 1 = .ok (.invokestatic 170, 3) := by decide +kernel
theorem dX7_care_4 : decode cX7_care 4 = .ok (.istore_n 2, 1) := by decide +kernel
theorem dX7_care_5 : decode cX7_care 5 = .ok (.iload_n 2, 1) := by decide +kernel
theorem dX7_care_6 : decode cX7_care 6 = .ok (.ifCond .eq 9, 3) := by decide +kernel
theorem dX7_care_9 : decode cX7_care 9 = .ok (.aload_n 0, 1) := by decide +kernel
theorem dX7_care_10 : decode cX7_care 10 = .ok (.iload_n 2, 1) := by decide +kernel
theorem dX7_care_11 : decode cX7_care 11 = .ok (.invokevirtual 38, 3) := by decide +kernel
theorem dX7_care_14 : decode cX7_care 14 = .ok (.ireturn, 1) := by decide +kernel
theorem dX7_care_15 : decode cX7_care 15 = .ok (.aload_n 0, 1) := by decide +kernel
theorem dX7_care_16 : decode cX7_care 16 = .ok (.getfield 9, 3) := by decide +kernel
theorem dX7_care_19 : decode cX7_care 19 = .ok (.aload_n 0, 1) := by decide +kernel
theorem dX7_care_20 : decode cX7_care 20 = .ok (.getfield 13, 3) := by decide +kernel
theorem dX7_care_23 : decode cX7_care 23 = .ok (.invokestatic 144, 3) := by decide +kernel
theorem dX7_care_26 : decode cX7_care 26 = .ok (.aload_n 0, 1) := by decide +kernel
theorem dX7_care_27 : decode cX7_care 27 = .ok (.iload_n 1, 1) := by decide +kernel
theorem dX7_care_28 : decode cX7_care 28 = .ok (.invokevirtual 179, 3) := by decide +kernel
theorem dX7_care_31 : decode cX7_care 31 = .ok (.istore_n 3, 1) := by decide +kernel
theorem dX7_care_32 : decode cX7_care 32 = .ok (.aload_n 0, 1) := by decide +kernel
theorem dX7_care_33 : decode cX7_care 33 = .ok (.getfield 176, 3) := by decide +kernel
theorem dX7_care_36 : decode cX7_care 36 = .ok (.ireturn, 1) := by decide +kernel
theorem dX7_holdsUp_0 : decode cX7_holdsUp 0 = .ok (.iload_n 1, 1) := by decide +kernel
theorem dX7_holdsUp_1 : decode cX7_holdsUp 1 = .ok (.invokestatic 135, 3) := by decide +kernel
theorem dX7_holdsUp_4 : decode cX7_holdsUp 4 = .ok (.ifCond .ne 9, 3) := by decide +kernel
theorem dX7_holdsUp_7 : decode cX7_holdsUp 7 = .ok (.aload_n 0, 1) := by decide +kernel
theorem dX7_holdsUp_8 : decode cX7_holdsUp 8 = .ok (.iconst (-1), 1) := by decide +kernel
theorem dX7_holdsUp_9 : decode cX7_holdsUp 9 = .ok (.invokevirtual 38, 3) := by decide +kernel
theorem dX7_holdsUp_12 : decode cX7_holdsUp 12 = .ok (.ireturn, 1) := by decide +kernel
theorem dX7_holdsUp_13 : decode cX7_holdsUp 13 = .ok (.aload_n 0, 1) := by decide +kernel
theorem dX7_holdsUp_14 : decode cX7_holdsUp 14 = .ok (.aload_n 0, 1) := by decide +kernel
theorem dX7_holdsUp_15 : decode cX7_holdsUp 15 = .ok (.getfield 9, 3) := by decide +kernel
theorem dX7_holdsUp_18 : decode cX7_holdsUp 18 = .ok (.iload_n 1, 1) := by decide +kernel
theorem dX7_holdsUp_19 : decode cX7_holdsUp 19 = .ok (.invokevirtual 105, 3) := by decide +kernel
theorem dX7_holdsUp_22 : decode cX7_holdsUp 22 = .ok (.istore_n 2, 1) := by decide +kernel
theorem dX7_holdsUp_23 : decode cX7_holdsUp 23 = .ok (.bipush (-9), 2) := by decide +kernel
theorem dX7_holdsUp_25 : decode cX7_holdsUp 25 = .ok (.istore_n 3, 1) := by decide +kernel
theorem dX7_holdsUp_26 : decode cX7_holdsUp 26 = .ok (.iconst 0, 1) := by decide +kernel
theorem dX7_holdsUp_27 : decode cX7_holdsUp 27 = .ok (.istore 4, 2) := by decide +kernel
theorem dX7_holdsUp_29 : decode cX7_holdsUp 29 = .ok (.iload 4, 2) := by decide +kernel
theorem dX7_holdsUp_31 : decode cX7_holdsUp 31 = .ok (.aload_n 0, 1) := by decide +kernel
theorem dX7_holdsUp_32 : decode cX7_holdsUp 32 = .ok (.getfield 9, 3) := by decide +kernel
theorem dX7_holdsUp_35 : decode cX7_holdsUp 35 = .ok (.iconst 0, 1) := by decide +kernel
theorem dX7_holdsUp_36 : decode cX7_holdsUp 36 = .ok (.iaload, 1) := by decide +kernel
theorem dX7_holdsUp_37 : decode cX7_holdsUp 37 = .ok (.if_icmp .ge 68, 3) := by decide +kernel
theorem dX7_holdsUp_40 : decode cX7_holdsUp 40 = .ok (.aload_n 0, 1) := by decide +kernel
theorem dX7_holdsUp_41 : decode cX7_holdsUp 41 = .ok (.getfield 9, 3) := by decide +kernel
theorem dX7_holdsUp_44 : decode cX7_holdsUp 44 = .ok (.aload_n 0, 1) := by decide +kernel
theorem dX7_holdsUp_45 : decode cX7_holdsUp 45 = .ok (.getfield 13, 3) := by decide +kernel
theorem dX7_holdsUp_48 : decode cX7_holdsUp 48 = .ok (.invokestatic 144, 3) := by decide +kernel
theorem dX7_holdsUp_51 : decode cX7_holdsUp 51 = .ok (.aload_n 0, 1) := by decide +kernel
theorem dX7_holdsUp_52 : decode cX7_holdsUp 52 = .ok (.getfield 13, 3) := by decide +kernel
theorem dX7_holdsUp_55 : decode cX7_holdsUp 55 = .ok (.bipush 8, 2) := by decide +kernel
theorem dX7_holdsUp_57 : decode cX7_holdsUp 57 = .ok (.iconst 2, 1) := by decide +kernel
theorem dX7_holdsUp_58 : decode cX7_holdsUp 58 = .ok (.iload 4, 2) := by decide +kernel
theorem dX7_holdsUp_60 : decode cX7_holdsUp 60 = .ok (.imul, 1) := by decide +kernel
theorem dX7_holdsUp_61 : decode cX7_holdsUp 61 = .ok (.iadd, 1) := by decide +kernel
theorem dX7_holdsUp_62 : decode cX7_holdsUp 62 = .ok (.iconst 0, 1) := by decide +kernel
theorem dX7_holdsUp_63 : decode cX7_holdsUp 63 = .ok (.iastore, 1) := by decide +kernel
theorem dX7_holdsUp_64 : decode cX7_holdsUp 64 = .ok (.aload_n 0, 1) := by decide +kernel
theorem dX7_holdsUp_65 : decode cX7_holdsUp 65 = .ok (.aload_n 0, 1) := by decide +kernel
theorem dX7_holdsUp_66 : decode cX7_holdsUp 66 = .ok (.getfield 13, 3) := by decide +kernel
theorem dX7_holdsUp_69 : decode cX7_holdsUp 69 = .ok (.iload_n 1, 1) := by decide +kernel
theorem dX7_holdsUp_70 : decode cX7_holdsUp 70 = .ok (.invokevirtual 105, 3) := by decide +kernel
theorem dX7_holdsUp_73 : decode cX7_holdsUp 73 = .ok (.istore 5, 2) := by decide +kernel
theorem dX7_holdsUp_75 : decode cX7_holdsUp 75 = .ok (.iload 5, 2) := by decide +kernel
theorem dX7_holdsUp_77 : decode cX7_holdsUp 77 = .ok (.ifCond .lt 22, 3) := by decide +kernel
theorem dX7_holdsUp_80 : decode cX7_holdsUp 80 = .ok (.iload_n 2, 1) := by decide +kernel
theorem dX7_holdsUp_81 : decode cX7_holdsUp 81 = .ok (.ifCond .lt 12, 3) := by decide +kernel
theorem dX7_holdsUp_84 : decode cX7_holdsUp 84 = .ok (.iload 5, 2) := by decide +kernel
theorem dX7_holdsUp_86 : decode cX7_holdsUp 86 = .ok (.iload_n 2, 1) := by decide +kernel
theorem dX7_holdsUp_87 : decode cX7_holdsUp 87 = .ok (.if_icmp .lt 6, 3) := by decide +kernel
theorem dX7_holdsUp_90 : decode cX7_holdsUp 90 = .ok (.goto 9, 3) := by decide +kernel
theorem dX7_holdsUp_93 : decode cX7_holdsUp 93 = .ok (.iload 4, 2) := by decide +kernel
theorem dX7_holdsUp_95 : decode cX7_holdsUp 95 = .ok (.istore_n 3, 1) := by decide +kernel
theorem dX7_holdsUp_96 : decode cX7_holdsUp 96 = .ok (.iload 5, 2) := by decide +kernel
theorem dX7_holdsUp_98 : decode cX7_holdsUp 98 = .ok (.istore_n 2, 1) := by decide +kernel
theorem dX7_holdsUp_99 : decode cX7_holdsUp 99 = .ok (.iinc 4 1, 3) := by decide +kernel
theorem dX7_holdsUp_102 : decode cX7_holdsUp 102 = .ok (.goto (-73), 3) := by decide +kernel
theorem dX7_holdsUp_105 : decode cX7_holdsUp 105 = .ok (.iload_n 3, 1) := by decide +kernel
theorem dX7_holdsUp_106 : decode cX7_holdsUp 106 = .ok (.ireturn, 1) := by decide +kernel
theorem dX7_middle_0 : decode cX7_middle 0 = .ok (.aload_n 0, 1) := by decide +kernel
theorem dX7_middle_1 : decode cX7_middle 1 = .ok (.getfield 9, 3) := by decide +kernel
theorem dX7_middle_4 : decode cX7_middle 4 = .ok (.iconst 1, 1) := by decide +kernel
theorem dX7_middle_5 : decode cX7_middle 5 = .ok (.iaload, 1) := by decide +kernel
theorem dX7_middle_6 : decode cX7_middle 6 = .ok (.aload_n 0, 1) := by decide +kernel
theorem dX7_middle_7 : decode cX7_middle 7 = .ok (.getfield 9, 3) := by decide +kernel
theorem dX7_middle_10 : decode cX7_middle 10 = .ok (.iconst 2, 1) := by decide +kernel
theorem dX7_middle_11 : decode cX7_middle 11 = .ok (.iaload, 1) := by decide +kernel
theorem dX7_middle_12 : decode cX7_middle 12 = .ok (.isub, 1) := by decide +kernel
theorem dX7_middle_13 : decode cX7_middle 13 = .ok (.iconst 2, 1) := by decide +kernel
theorem dX7_middle_14 : decode cX7_middle 14 = .ok (.idiv, 1) := by decide +kernel
theorem dX7_middle_15 : decode cX7_middle 15 = .ok (.istore_n 1, 1) := by decide +kernel
theorem dX7_middle_16 : decode cX7_middle 16 = .ok (.iload_n 1, 1) := by decide +kernel
theorem dX7_middle_17 : decode cX7_middle 17 = .ok (.ifCond .ne 5, 3) := by decide +kernel
theorem dX7_middle_20 : decode cX7_middle 20 = .ok (.iconst 0, 1) := by decide +kernel
theorem dX7_middle_21 : decode cX7_middle 21 = .ok (.ireturn, 1) := by decide +kernel
theorem dX7_middle_22 : decode cX7_middle 22 = .ok (.iload_n 1, 1) := by decide +kernel
theorem dX7_middle_23 : decode cX7_middle 23 = .ok (.ifCond .le 15, 3) := by decide +kernel
theorem dX7_middle_26 : decode cX7_middle 26 = .ok (.aload_n 0, 1) := by decide +kernel
theorem dX7_middle_27 : decode cX7_middle 27 = .ok (.getfield 9, 3) := by decide +kernel
theorem dX7_middle_30 : decode cX7_middle 30 = .ok (.iconst 0, 1) := by decide +kernel
theorem dX7_middle_31 : decode cX7_middle 31 = .ok (.iload_n 1, 1) := by decide +kernel
theorem dX7_middle_32 : decode cX7_middle 32 = .ok (.invokestatic 64, 3) := by decide +kernel
theorem dX7_middle_35 : decode cX7_middle 35 = .ok (.goto 13, 3) := by decide +kernel
theorem dX7_middle_38 : decode cX7_middle 38 = .ok (.aload_n 0, 1) := by decide +kernel
theorem dX7_middle_39 : decode cX7_middle 39 = .ok (.getfield 9, 3) := by decide +kernel
theorem dX7_middle_42 : decode cX7_middle 42 = .ok (.iconst 1, 1) := by decide +kernel
theorem dX7_middle_43 : decode cX7_middle 43 = .ok (.iload_n 1, 1) := by decide +kernel
theorem dX7_middle_44 : decode cX7_middle 44 = .ok (.ineg, 1) := by decide +kernel
theorem dX7_middle_45 : decode cX7_middle 45 = .ok (.invokestatic 64, 3) := by decide +kernel
theorem dX7_middle_48 : decode cX7_middle 48 = .ok (.istore_n 2, 1) := by decide +kernel
theorem dX7_middle_49 : decode cX7_middle 49 = .ok (.iload_n 2, 1) := by decide +kernel
theorem dX7_middle_50 : decode cX7_middle 50 = .ok (.iload_n 1, 1) := by decide +kernel
theorem dX7_middle_51 : decode cX7_middle 51 = .ok (.ifCond .le 7, 3) := by decide +kernel
theorem dX7_middle_54 : decode cX7_middle 54 = .ok (.iload_n 1, 1) := by decide +kernel
theorem dX7_middle_55 : decode cX7_middle 55 = .ok (.goto 5, 3) := by decide +kernel
theorem dX7_middle_58 : decode cX7_middle 58 = .ok (.iload_n 1, 1) := by decide +kernel
theorem dX7_middle_59 : decode cX7_middle 59 = .ok (.ineg, 1) := by decide +kernel
theorem dX7_middle_60 : decode cX7_middle 60 = .ok (.if_icmp .ne 7, 3) := by decide +kernel
theorem dX7_middle_63 : decode cX7_middle 63 = .ok (.iload_n 1, 1) := by decide +kernel
theorem dX7_middle_64 : decode cX7_middle 64 = .ok (.goto 5, 3) := by decide +kernel
theorem dX7_middle_67 : decode cX7_middle 67 = .ok (.bipush 99, 2) := by decide +kernel
theorem dX7_middle_69 : decode cX7_middle 69 = .ok (.ireturn, 1) := by decide +kernel
theorem dX7_cutOff_0 : decode cX7_cutOff 0 = .ok (.iconst 0, 1) := by decide +kernel
theorem dX7_cutOff_1 : decode cX7_cutOff 1 = .ok (.aload_n 0, 1) := by decide +kernel
theorem dX7_cutOff_2 : decode cX7_cutOff 2 = .ok (.getfield 9, 3) := by decide +kernel
theorem dX7_cutOff_5 : decode cX7_cutOff 5 = .ok (.iconst 1, 1) := by decide +kernel
theorem dX7_cutOff_6 : decode cX7_cutOff 6 = .ok (.iaload, 1) := by decide +kernel
theorem dX7_cutOff_7 : decode cX7_cutOff 7 = .ok (.aload_n 0, 1) := by decide +kernel
theorem dX7_cutOff_8 : decode cX7_cutOff 8 = .ok (.getfield 9, 3) := by decide +kernel
theorem dX7_cutOff_11 : decode cX7_cutOff 11 = .ok (.iconst 2, 1) := by decide +kernel
theorem dX7_cutOff_12 : decode cX7_cutOff 12 = .ok (.iaload, 1) := by decide +kernel
theorem dX7_cutOff_13 : decode cX7_cutOff 13 = .ok (.iadd, 1) := by decide +kernel
theorem dX7_cutOff_14 : decode cX7_cutOff 14 = .ok (.ineg, 1) := by decide +kernel
theorem dX7_cutOff_15 : decode cX7_cutOff 15 = .ok (.invokestatic 61, 3) := by decide +kernel
theorem dX7_cutOff_18 : decode cX7_cutOff 18 = .ok (.ireturn, 1) := by decide +kernel
theorem dX7_bestPin_0 : decode cX7_bestPin 0 = .ok (.iload_n 1, 1) := by decide +kernel
theorem dX7_bestPin_1 : decode cX7_bestPin 1 = .ok (.invokestatic 173, 3) := by decide +kernel
theorem dX7_bestPin_4 : decode cX7_bestPin 4 = .ok (.istore_n 2, 1) := by decide +kernel
theorem dX7_bestPin_5 : decode cX7_bestPin 5 = .ok (.iload_n 2, 1) := by decide +kernel
theorem dX7_bestPin_6 : decode cX7_bestPin 6 = .ok (.ifCond .eq 9, 3) := by decide +kernel
theorem dX7_bestPin_9 : decode cX7_bestPin 9 = .ok (.aload_n 0, 1) := by decide +kernel
theorem dX7_bestPin_10 : decode cX7_bestPin 10 = .ok (.iload_n 2, 1) := by decide +kernel
theorem dX7_bestPin_11 : decode cX7_bestPin 11 = .ok (.invokevirtual 38, 3) := by decide +kernel
theorem dX7_bestPin_14 : decode cX7_bestPin 14 = .ok (.ireturn, 1) := by decide +kernel
theorem dX7_bestPin_15 : decode cX7_bestPin 15 = .ok (.aload_n 0, 1) := by decide +kernel
theorem dX7_bestPin_16 : decode cX7_bestPin 16 = .ok (.getfield 9, 3) := by decide +kernel
theorem dX7_bestPin_19 : decode cX7_bestPin 19 = .ok (.aload_n 0, 1) := by decide +kernel
theorem dX7_bestPin_20 : decode cX7_bestPin 20 = .ok (.getfield 13, 3) := by decide +kernel
theorem dX7_bestPin_23 : decode cX7_bestPin 23 = .ok (.invokestatic 144, 3) := by decide +kernel
theorem dX7_bestPin_26 : decode cX7_bestPin 26 = .ok (.iconst 1, 1) := by decide +kernel
theorem dX7_bestPin_27 : decode cX7_bestPin 27 = .ok (.istore_n 3, 1) := by decide +kernel
theorem dX7_bestPin_28 : decode cX7_bestPin 28 = .ok (.iload_n 3, 1) := by decide +kernel
theorem dX7_bestPin_29 : decode cX7_bestPin 29 = .ok (.bipush 10, 2) := by decide +kernel
theorem dX7_bestPin_31 : decode cX7_bestPin 31 = .ok (.if_icmp .ge 30, 3) := by decide +kernel
theorem dX7_bestPin_34 : decode cX7_bestPin 34 = .ok (.aload_n 0, 1) := by decide +kernel
theorem dX7_bestPin_35 : decode cX7_bestPin 35 = .ok (.getfield 13, 3) := by decide +kernel
theorem dX7_bestPin_38 : decode cX7_bestPin 38 = .ok (.bipush 6, 2) := by decide +kernel
theorem dX7_bestPin_40 : decode cX7_bestPin 40 = .ok (.iload_n 3, 1) := by decide +kernel
theorem dX7_bestPin_41 : decode cX7_bestPin 41 = .ok (.iastore, 1) := by decide +kernel
theorem dX7_bestPin_42 : decode cX7_bestPin 42 = .ok (.aload_n 0, 1) := by decide +kernel
theorem dX7_bestPin_43 : decode cX7_bestPin 43 = .ok (.getfield 13, 3) := by decide +kernel
theorem dX7_bestPin_46 : decode cX7_bestPin 46 = .ok (.invokestatic 158, 3) := by decide +kernel
theorem dX7_bestPin_49 : decode cX7_bestPin 49 = .ok (.iload_n 1, 1) := by decide +kernel
theorem dX7_bestPin_50 : decode cX7_bestPin 50 = .ok (.if_icmp .gt 5, 3) := by decide +kernel
theorem dX7_bestPin_53 : decode cX7_bestPin 53 = .ok (.iload_n 3, 1) := by decide +kernel
theorem dX7_bestPin_54 : decode cX7_bestPin 54 = .ok (.ireturn, 1) := by decide +kernel
theorem dX7_bestPin_55 : decode cX7_bestPin 55 = .ok (.iinc 3 1, 3) := by decide +kernel
theorem dX7_bestPin_58 : decode cX7_bestPin 58 = .ok (.goto (-30), 3) := by decide +kernel
theorem dX7_bestPin_61 : decode cX7_bestPin 61 = .ok (.bipush (-9), 2) := by decide +kernel
theorem dX7_bestPin_63 : decode cX7_bestPin 63 = .ok (.ireturn, 1) := by decide +kernel
theorem dX7_worst_0 : decode cX7_worst 0 = .ok (.iconst 0, 1) := by decide +kernel
theorem dX7_worst_1 : decode cX7_worst 1 = .ok (.istore_n 1, 1) := by decide +kernel
theorem dX7_worst_2 : decode cX7_worst 2 = .ok (.iconst 1, 1) := by decide +kernel
theorem dX7_worst_3 : decode cX7_worst 3 = .ok (.istore_n 2, 1) := by decide +kernel
theorem dX7_worst_4 : decode cX7_worst 4 = .ok (.iload_n 2, 1) := by decide +kernel
theorem dX7_worst_5 : decode cX7_worst 5 = .ok (.aload_n 0, 1) := by decide +kernel
theorem dX7_worst_6 : decode cX7_worst 6 = .ok (.getfield 9, 3) := by decide +kernel
theorem dX7_worst_9 : decode cX7_worst 9 = .ok (.iconst 0, 1) := by decide +kernel
theorem dX7_worst_10 : decode cX7_worst 10 = .ok (.iaload, 1) := by decide +kernel
theorem dX7_worst_11 : decode cX7_worst 11 = .ok (.if_icmp .ge 30, 3) := by decide +kernel
theorem dX7_worst_14 : decode cX7_worst 14 = .ok (.aload_n 0, 1) := by decide +kernel
theorem dX7_worst_15 : decode cX7_worst 15 = .ok (.getfield 9, 3) := by decide +kernel
theorem dX7_worst_18 : decode cX7_worst 18 = .ok (.iload_n 2, 1) := by decide +kernel
theorem dX7_worst_19 : decode cX7_worst 19 = .ok (.invokestatic 84, 3) := by decide +kernel
theorem dX7_worst_22 : decode cX7_worst 22 = .ok (.aload_n 0, 1) := by decide +kernel
theorem dX7_worst_23 : decode cX7_worst 23 = .ok (.getfield 9, 3) := by decide +kernel
theorem dX7_worst_26 : decode cX7_worst 26 = .ok (.iload_n 1, 1) := by decide +kernel
theorem dX7_worst_27 : decode cX7_worst 27 = .ok (.invokestatic 84, 3) := by decide +kernel
theorem dX7_worst_30 : decode cX7_worst 30 = .ok (.if_icmp .le 5, 3) := by decide +kernel
theorem dX7_worst_33 : decode cX7_worst 33 = .ok (.iload_n 2, 1) := by decide +kernel
theorem dX7_worst_34 : decode cX7_worst 34 = .ok (.istore_n 1, 1) := by decide +kernel
theorem dX7_worst_35 : decode cX7_worst 35 = .ok (.iinc 2 1, 3) := by decide +kernel
theorem dX7_worst_38 : decode cX7_worst 38 = .ok (.goto (-34), 3) := by decide +kernel
theorem dX7_worst_41 : decode cX7_worst 41 = .ok (.iload_n 1, 1) := by decide +kernel
theorem dX7_worst_42 : decode cX7_worst 42 = .ok (.ireturn, 1) := by decide +kernel
theorem dX7_row_0 : decode cX7_row 0 = .ok (.iload_n 1, 1) := by decide +kernel
theorem dX7_row_1 : decode cX7_row 1 = .ok (.ifCond .ge 10, 3) := by decide +kernel
theorem dX7_row_4 : decode cX7_row 4 = .ok (.aload_n 0, 1) := by decide +kernel
theorem dX7_row_5 : decode cX7_row 5 = .ok (.bipush (-4), 2) := by decide +kernel
theorem dX7_row_7 : decode cX7_row 7 = .ok (.invokevirtual 38, 3) := by decide +kernel
theorem dX7_row_10 : decode cX7_row 10 = .ok (.ireturn, 1) := by decide +kernel
theorem dX7_row_11 : decode cX7_row 11 = .ok (.iload_n 1, 1) := by decide +kernel
theorem dX7_row_12 : decode cX7_row 12 = .ok (.bipush 99, 2) := by decide +kernel
theorem dX7_row_14 : decode cX7_row 14 = .ok (.if_icmp .gt 12, 3) := by decide +kernel
theorem dX7_row_17 : decode cX7_row 17 = .ok (.aload_n 0, 1) := by decide +kernel
theorem dX7_row_18 : decode cX7_row 18 = .ok (.getfield 182, 3) := by decide +kernel
theorem dX7_row_21 : decode cX7_row 21 = .ok (.bipush 12, 2) := by decide +kernel
theorem dX7_row_23 : decode cX7_row 23 = .ok (.if_icmp .ne 10, 3) := by decide +kernel
theorem dX7_row_26 : decode cX7_row 26 = .ok (.aload_n 0, 1) := by decide +kernel
theorem dX7_row_27 : decode cX7_row 27 = .ok (.bipush (-6), 2) := by decide +kernel
theorem dX7_row_29 : decode cX7_row 29 = .ok (.invokevirtual 38, 3) := by decide +kernel
theorem dX7_row_32 : decode cX7_row 32 = .ok (.ireturn, 1) := by decide +kernel
theorem dX7_row_33 : decode cX7_row 33 = .ok (.aload_n 0, 1) := by decide +kernel
theorem dX7_row_34 : decode cX7_row 34 = .ok (.getfield 25, 3) := by decide +kernel
theorem dX7_row_37 : decode cX7_row 37 = .ok (.aload_n 0, 1) := by decide +kernel
theorem dX7_row_38 : decode cX7_row 38 = .ok (.getfield 182, 3) := by decide +kernel
theorem dX7_row_41 : decode cX7_row 41 = .ok (.iload_n 1, 1) := by decide +kernel
theorem dX7_row_42 : decode cX7_row 42 = .ok (.iastore, 1) := by decide +kernel
theorem dX7_row_43 : decode cX7_row 43 = .ok (.aload_n 0, 1) := by decide +kernel
theorem dX7_row_44 : decode cX7_row 44 = .ok (.dup, 1) := by decide +kernel
theorem dX7_row_45 : decode cX7_row 45 = .ok (.getfield 182, 3) := by decide +kernel
theorem dX7_row_48 : decode cX7_row 48 = .ok (.iconst 1, 1) := by decide +kernel
theorem dX7_row_49 : decode cX7_row 49 = .ok (.iadd, 1) := by decide +kernel
theorem dX7_row_50 : decode cX7_row 50 = .ok (.putfield 182, 3) := by decide +kernel
theorem dX7_row_53 : decode cX7_row 53 = .ok (.aload_n 0, 1) := by decide +kernel
theorem dX7_row_54 : decode cX7_row 54 = .ok (.getfield 182, 3) := by decide +kernel
theorem dX7_row_57 : decode cX7_row 57 = .ok (.ireturn, 1) := by decide +kernel
theorem dX7_firstWrong_0 : decode cX7_firstWrong 0 = .ok (.iconst 0, 1) := by decide +kernel
theorem dX7_firstWrong_1 : decode cX7_firstWrong 1 = .ok (.istore_n 3, 1) := by decide +kernel
theorem dX7_firstWrong_2 : decode cX7_firstWrong 2 = .ok (.iload_n 3, 1) := by decide +kernel
theorem dX7_firstWrong_3 : decode cX7_firstWrong 3 = .ok (.iload_n 2, 1) := by decide +kernel
theorem dX7_firstWrong_4 : decode cX7_firstWrong 4 = .ok (.if_icmp .ge 48, 3) := by decide +kernel
theorem dX7_firstWrong_7 : decode cX7_firstWrong 7 = .ok (.iload_n 3, 1) := by decide +kernel
theorem dX7_firstWrong_8 : decode cX7_firstWrong 8 = .ok (.ifCond .le 13, 3) := by decide +kernel
theorem dX7_firstWrong_11 : decode cX7_firstWrong 11 = .ok (.aload_n 0, 1) := by decide +kernel
theorem dX7_firstWrong_12 : decode cX7_firstWrong 12 = .ok (.getfield 13, 3) := by decide +kernel
theorem dX7_firstWrong_15 : decode cX7_firstWrong 15 = .ok (.invokestatic 77, 3) := by decide +kernel
theorem dX7_firstWrong_18 : decode cX7_firstWrong 18 = .ok (.goto 4, 3) := by decide +kernel
theorem dX7_firstWrong_21 : decode cX7_firstWrong 21 = .ok (.iconst 0, 1) := by decide +kernel
theorem dX7_firstWrong_22 : decode cX7_firstWrong 22 = .ok (.istore 4, 2) := by decide +kernel
theorem dX7_firstWrong_24 : decode cX7_firstWrong 24 = .ok (.aload_n 0, 1) := by decide +kernel
theorem dX7_firstWrong_25 : decode cX7_firstWrong 25 = .ok (.getfield 13, 3) := by decide +kernel
theorem dX7_firstWrong_28 : decode cX7_firstWrong 28 = .ok (.iconst 1, 1) := by decide +kernel
theorem dX7_firstWrong_29 : decode cX7_firstWrong 29 = .ok (.iload_n 1, 1) := by decide +kernel
theorem dX7_firstWrong_30 : decode cX7_firstWrong 30 = .ok (.iadd, 1) := by decide +kernel
theorem dX7_firstWrong_31 : decode cX7_firstWrong 31 = .ok (.iaload, 1) := by decide +kernel
theorem dX7_firstWrong_32 : decode cX7_firstWrong 32 = .ok (.bipush 50, 2) := by decide +kernel
theorem dX7_firstWrong_34 : decode cX7_firstWrong 34 = .ok (.iadd, 1) := by decide +kernel
theorem dX7_firstWrong_35 : decode cX7_firstWrong 35 = .ok (.aload_n 0, 1) := by decide +kernel
theorem dX7_firstWrong_36 : decode cX7_firstWrong 36 = .ok (.getfield 25, 3) := by decide +kernel
theorem dX7_firstWrong_39 : decode cX7_firstWrong 39 = .ok (.iload_n 3, 1) := by decide +kernel
theorem dX7_firstWrong_40 : decode cX7_firstWrong 40 = .ok (.iaload, 1) := by decide +kernel
theorem dX7_firstWrong_41 : decode cX7_firstWrong 41 = .ok (.if_icmp .eq 5, 3) := by decide +kernel
theorem dX7_firstWrong_44 : decode cX7_firstWrong 44 = .ok (.iload_n 3, 1) := by decide +kernel
theorem dX7_firstWrong_45 : decode cX7_firstWrong 45 = .ok (.ireturn, 1) := by decide +kernel
theorem dX7_firstWrong_46 : decode cX7_firstWrong 46 = .ok (.iinc 3 1, 3) := by decide +kernel
theorem dX7_firstWrong_49 : decode cX7_firstWrong 49 = .ok (.goto (-47), 3) := by decide +kernel
theorem dX7_firstWrong_52 : decode cX7_firstWrong 52 = .ok (.bipush (-9), 2) := by decide +kernel
theorem dX7_firstWrong_54 : decode cX7_firstWrong 54 = .ok (.ireturn, 1) := by decide +kernel
theorem dX7_which_0 : decode cX7_which 0 = .ok (.aload_n 0, 1) := by decide +kernel
theorem dX7_which_1 : decode cX7_which 1 = .ok (.iload_n 1, 1) := by decide +kernel
theorem dX7_which_2 : decode cX7_which 2 = .ok (.invokevirtual 132, 3) := by decide +kernel
theorem dX7_which_5 : decode cX7_which 5 = .ok (.ifCond .ne 9, 3) := by decide +kernel
theorem dX7_which_8 : decode cX7_which 8 = .ok (.aload_n 0, 1) := by decide +kernel
theorem dX7_which_9 : decode cX7_which 9 = .ok (.iconst (-1), 1) := by decide +kernel
theorem dX7_which_10 : decode cX7_which 10 = .ok (.invokevirtual 38, 3) := by decide +kernel
theorem dX7_which_13 : decode cX7_which 13 = .ok (.ireturn, 1) := by decide +kernel
theorem dX7_which_14 : decode cX7_which 14 = .ok (.iload_n 2, 1) := by decide +kernel
theorem dX7_which_15 : decode cX7_which 15 = .ok (.iconst 0, 1) := by decide +kernel
theorem dX7_which_16 : decode cX7_which 16 = .ok (.iconst 1, 1) := by decide +kernel
theorem dX7_which_17 : decode cX7_which 17 = .ok (.invokestatic 42, 3) := by decide +kernel
theorem dX7_which_20 : decode cX7_which 20 = .ok (.ifCond .ne 10, 3) := by decide +kernel
theorem dX7_which_23 : decode cX7_which 23 = .ok (.aload_n 0, 1) := by decide +kernel
theorem dX7_which_24 : decode cX7_which 24 = .ok (.bipush (-2), 2) := by decide +kernel
theorem dX7_which_26 : decode cX7_which 26 = .ok (.invokevirtual 38, 3) := by decide +kernel
theorem dX7_which_29 : decode cX7_which 29 = .ok (.ireturn, 1) := by decide +kernel
theorem dX7_which_30 : decode cX7_which 30 = .ok (.iconst 0, 1) := by decide +kernel
theorem dX7_which_31 : decode cX7_which 31 = .ok (.istore_n 3, 1) := by decide +kernel
theorem dX7_which_32 : decode cX7_which 32 = .ok (.iconst 0, 1) := by decide +kernel
theorem dX7_which_33 : decode cX7_which 33 = .ok (.istore 4, 2) := by decide +kernel
theorem dX7_which_35 : decode cX7_which 35 = .ok (.iload 4, 2) := by decide +kernel
theorem dX7_which_37 : decode cX7_which 37 = .ok (.iload_n 2, 1) := by decide +kernel
theorem dX7_which_38 : decode cX7_which 38 = .ok (.ifCond .ne 8, 3) := by decide +kernel
theorem dX7_which_41 : decode cX7_which 41 = .ok (.bipush 6, 2) := by decide +kernel
theorem dX7_which_43 : decode cX7_which 43 = .ok (.goto 5, 3) := by decide +kernel
theorem dX7_which_46 : decode cX7_which 46 = .ok (.bipush 10, 2) := by decide +kernel
theorem dX7_which_48 : decode cX7_which 48 = .ok (.if_icmp .ge 72, 3) := by decide +kernel
theorem dX7_which_51 : decode cX7_which 51 = .ok (.aload_n 0, 1) := by decide +kernel
theorem dX7_which_52 : decode cX7_which 52 = .ok (.getfield 9, 3) := by decide +kernel
theorem dX7_which_55 : decode cX7_which 55 = .ok (.aload_n 0, 1) := by decide +kernel
theorem dX7_which_56 : decode cX7_which 56 = .ok (.getfield 13, 3) := by decide +kernel
theorem dX7_which_59 : decode cX7_which 59 = .ok (.invokestatic 144, 3) := by decide +kernel
theorem dX7_which_62 : decode cX7_which 62 = .ok (.iload_n 2, 1) := by decide +kernel
theorem dX7_which_63 : decode cX7_which 63 = .ok (.ifCond .ne 19, 3) := by decide +kernel
theorem dX7_which_66 : decode cX7_which 66 = .ok (.aload_n 0, 1) := by decide +kernel
theorem dX7_which_67 : decode cX7_which 67 = .ok (.getfield 13, 3) := by decide +kernel
theorem dX7_which_70 : decode cX7_which 70 = .ok (.bipush 8, 2) := by decide +kernel
theorem dX7_which_72 : decode cX7_which 72 = .ok (.iconst 2, 1) := by decide +kernel
theorem dX7_which_73 : decode cX7_which 73 = .ok (.iload_n 1, 1) := by decide +kernel
theorem dX7_which_74 : decode cX7_which 74 = .ok (.imul, 1) := by decide +kernel
theorem dX7_which_75 : decode cX7_which 75 = .ok (.iadd, 1) := by decide +kernel
theorem dX7_which_76 : decode cX7_which 76 = .ok (.iload 4, 2) := by decide +kernel
theorem dX7_which_78 : decode cX7_which 78 = .ok (.iastore, 1) := by decide +kernel
theorem dX7_which_79 : decode cX7_which 79 = .ok (.goto 12, 3) := by decide +kernel
theorem dX7_which_82 : decode cX7_which 82 = .ok (.aload_n 0, 1) := by decide +kernel
theorem dX7_which_83 : decode cX7_which 83 = .ok (.getfield 13, 3) := by decide +kernel
theorem dX7_which_86 : decode cX7_which 86 = .ok (.bipush 7, 2) := by decide +kernel
theorem dX7_which_88 : decode cX7_which 88 = .ok (.iload 4, 2) := by decide +kernel
theorem dX7_which_90 : decode cX7_which 90 = .ok (.iastore, 1) := by decide +kernel
theorem dX7_which_91 : decode cX7_which 91 = .ok (.iload_n 3, 1) := by decide +kernel
theorem dX7_which_92 : decode cX7_which 92 = .ok (.aload_n 0, 1) := by decide +kernel
theorem dX7_which_93 : decode cX7_which 93 = .ok (.iconst 0, 1) := by decide +kernel
theorem dX7_which_94 : decode cX7_which 94 = .ok (.aload_n 0, 1) := by decide +kernel
theorem dX7_which_95 : decode cX7_which 95 = .ok (.getfield 182, 3) := by decide +kernel
theorem dX7_which_98 : decode cX7_which 98 = .ok (.invokevirtual 185, 3) := by decide +kernel
theorem dX7_which_101 : decode cX7_which 101 = .ok (.ifCond .ge 10, 3) := by decide +kernel
theorem dX7_which_104 : decode cX7_which 104 = .ok (.iconst 1, 1) := by decide +kernel
theorem dX7_which_105 : decode cX7_which 105 = .ok (.iload 4, 2) := by decide +kernel
theorem dX7_which_107 : decode cX7_which 107 = .ok (.ishl, 1) := by decide +kernel
theorem dX7_which_108 : decode cX7_which 108 = .ok (.goto 4, 3) := by decide +kernel
theorem dX7_which_111 : decode cX7_which 111 = .ok (.iconst 0, 1) := by decide +kernel
theorem dX7_which_112 : decode cX7_which 112 = .ok (.ior, 1) := by decide +kernel
theorem dX7_which_113 : decode cX7_which 113 = .ok (.istore_n 3, 1) := by decide +kernel
theorem dX7_which_114 : decode cX7_which 114 = .ok (.iinc 4 1, 3) := by decide +kernel
theorem dX7_which_117 : decode cX7_which 117 = .ok (.goto (-82), 3) := by decide +kernel
theorem dX7_which_120 : decode cX7_which 120 = .ok (.iload_n 3, 1) := by decide +kernel
theorem dX7_which_121 : decode cX7_which 121 = .ok (.ireturn, 1) := by decide +kernel
theorem dX7_judge_0 : decode cX7_judge 0 = .ok (.iload_n 1, 1) := by decide +kernel
theorem dX7_judge_1 : decode cX7_judge 1 = .ok (.invokestatic 135, 3) := by decide +kernel
theorem dX7_judge_4 : decode cX7_judge 4 = .ok (.ifCond .ne 9, 3) := by decide +kernel
theorem dX7_judge_7 : decode cX7_judge 7 = .ok (.aload_n 0, 1) := by decide +kernel
theorem dX7_judge_8 : decode cX7_judge 8 = .ok (.iconst (-1), 1) := by decide +kernel
theorem dX7_judge_9 : decode cX7_judge 9 = .ok (.invokevirtual 38, 3) := by decide +kernel
theorem dX7_judge_12 : decode cX7_judge 12 = .ok (.ireturn, 1) := by decide +kernel
theorem dX7_judge_13 : decode cX7_judge 13 = .ok (.aload_n 0, 1) := by decide +kernel
theorem dX7_judge_14 : decode cX7_judge 14 = .ok (.getfield 182, 3) := by decide +kernel
theorem dX7_judge_17 : decode cX7_judge 17 = .ok (.istore_n 2, 1) := by decide +kernel
theorem dX7_judge_18 : decode cX7_judge 18 = .ok (.aload_n 0, 1) := by decide +kernel
theorem dX7_judge_19 : decode cX7_judge 19 = .ok (.iconst 0, 1) := by decide +kernel
theorem dX7_judge_20 : decode cX7_judge 20 = .ok (.putfield 182, 3) := by decide +kernel
theorem dX7_judge_23 : decode cX7_judge 23 = .ok (.aload_n 0, 1) := by decide +kernel
theorem dX7_judge_24 : decode cX7_judge 24 = .ok (.getfield 9, 3) := by decide +kernel
theorem dX7_judge_27 : decode cX7_judge 27 = .ok (.aload_n 0, 1) := by decide +kernel
theorem dX7_judge_28 : decode cX7_judge 28 = .ok (.getfield 13, 3) := by decide +kernel
theorem dX7_judge_31 : decode cX7_judge 31 = .ok (.invokestatic 144, 3) := by decide +kernel
theorem dX7_judge_34 : decode cX7_judge 34 = .ok (.aload_n 0, 1) := by decide +kernel
theorem dX7_judge_35 : decode cX7_judge 35 = .ok (.iload_n 1, 1) := by decide +kernel
theorem dX7_judge_36 : decode cX7_judge 36 = .ok (.iload_n 2, 1) := by decide +kernel
theorem dX7_judge_37 : decode cX7_judge 37 = .ok (.invokevirtual 185, 3) := by decide +kernel
theorem dX7_judge_40 : decode cX7_judge 40 = .ok (.ireturn, 1) := by decide +kernel
theorem dX7_drawn_0 : decode cX7_drawn 0 = .ok (.aload_n 0, 1) := by decide +kernel
theorem dX7_drawn_1 : decode cX7_drawn 1 = .ok (.aload_n 0, 1) := by decide +kernel
theorem dX7_drawn_2 : decode cX7_drawn 2 = .ok (.getfield 188, 3) := by decide +kernel
theorem dX7_drawn_5 : decode cX7_drawn 5 = .ok (.ldc 191, 2) := by decide +kernel
theorem dX7_drawn_7 : decode cX7_drawn 7 = .ok (.imul, 1) := by decide +kernel
theorem dX7_drawn_8 : decode cX7_drawn 8 = .ok (.ldc 192, 2) := by decide +kernel
theorem dX7_drawn_10 : decode cX7_drawn 10 = .ok (.iadd, 1) := by decide +kernel
theorem dX7_drawn_11 : decode cX7_drawn 11 = .ok (.putfield 188, 3) := by decide +kernel
theorem dX7_drawn_14 : decode cX7_drawn 14 = .ok (.aload_n 0, 1) := by decide +kernel
theorem dX7_drawn_15 : decode cX7_drawn 15 = .ok (.getfield 188, 3) := by decide +kernel
theorem dX7_drawn_18 : decode cX7_drawn 18 = .ok (.ldc 193, 2) := by decide +kernel
theorem dX7_drawn_20 : decode cX7_drawn 20 = .ok (.iand, 1) := by decide +kernel
theorem dX7_drawn_21 : decode cX7_drawn 21 = .ok (.sipush 256, 3) := by decide +kernel
theorem dX7_drawn_24 : decode cX7_drawn 24 = .ok (.idiv, 1) := by decide +kernel
theorem dX7_drawn_25 : decode cX7_drawn 25 = .ok (.iload_n 1, 1) := by decide +kernel
theorem dX7_drawn_26 : decode cX7_drawn 26 = .ok (.irem, 1) := by decide +kernel
theorem dX7_drawn_27 : decode cX7_drawn 27 = .ok (.ireturn, 1) := by decide +kernel
theorem dX7_lots_0 : decode cX7_lots 0 = .ok (.iload_n 1, 1) := by decide +kernel
theorem dX7_lots_1 : decode cX7_lots 1 = .ok (.iconst 1, 1) := by decide +kernel
theorem dX7_lots_2 : decode cX7_lots 2 = .ok (.if_icmp .ge 10, 3) := by decide +kernel
theorem dX7_lots_5 : decode cX7_lots 5 = .ok (.aload_n 0, 1) := by decide +kernel
theorem dX7_lots_6 : decode cX7_lots 6 = .ok (.bipush (-4), 2) := by decide +kernel
theorem dX7_lots_8 : decode cX7_lots 8 = .ok (.invokevirtual 38, 3) := by decide +kernel
theorem dX7_lots_11 : decode cX7_lots 11 = .ok (.ireturn, 1) := by decide +kernel
theorem dX7_lots_12 : decode cX7_lots 12 = .ok (.iload_n 1, 1) := by decide +kernel
theorem dX7_lots_13 : decode cX7_lots 13 = .ok (.bipush 20, 2) := by decide +kernel
theorem dX7_lots_15 : decode cX7_lots 15 = .ok (.if_icmp .le 10, 3) := by decide +kernel
theorem dX7_lots_18 : decode cX7_lots 18 = .ok (.aload_n 0, 1) := by decide +kernel
theorem dX7_lots_19 : decode cX7_lots 19 = .ok (.bipush (-6), 2) := by decide +kernel
theorem dX7_lots_21 : decode cX7_lots 21 = .ok (.invokevirtual 38, 3) := by decide +kernel
theorem dX7_lots_24 : decode cX7_lots 24 = .ok (.ireturn, 1) := by decide +kernel
theorem dX7_lots_25 : decode cX7_lots 25 = .ok (.iload_n 3, 1) := by decide +kernel
theorem dX7_lots_26 : decode cX7_lots 26 = .ok (.iconst 0, 1) := by decide +kernel
theorem dX7_lots_27 : decode cX7_lots 27 = .ok (.iconst 1, 1) := by decide +kernel
theorem dX7_lots_28 : decode cX7_lots 28 = .ok (.invokestatic 42, 3) := by decide +kernel
theorem dX7_lots_31 : decode cX7_lots 31 = .ok (.ifCond .ne 10, 3) := by decide +kernel
theorem dX7_lots_34 : decode cX7_lots 34 = .ok (.aload_n 0, 1) := by decide +kernel
theorem dX7_lots_35 : decode cX7_lots 35 = .ok (.bipush (-2), 2) := by decide +kernel
theorem dX7_lots_37 : decode cX7_lots 37 = .ok (.invokevirtual 38, 3) := by decide +kernel
theorem dX7_lots_40 : decode cX7_lots 40 = .ok (.ireturn, 1) := by decide +kernel
theorem dX7_lots_41 : decode cX7_lots 41 = .ok (.aload_n 0, 1) := by decide +kernel
theorem dX7_lots_42 : decode cX7_lots 42 = .ok (.iload_n 2, 1) := by decide +kernel
theorem dX7_lots_43 : decode cX7_lots 43 = .ok (.putfield 188, 3) := by decide +kernel
theorem dX7_lots_46 : decode cX7_lots 46 = .ok (.iconst 0, 1) := by decide +kernel
theorem dX7_lots_47 : decode cX7_lots 47 = .ok (.istore 4, 2) := by decide +kernel
theorem dX7_lots_49 : decode cX7_lots 49 = .ok (.iconst 0, 1) := by decide +kernel
theorem dX7_lots_50 : decode cX7_lots 50 = .ok (.istore 5, 2) := by decide +kernel
theorem dX7_lots_52 : decode cX7_lots 52 = .ok (.iload 5, 2) := by decide +kernel
theorem dX7_lots_54 : decode cX7_lots 54 = .ok (.iload_n 1, 1) := by decide +kernel
theorem dX7_lots_55 : decode cX7_lots 55 = .ok (.if_icmp .ge 119, 3) := by decide +kernel
theorem dX7_lots_58 : decode cX7_lots 58 = .ok (.aload_n 0, 1) := by decide +kernel
theorem dX7_lots_59 : decode cX7_lots 59 = .ok (.getfield 9, 3) := by decide +kernel
theorem dX7_lots_62 : decode cX7_lots 62 = .ok (.aload_n 0, 1) := by decide +kernel
theorem dX7_lots_63 : decode cX7_lots 63 = .ok (.getfield 13, 3) := by decide +kernel
theorem dX7_lots_66 : decode cX7_lots 66 = .ok (.invokestatic 144, 3) := by decide +kernel
theorem dX7_lots_69 : decode cX7_lots 69 = .ok (.aload_n 0, 1) := by decide +kernel
theorem dX7_lots_70 : decode cX7_lots 70 = .ok (.getfield 13, 3) := by decide +kernel
theorem dX7_lots_73 : decode cX7_lots 73 = .ok (.bipush 7, 2) := by decide +kernel
theorem dX7_lots_75 : decode cX7_lots 75 = .ok (.aload_n 0, 1) := by decide +kernel
theorem dX7_lots_76 : decode cX7_lots 76 = .ok (.bipush 10, 2) := by decide +kernel
theorem dX7_lots_78 : decode cX7_lots 78 = .ok (.invokevirtual 194, 3) := by decide +kernel
theorem dX7_lots_81 : decode cX7_lots 81 = .ok (.iastore, 1) := by decide +kernel
theorem dX7_lots_82 : decode cX7_lots 82 = .ok (.aload_n 0, 1) := by decide +kernel
theorem dX7_lots_83 : decode cX7_lots 83 = .ok (.getfield 13, 3) := by decide +kernel
theorem dX7_lots_86 : decode cX7_lots 86 = .ok (.bipush 10, 2) := by decide +kernel
theorem dX7_lots_88 : decode cX7_lots 88 = .ok (.invokestatic 138, 3) := by decide +kernel
theorem dX7_lots_91 : decode cX7_lots 91 = .ok (.iload_n 3, 1) := by decide +kernel
theorem dX7_lots_92 : decode cX7_lots 92 = .ok (.ifCond .ne 23, 3) := by decide +kernel
theorem dX7_lots_95 : decode cX7_lots 95 = .ok (.iload 4, 2) := by decide +kernel
theorem dX7_lots_97 : decode cX7_lots 97 = .ok (.aload_n 0, 1) := by decide +kernel
theorem dX7_lots_98 : decode cX7_lots 98 = .ok (.getfield 13, 3) := by decide +kernel
end
section
theorem dX7_lots_101 : decode cX7_lots 101 = .ok (.invokestatic 161, 3) := by decide +kernel
theorem dX7_lots_104 : decode cX7_lots 104 = .ok (.ifCond .le 7, 3) := by decide +kernel
theorem dX7_lots_107 : decode cX7_lots 107 = .ok (.iconst 1, 1) := by decide +kernel
theorem dX7_lots_108 : decode cX7_lots 108 = .ok (.goto 4, 3) := by decide +kernel
theorem dX7_lots_111 : decode cX7_lots 111 = .ok (.iconst 0, 1) := by decide +kernel
theorem dX7_lots_112 : decode cX7_lots 112 = .ok (.iadd, 1) := by decide +kernel
theorem dX7_lots_113 : decode cX7_lots 113 = .ok (.istore 4, 2) := by decide +kernel
theorem dX7_lots_115 : decode cX7_lots 115 = .ok (.iconst 0, 1) := by decide +kernel
theorem dX7_lots_116 : decode cX7_lots 116 = .ok (.istore 6, 2) := by decide +kernel
theorem dX7_lots_118 : decode cX7_lots 118 = .ok (.iload 6, 2) := by decide +kernel
theorem dX7_lots_120 : decode cX7_lots 120 = .ok (.iconst 2, 1) := by decide +kernel
theorem dX7_lots_121 : decode cX7_lots 121 = .ok (.if_icmp .ge 47, 3) := by decide +kernel
theorem dX7_lots_124 : decode cX7_lots 124 = .ok (.iload_n 3, 1) := by decide +kernel
theorem dX7_lots_125 : decode cX7_lots 125 = .ok (.iconst 1, 1) := by decide +kernel
theorem dX7_lots_126 : decode cX7_lots 126 = .ok (.if_icmp .ne 42, 3) := by decide +kernel
theorem dX7_lots_129 : decode cX7_lots 129 = .ok (.iload 4, 2) := by decide +kernel
theorem dX7_lots_131 : decode cX7_lots 131 = .ok (.aload_n 0, 1) := by decide +kernel
theorem dX7_lots_132 : decode cX7_lots 132 = .ok (.aload_n 0, 1) := by decide +kernel
theorem dX7_lots_133 : decode cX7_lots 133 = .ok (.getfield 13, 3) := by decide +kernel
theorem dX7_lots_136 : decode cX7_lots 136 = .ok (.iload 6, 2) := by decide +kernel
theorem dX7_lots_138 : decode cX7_lots 138 = .ok (.invokevirtual 105, 3) := by decide +kernel
theorem dX7_lots_141 : decode cX7_lots 141 = .ok (.ifCond .ge 8, 3) := by decide +kernel
theorem dX7_lots_144 : decode cX7_lots 144 = .ok (.bipush 100, 2) := by decide +kernel
theorem dX7_lots_146 : decode cX7_lots 146 = .ok (.goto 13, 3) := by decide +kernel
theorem dX7_lots_149 : decode cX7_lots 149 = .ok (.aload_n 0, 1) := by decide +kernel
theorem dX7_lots_150 : decode cX7_lots 150 = .ok (.aload_n 0, 1) := by decide +kernel
theorem dX7_lots_151 : decode cX7_lots 151 = .ok (.getfield 13, 3) := by decide +kernel
theorem dX7_lots_154 : decode cX7_lots 154 = .ok (.iload 6, 2) := by decide +kernel
theorem dX7_lots_156 : decode cX7_lots 156 = .ok (.invokevirtual 105, 3) := by decide +kernel
theorem dX7_lots_159 : decode cX7_lots 159 = .ok (.iadd, 1) := by decide +kernel
theorem dX7_lots_160 : decode cX7_lots 160 = .ok (.istore 4, 2) := by decide +kernel
theorem dX7_lots_162 : decode cX7_lots 162 = .ok (.iinc 6 1, 3) := by decide +kernel
theorem dX7_lots_165 : decode cX7_lots 165 = .ok (.goto (-47), 3) := by decide +kernel
theorem dX7_lots_168 : decode cX7_lots 168 = .ok (.iinc 5 1, 3) := by decide +kernel
theorem dX7_lots_171 : decode cX7_lots 171 = .ok (.goto (-119), 3) := by decide +kernel
theorem dX7_lots_174 : decode cX7_lots 174 = .ok (.iload 4, 2) := by decide +kernel
theorem dX7_lots_176 : decode cX7_lots 176 = .ok (.ireturn, 1) := by decide +kernel
theorem dX7_image_0 : decode cX7_image 0 = .ok (.aload_n 0, 1) := by decide +kernel
theorem dX7_image_1 : decode cX7_image 1 = .ok (.getfield 9, 3) := by decide +kernel
theorem dX7_image_4 : decode cX7_image 4 = .ok (.aload_n 0, 1) := by decide +kernel
theorem dX7_image_5 : decode cX7_image 5 = .ok (.getfield 16, 3) := by decide +kernel
theorem dX7_image_8 : decode cX7_image 8 = .ok (.invokestatic 144, 3) := by decide +kernel
theorem dX7_image_11 : decode cX7_image 11 = .ok (.aload_n 0, 1) := by decide +kernel
theorem dX7_image_12 : decode cX7_image 12 = .ok (.iconst 1, 1) := by decide +kernel
theorem dX7_image_13 : decode cX7_image 13 = .ok (.putfield 197, 3) := by decide +kernel
theorem dX7_image_16 : decode cX7_image 16 = .ok (.aload_n 0, 1) := by decide +kernel
theorem dX7_image_17 : decode cX7_image 17 = .ok (.getfield 9, 3) := by decide +kernel
theorem dX7_image_20 : decode cX7_image 20 = .ok (.iconst 0, 1) := by decide +kernel
theorem dX7_image_21 : decode cX7_image 21 = .ok (.iaload, 1) := by decide +kernel
theorem dX7_image_22 : decode cX7_image 22 = .ok (.ireturn, 1) := by decide +kernel
theorem dX7_on_0 : decode cX7_on 0 = .ok (.aload_n 0, 1) := by decide +kernel
theorem dX7_on_1 : decode cX7_on 1 = .ok (.getfield 197, 3) := by decide +kernel
theorem dX7_on_4 : decode cX7_on 4 = .ok (.ifCond .ne 10, 3) := by decide +kernel
theorem dX7_on_7 : decode cX7_on 7 = .ok (.aload_n 0, 1) := by decide +kernel
theorem dX7_on_8 : decode cX7_on 8 = .ok (.bipush (-3), 2) := by decide +kernel
theorem dX7_on_10 : decode cX7_on 10 = .ok (.invokevirtual 38, 3) := by decide +kernel
theorem dX7_on_13 : decode cX7_on 13 = .ok (.ireturn, 1) := by decide +kernel
theorem dX7_on_14 : decode cX7_on 14 = .ok (.aload_n 0, 1) := by decide +kernel
theorem dX7_on_15 : decode cX7_on 15 = .ok (.getfield 16, 3) := by decide +kernel
theorem dX7_on_18 : decode cX7_on 18 = .ok (.aload_n 0, 1) := by decide +kernel
theorem dX7_on_19 : decode cX7_on 19 = .ok (.getfield 9, 3) := by decide +kernel
theorem dX7_on_22 : decode cX7_on 22 = .ok (.invokestatic 144, 3) := by decide +kernel
theorem dX7_on_25 : decode cX7_on 25 = .ok (.aload_n 0, 1) := by decide +kernel
theorem dX7_on_26 : decode cX7_on 26 = .ok (.getfield 9, 3) := by decide +kernel
theorem dX7_on_29 : decode cX7_on 29 = .ok (.iconst 0, 1) := by decide +kernel
theorem dX7_on_30 : decode cX7_on 30 = .ok (.iaload, 1) := by decide +kernel
theorem dX7_on_31 : decode cX7_on 31 = .ok (.ireturn, 1) := by decide +kernel
theorem dX7_count_0 : decode cX7_count 0 = .ok (.iload_n 1, 1) := by decide +kernel
theorem dX7_count_1 : decode cX7_count 1 = .ok (.bipush 11, 2) := by decide +kernel
theorem dX7_count_3 : decode cX7_count 3 = .ok (.bipush 16, 2) := by decide +kernel
theorem dX7_count_5 : decode cX7_count 5 = .ok (.invokestatic 42, 3) := by decide +kernel
theorem dX7_count_8 : decode cX7_count 8 = .ok (.ifCond .eq 13, 3) := by decide +kernel
theorem dX7_count_11 : decode cX7_count 11 = .ok (.aload_n 0, 1) := by decide +kernel
theorem dX7_count_12 : decode cX7_count 12 = .ok (.getfield 28, 3) := by decide +kernel
theorem dX7_count_15 : decode cX7_count 15 = .ok (.iload_n 1, 1) := by decide +kernel
theorem dX7_count_16 : decode cX7_count 16 = .ok (.bipush 10, 2) := by decide +kernel
theorem dX7_count_18 : decode cX7_count 18 = .ok (.isub, 1) := by decide +kernel
theorem dX7_count_19 : decode cX7_count 19 = .ok (.iaload, 1) := by decide +kernel
theorem dX7_count_20 : decode cX7_count 20 = .ok (.ireturn, 1) := by decide +kernel
theorem dX7_count_21 : decode cX7_count 21 = .ok (.iconst 0, 1) := by decide +kernel
theorem dX7_count_22 : decode cX7_count 22 = .ok (.istore_n 2, 1) := by decide +kernel
theorem dX7_count_23 : decode cX7_count 23 = .ok (.iload_n 1, 1) := by decide +kernel
theorem dX7_count_24 : decode cX7_count 24 = .ok (.tableswitch 156 0 8 #[52, 59, 67, 81, 88, 96, 104, 146, 151], 52) := by decide +kernel
theorem dX7_count_76 : decode cX7_count 76 = .ok (.aload_n 0, 1) := by decide +kernel
theorem dX7_count_77 : decode cX7_count 77 = .ok (.getfield 9, 3) := by decide +kernel
theorem dX7_count_80 : decode cX7_count 80 = .ok (.iconst 0, 1) := by decide +kernel
theorem dX7_count_81 : decode cX7_count 81 = .ok (.iaload, 1) := by decide +kernel
theorem dX7_count_82 : decode cX7_count 82 = .ok (.ireturn, 1) := by decide +kernel
theorem dX7_count_83 : decode cX7_count 83 = .ok (.aload_n 0, 1) := by decide +kernel
theorem dX7_count_84 : decode cX7_count 84 = .ok (.getfield 9, 3) := by decide +kernel
theorem dX7_count_87 : decode cX7_count 87 = .ok (.invokestatic 161, 3) := by decide +kernel
theorem dX7_count_90 : decode cX7_count 90 = .ok (.ireturn, 1) := by decide +kernel
theorem dX7_count_91 : decode cX7_count 91 = .ok (.aload_n 0, 1) := by decide +kernel
theorem dX7_count_92 : decode cX7_count 92 = .ok (.getfield 9, 3) := by decide +kernel
theorem dX7_count_95 : decode cX7_count 95 = .ok (.iconst 3, 1) := by decide +kernel
theorem dX7_count_96 : decode cX7_count 96 = .ok (.iaload, 1) := by decide +kernel
theorem dX7_count_97 : decode cX7_count 97 = .ok (.aload_n 0, 1) := by decide +kernel
theorem dX7_count_98 : decode cX7_count 98 = .ok (.getfield 9, 3) := by decide +kernel
theorem dX7_count_101 : decode cX7_count 101 = .ok (.iconst 4, 1) := by decide +kernel
theorem dX7_count_102 : decode cX7_count 102 = .ok (.iaload, 1) := by decide +kernel
theorem dX7_count_103 : decode cX7_count 103 = .ok (.iadd, 1) := by decide +kernel
theorem dX7_count_104 : decode cX7_count 104 = .ok (.ireturn, 1) := by decide +kernel
theorem dX7_count_105 : decode cX7_count 105 = .ok (.aload_n 0, 1) := by decide +kernel
theorem dX7_count_106 : decode cX7_count 106 = .ok (.getfield 9, 3) := by decide +kernel
theorem dX7_count_109 : decode cX7_count 109 = .ok (.iconst 5, 1) := by decide +kernel
theorem dX7_count_110 : decode cX7_count 110 = .ok (.iaload, 1) := by decide +kernel
theorem dX7_count_111 : decode cX7_count 111 = .ok (.ireturn, 1) := by decide +kernel
theorem dX7_count_112 : decode cX7_count 112 = .ok (.aload_n 0, 1) := by decide +kernel
theorem dX7_count_113 : decode cX7_count 113 = .ok (.getfield 9, 3) := by decide +kernel
theorem dX7_count_116 : decode cX7_count 116 = .ok (.bipush 6, 2) := by decide +kernel
theorem dX7_count_118 : decode cX7_count 118 = .ok (.iaload, 1) := by decide +kernel
theorem dX7_count_119 : decode cX7_count 119 = .ok (.ireturn, 1) := by decide +kernel
theorem dX7_count_120 : decode cX7_count 120 = .ok (.aload_n 0, 1) := by decide +kernel
theorem dX7_count_121 : decode cX7_count 121 = .ok (.getfield 9, 3) := by decide +kernel
theorem dX7_count_124 : decode cX7_count 124 = .ok (.bipush 7, 2) := by decide +kernel
theorem dX7_count_126 : decode cX7_count 126 = .ok (.iaload, 1) := by decide +kernel
theorem dX7_count_127 : decode cX7_count 127 = .ok (.ireturn, 1) := by decide +kernel
theorem dX7_count_128 : decode cX7_count 128 = .ok (.iconst 0, 1) := by decide +kernel
theorem dX7_count_129 : decode cX7_count 129 = .ok (.istore_n 3, 1) := by decide +kernel
theorem dX7_count_130 : decode cX7_count 130 = .ok (.iload_n 3, 1) := by decide +kernel
theorem dX7_count_131 : decode cX7_count 131 = .ok (.aload_n 0, 1) := by decide +kernel
theorem dX7_count_132 : decode cX7_count 132 = .ok (.getfield 9, 3) := by decide +kernel
theorem dX7_count_135 : decode cX7_count 135 = .ok (.iconst 0, 1) := by decide +kernel
theorem dX7_count_136 : decode cX7_count 136 = .ok (.iaload, 1) := by decide +kernel
theorem dX7_count_137 : decode cX7_count 137 = .ok (.if_icmp .ge 31, 3) := by decide +kernel
theorem dX7_count_140 : decode cX7_count 140 = .ok (.iload_n 2, 1) := by decide +kernel
theorem dX7_count_141 : decode cX7_count 141 = .ok (.aload_n 0, 1) := by decide +kernel
theorem dX7_count_142 : decode cX7_count 142 = .ok (.getfield 9, 3) := by decide +kernel
theorem dX7_count_145 : decode cX7_count 145 = .ok (.iload_n 3, 1) := by decide +kernel
theorem dX7_count_146 : decode cX7_count 146 = .ok (.invokestatic 46, 3) := by decide +kernel
theorem dX7_count_149 : decode cX7_count 149 = .ok (.invokestatic 50, 3) := by decide +kernel
theorem dX7_count_152 : decode cX7_count 152 = .ok (.ifCond .eq 7, 3) := by decide +kernel
theorem dX7_count_155 : decode cX7_count 155 = .ok (.iconst 1, 1) := by decide +kernel
theorem dX7_count_156 : decode cX7_count 156 = .ok (.goto 4, 3) := by decide +kernel
theorem dX7_count_159 : decode cX7_count 159 = .ok (.iconst 0, 1) := by decide +kernel
theorem dX7_count_160 : decode cX7_count 160 = .ok (.iadd, 1) := by decide +kernel
theorem dX7_count_161 : decode cX7_count 161 = .ok (.istore_n 2, 1) := by decide +kernel
theorem dX7_count_162 : decode cX7_count 162 = .ok (.iinc 3 1, 3) := by decide +kernel
theorem dX7_count_165 : decode cX7_count 165 = .ok (.goto (-35), 3) := by decide +kernel
theorem dX7_count_168 : decode cX7_count 168 = .ok (.iload_n 2, 1) := by decide +kernel
theorem dX7_count_169 : decode cX7_count 169 = .ok (.ireturn, 1) := by decide +kernel
theorem dX7_count_170 : decode cX7_count 170 = .ok (.aload_n 0, 1) := by decide +kernel
theorem dX7_count_171 : decode cX7_count 171 = .ok (.getfield 182, 3) := by decide +kernel
theorem dX7_count_174 : decode cX7_count 174 = .ok (.ireturn, 1) := by decide +kernel
theorem dX7_count_175 : decode cX7_count 175 = .ok (.aload_n 0, 1) := by decide +kernel
theorem dX7_count_176 : decode cX7_count 176 = .ok (.getfield 108, 3) := by decide +kernel
theorem dX7_count_179 : decode cX7_count 179 = .ok (.ireturn, 1) := by decide +kernel
theorem dX7_count_180 : decode cX7_count 180 = .ok (.bipush (-9), 2) := by decide +kernel
theorem dX7_count_182 : decode cX7_count 182 = .ok (.ireturn, 1) := by decide +kernel
theorem dJ11_isValidCodePoint_9a6ad_0 : decode cJ11_isValidCodePoint_9a6ad 0 = .ok (.iload_n 0, 1) := by decide +kernel
theorem dJ11_isValidCodePoint_9a6ad_1 : decode cJ11_isValidCodePoint_9a6ad 1 = .ok (.bipush 16, 2) := by decide +kernel
theorem dJ11_isValidCodePoint_9a6ad_3 : decode cJ11_isValidCodePoint_9a6ad 3 = .ok (.iushr, 1) := by decide +kernel
theorem dJ11_isValidCodePoint_9a6ad_4 : decode cJ11_isValidCodePoint_9a6ad 4 = .ok (.istore_n 1, 1) := by decide +kernel
theorem dJ11_isValidCodePoint_9a6ad_5 : decode cJ11_isValidCodePoint_9a6ad 5 = .ok (.iload_n 1, 1) := by decide +kernel
theorem dJ11_isValidCodePoint_9a6ad_6 : decode cJ11_isValidCodePoint_9a6ad 6 = .ok (.bipush 17, 2) := by decide +kernel
theorem dJ11_isValidCodePoint_9a6ad_8 : decode cJ11_isValidCodePoint_9a6ad 8 = .ok (.if_icmp .ge 7, 3) := by decide +kernel
theorem dJ11_isValidCodePoint_9a6ad_11 : decode cJ11_isValidCodePoint_9a6ad 11 = .ok (.iconst 1, 1) := by decide +kernel
theorem dJ11_isValidCodePoint_9a6ad_12 : decode cJ11_isValidCodePoint_9a6ad 12 = .ok (.goto 4, 3) := by decide +kernel
theorem dJ11_isValidCodePoint_9a6ad_15 : decode cJ11_isValidCodePoint_9a6ad 15 = .ok (.iconst 0, 1) := by decide +kernel
theorem dJ11_isValidCodePoint_9a6ad_16 : decode cJ11_isValidCodePoint_9a6ad 16 = .ok (.ireturn, 1) := by decide +kernel
theorem dJ11_highSurrogate_5068e_0 : decode cJ11_highSurrogate_5068e 0 = .ok (.iload_n 0, 1) := by decide +kernel
theorem dJ11_highSurrogate_5068e_1 : decode cJ11_highSurrogate_5068e 1 = .ok (.bipush 10, 2) := by decide +kernel
theorem dJ11_highSurrogate_5068e_3 : decode cJ11_highSurrogate_5068e 3 = .ok (.iushr, 1) := by decide +kernel
theorem dJ11_highSurrogate_5068e_4 : decode cJ11_highSurrogate_5068e 4 = .ok (.ldc 110, 2) := by decide +kernel
theorem dJ11_highSurrogate_5068e_6 : decode cJ11_highSurrogate_5068e 6 = .ok (.iadd, 1) := by decide +kernel
theorem dJ11_highSurrogate_5068e_7 : decode cJ11_highSurrogate_5068e 7 = .ok (.i2c, 1) := by decide +kernel
theorem dJ11_highSurrogate_5068e_8 : decode cJ11_highSurrogate_5068e 8 = .ok (.ireturn, 1) := by decide +kernel
theorem dJ11_lowSurrogate_5068e_0 : decode cJ11_lowSurrogate_5068e 0 = .ok (.iload_n 0, 1) := by decide +kernel
theorem dJ11_lowSurrogate_5068e_1 : decode cJ11_lowSurrogate_5068e 1 = .ok (.sipush 1023, 3) := by decide +kernel
theorem dJ11_lowSurrogate_5068e_4 : decode cJ11_lowSurrogate_5068e 4 = .ok (.iand, 1) := by decide +kernel
theorem dJ11_lowSurrogate_5068e_5 : decode cJ11_lowSurrogate_5068e 5 = .ok (.ldc 76, 2) := by decide +kernel
theorem dJ11_lowSurrogate_5068e_7 : decode cJ11_lowSurrogate_5068e 7 = .ok (.iadd, 1) := by decide +kernel
theorem dJ11_lowSurrogate_5068e_8 : decode cJ11_lowSurrogate_5068e 8 = .ok (.i2c, 1) := by decide +kernel
theorem dJ11_lowSurrogate_5068e_9 : decode cJ11_lowSurrogate_5068e 9 = .ok (.ireturn, 1) := by decide +kernel
theorem dJ9_abs_0f7a4_0 : decode cJ9_abs_0f7a4 0 = .ok (.iload_n 0, 1) := by decide +kernel
theorem dJ9_abs_0f7a4_1 : decode cJ9_abs_0f7a4 1 = .ok (.ifCond .ge 8, 3) := by decide +kernel
theorem dJ9_abs_0f7a4_4 : decode cJ9_abs_0f7a4 4 = .ok (.iload_n 0, 1) := by decide +kernel
theorem dJ9_abs_0f7a4_5 : decode cJ9_abs_0f7a4 5 = .ok (.ineg, 1) := by decide +kernel
theorem dJ9_abs_0f7a4_6 : decode cJ9_abs_0f7a4 6 = .ok (.goto 4, 3) := by decide +kernel
theorem dJ9_abs_0f7a4_9 : decode cJ9_abs_0f7a4 9 = .ok (.iload_n 0, 1) := by decide +kernel
theorem dJ9_abs_0f7a4_10 : decode cJ9_abs_0f7a4 10 = .ok (.ireturn, 1) := by decide +kernel
theorem dJ9_max_7cf53_0 : decode cJ9_max_7cf53 0 = .ok (.iload_n 0, 1) := by decide +kernel
theorem dJ9_max_7cf53_1 : decode cJ9_max_7cf53 1 = .ok (.iload_n 1, 1) := by decide +kernel
theorem dJ9_max_7cf53_2 : decode cJ9_max_7cf53 2 = .ok (.if_icmp .lt 7, 3) := by decide +kernel
theorem dJ9_max_7cf53_5 : decode cJ9_max_7cf53 5 = .ok (.iload_n 0, 1) := by decide +kernel
theorem dJ9_max_7cf53_6 : decode cJ9_max_7cf53 6 = .ok (.goto 4, 3) := by decide +kernel
theorem dJ9_max_7cf53_9 : decode cJ9_max_7cf53 9 = .ok (.iload_n 1, 1) := by decide +kernel
theorem dJ9_max_7cf53_10 : decode cJ9_max_7cf53 10 = .ok (.ireturn, 1) := by decide +kernel
theorem dJ9_min_7cf53_0 : decode cJ9_min_7cf53 0 = .ok (.iload_n 0, 1) := by decide +kernel
theorem dJ9_min_7cf53_1 : decode cJ9_min_7cf53 1 = .ok (.iload_n 1, 1) := by decide +kernel
theorem dJ9_min_7cf53_2 : decode cJ9_min_7cf53 2 = .ok (.if_icmp .gt 7, 3) := by decide +kernel
theorem dJ9_min_7cf53_5 : decode cJ9_min_7cf53 5 = .ok (.iload_n 0, 1) := by decide +kernel
theorem dJ9_min_7cf53_6 : decode cJ9_min_7cf53 6 = .ok (.goto 4, 3) := by decide +kernel
theorem dJ9_min_7cf53_9 : decode cJ9_min_7cf53 9 = .ok (.iload_n 1, 1) := by decide +kernel
theorem dJ9_min_7cf53_10 : decode cJ9_min_7cf53 10 = .ok (.ireturn, 1) := by decide +kernel
theorem dJ0_length_8abf5_0 : decode cJ0_length_8abf5 0 = .ok (.aload_n 0, 1) := by decide +kernel
theorem dJ0_length_8abf5_1 : decode cJ0_length_8abf5 1 = .ok (.getfield 9, 3) := by decide +kernel
theorem dJ0_length_8abf5_4 : decode cJ0_length_8abf5 4 = .ok (.arraylength, 1) := by decide +kernel
theorem dJ0_length_8abf5_5 : decode cJ0_length_8abf5 5 = .ok (.aload_n 0, 1) := by decide +kernel
theorem dJ0_length_8abf5_6 : decode cJ0_length_8abf5 6 = .ok (.invokevirtual 335, 3) := by decide +kernel
theorem dJ0_length_8abf5_9 : decode cJ0_length_8abf5 9 = .ok (.ishr, 1) := by decide +kernel
theorem dJ0_length_8abf5_10 : decode cJ0_length_8abf5 10 = .ok (.ireturn, 1) := by decide +kernel
theorem dJ0_isEmpty_aae02_0 : decode cJ0_isEmpty_aae02 0 = .ok (.aload_n 0, 1) := by decide +kernel
theorem dJ0_isEmpty_aae02_1 : decode cJ0_isEmpty_aae02 1 = .ok (.getfield 9, 3) := by decide +kernel
theorem dJ0_isEmpty_aae02_4 : decode cJ0_isEmpty_aae02 4 = .ok (.arraylength, 1) := by decide +kernel
theorem dJ0_isEmpty_aae02_5 : decode cJ0_isEmpty_aae02 5 = .ok (.ifCond .ne 7, 3) := by decide +kernel
theorem dJ0_isEmpty_aae02_8 : decode cJ0_isEmpty_aae02 8 = .ok (.iconst 1, 1) := by decide +kernel
theorem dJ0_isEmpty_aae02_9 : decode cJ0_isEmpty_aae02 9 = .ok (.goto 4, 3) := by decide +kernel
theorem dJ0_isEmpty_aae02_12 : decode cJ0_isEmpty_aae02 12 = .ok (.iconst 0, 1) := by decide +kernel
theorem dJ0_isEmpty_aae02_13 : decode cJ0_isEmpty_aae02 13 = .ok (.ireturn, 1) := by decide +kernel
theorem dJ0_charAt_5068e_0 : decode cJ0_charAt_5068e 0 = .ok (.aload_n 0, 1) := by decide +kernel
theorem dJ0_charAt_5068e_1 : decode cJ0_charAt_5068e 1 = .ok (.invokevirtual 492, 3) := by decide +kernel
theorem dJ0_charAt_5068e_4 : decode cJ0_charAt_5068e 4 = .ok (.ifCond .eq 12, 3) := by decide +kernel
theorem dJ0_charAt_5068e_7 : decode cJ0_charAt_5068e 7 = .ok (.aload_n 0, 1) := by decide +kernel
theorem dJ0_charAt_5068e_8 : decode cJ0_charAt_5068e 8 = .ok (.getfield 9, 3) := by decide +kernel
theorem dJ0_charAt_5068e_11 : decode cJ0_charAt_5068e 11 = .ok (.iload_n 1, 1) := by decide +kernel
theorem dJ0_charAt_5068e_12 : decode cJ0_charAt_5068e 12 = .ok (.invokestatic 495, 3) := by decide +kernel
theorem dJ0_charAt_5068e_15 : decode cJ0_charAt_5068e 15 = .ok (.ireturn, 1) := by decide +kernel
theorem dJ0_charAt_5068e_16 : decode cJ0_charAt_5068e 16 = .ok (.aload_n 0, 1) := by decide +kernel
theorem dJ0_charAt_5068e_17 : decode cJ0_charAt_5068e 17 = .ok (.getfield 9, 3) := by decide +kernel
theorem dJ0_charAt_5068e_20 : decode cJ0_charAt_5068e 20 = .ok (.iload_n 1, 1) := by decide +kernel
theorem dJ0_charAt_5068e_21 : decode cJ0_charAt_5068e 21 = .ok (.invokestatic 498, 3) := by decide +kernel
theorem dJ0_charAt_5068e_24 : decode cJ0_charAt_5068e 24 = .ok (.ireturn, 1) := by decide +kernel
theorem dJ0_indexOf_0f7a4_0 : decode cJ0_indexOf_0f7a4 0 = .ok (.aload_n 0, 1) := by decide +kernel
theorem dJ0_indexOf_0f7a4_1 : decode cJ0_indexOf_0f7a4 1 = .ok (.iload_n 1, 1) := by decide +kernel
theorem dJ0_indexOf_0f7a4_2 : decode cJ0_indexOf_0f7a4 2 = .ok (.iconst 0, 1) := by decide +kernel
theorem dJ0_indexOf_0f7a4_3 : decode cJ0_indexOf_0f7a4 3 = .ok (.invokevirtual 633, 3) := by decide +kernel
theorem dJ0_indexOf_0f7a4_6 : decode cJ0_indexOf_0f7a4 6 = .ok (.ireturn, 1) := by decide +kernel
theorem dJ0_indexOf_7cf53_0 : decode cJ0_indexOf_7cf53 0 = .ok (.aload_n 0, 1) := by decide +kernel
theorem dJ0_indexOf_7cf53_1 : decode cJ0_indexOf_7cf53 1 = .ok (.invokevirtual 492, 3) := by decide +kernel
theorem dJ0_indexOf_7cf53_4 : decode cJ0_indexOf_7cf53 4 = .ok (.ifCond .eq 19, 3) := by decide +kernel
theorem dJ0_indexOf_7cf53_7 : decode cJ0_indexOf_7cf53 7 = .ok (.aload_n 0, 1) := by decide +kernel
theorem dJ0_indexOf_7cf53_8 : decode cJ0_indexOf_7cf53 8 = .ok (.getfield 9, 3) := by decide +kernel
theorem dJ0_indexOf_7cf53_11 : decode cJ0_indexOf_7cf53 11 = .ok (.iload_n 1, 1) := by decide +kernel
theorem dJ0_indexOf_7cf53_12 : decode cJ0_indexOf_7cf53 12 = .ok (.iload_n 2, 1) := by decide +kernel
theorem dJ0_indexOf_7cf53_13 : decode cJ0_indexOf_7cf53 13 = .ok (.aload_n 0, 1) := by decide +kernel
theorem dJ0_indexOf_7cf53_14 : decode cJ0_indexOf_7cf53 14 = .ok (.invokevirtual 505, 3) := by decide +kernel
theorem dJ0_indexOf_7cf53_17 : decode cJ0_indexOf_7cf53 17 = .ok (.invokestatic 637, 3) := by decide +kernel
theorem dJ0_indexOf_7cf53_20 : decode cJ0_indexOf_7cf53 20 = .ok (.goto 16, 3) := by decide +kernel
theorem dJ0_indexOf_7cf53_23 : decode cJ0_indexOf_7cf53 23 = .ok (.aload_n 0, 1) := by decide +kernel
theorem dJ0_indexOf_7cf53_24 : decode cJ0_indexOf_7cf53 24 = .ok (.getfield 9, 3) := by decide +kernel
theorem dJ0_indexOf_7cf53_27 : decode cJ0_indexOf_7cf53 27 = .ok (.iload_n 1, 1) := by decide +kernel
theorem dJ0_indexOf_7cf53_28 : decode cJ0_indexOf_7cf53 28 = .ok (.iload_n 2, 1) := by decide +kernel
theorem dJ0_indexOf_7cf53_29 : decode cJ0_indexOf_7cf53 29 = .ok (.aload_n 0, 1) := by decide +kernel
theorem dJ0_indexOf_7cf53_30 : decode cJ0_indexOf_7cf53 30 = .ok (.invokevirtual 505, 3) := by decide +kernel
theorem dJ0_indexOf_7cf53_33 : decode cJ0_indexOf_7cf53 33 = .ok (.invokestatic 640, 3) := by decide +kernel
theorem dJ0_indexOf_7cf53_36 : decode cJ0_indexOf_7cf53 36 = .ok (.ireturn, 1) := by decide +kernel
theorem dJ0_coder_7d493_0 : decode cJ0_coder_7d493 0 = .ok (.getstatic 38, 3) := by decide +kernel
theorem dJ0_coder_7d493_3 : decode cJ0_coder_7d493 3 = .ok (.ifCond .eq 10, 3) := by decide +kernel
theorem dJ0_coder_7d493_6 : decode cJ0_coder_7d493 6 = .ok (.aload_n 0, 1) := by decide +kernel
theorem dJ0_coder_7d493_7 : decode cJ0_coder_7d493 7 = .ok (.getfield 15, 3) := by decide +kernel
theorem dJ0_coder_7d493_10 : decode cJ0_coder_7d493 10 = .ok (.goto 4, 3) := by decide +kernel
theorem dJ0_coder_7d493_13 : decode cJ0_coder_7d493 13 = .ok (.iconst 1, 1) := by decide +kernel
theorem dJ0_coder_7d493_14 : decode cJ0_coder_7d493 14 = .ok (.ireturn, 1) := by decide +kernel
theorem dJ0_isLatin1_aae02_0 : decode cJ0_isLatin1_aae02 0 = .ok (.getstatic 38, 3) := by decide +kernel
theorem dJ0_isLatin1_aae02_3 : decode cJ0_isLatin1_aae02 3 = .ok (.ifCond .eq 14, 3) := by decide +kernel
theorem dJ0_isLatin1_aae02_6 : decode cJ0_isLatin1_aae02 6 = .ok (.aload_n 0, 1) := by decide +kernel
theorem dJ0_isLatin1_aae02_7 : decode cJ0_isLatin1_aae02 7 = .ok (.getfield 15, 3) := by decide +kernel
theorem dJ0_isLatin1_aae02_10 : decode cJ0_isLatin1_aae02 10 = .ok (.ifCond .ne 7, 3) := by decide +kernel
theorem dJ0_isLatin1_aae02_13 : decode cJ0_isLatin1_aae02 13 = .ok (.iconst 1, 1) := by decide +kernel
theorem dJ0_isLatin1_aae02_14 : decode cJ0_isLatin1_aae02 14 = .ok (.goto 4, 3) := by decide +kernel
theorem dJ0_isLatin1_aae02_17 : decode cJ0_isLatin1_aae02 17 = .ok (.iconst 0, 1) := by decide +kernel
theorem dJ0_isLatin1_aae02_18 : decode cJ0_isLatin1_aae02 18 = .ok (.ireturn, 1) := by decide +kernel
theorem dJ0_checkIndex_df160_0 : decode cJ0_checkIndex_df160 0 = .ok (.iload_n 0, 1) := by decide +kernel
theorem dJ0_checkIndex_df160_1 : decode cJ0_checkIndex_df160 1 = .ok (.iload_n 1, 1) := by decide +kernel
theorem dJ0_checkIndex_df160_2 : decode cJ0_checkIndex_df160 2 = .ok (.getstatic 1053, 3) := by decide +kernel
theorem dJ0_checkIndex_df160_5 : decode cJ0_checkIndex_df160 5 = .ok (.invokestatic 1059, 3) := by decide +kernel
theorem dJ0_checkIndex_df160_8 : decode cJ0_checkIndex_df160 8 = .ok (.pop, 1) := by decide +kernel
theorem dJ0_checkIndex_df160_9 : decode cJ0_checkIndex_df160 9 = .ok (.return_, 1) := by decide +kernel
theorem dJ0_checkBoundsBeginEnd_23922_0 : decode cJ0_checkBoundsBeginEnd_23922 0 = .ok (.iload_n 0, 1) := by decide +kernel
theorem dJ0_checkBoundsBeginEnd_23922_1 : decode cJ0_checkBoundsBeginEnd_23922 1 = .ok (.iload_n 1, 1) := by decide +kernel
theorem dJ0_checkBoundsBeginEnd_23922_2 : decode cJ0_checkBoundsBeginEnd_23922 2 = .ok (.iload_n 2, 1) := by decide +kernel
theorem dJ0_checkBoundsBeginEnd_23922_3 : decode cJ0_checkBoundsBeginEnd_23922 3 = .ok (.getstatic 1053, 3) := by decide +kernel
theorem dJ0_checkBoundsBeginEnd_23922_6 : decode cJ0_checkBoundsBeginEnd_23922 6 = .ok (.invokestatic 1062, 3) := by decide +kernel
theorem dJ0_checkBoundsBeginEnd_23922_9 : decode cJ0_checkBoundsBeginEnd_23922 9 = .ok (.pop, 1) := by decide +kernel
theorem dJ0_checkBoundsBeginEnd_23922_10 : decode cJ0_checkBoundsBeginEnd_23922 10 = .ok (.return_, 1) := by decide +kernel
theorem dJ1_charAt_3b067_0 : decode cJ1_charAt_3b067 0 = .ok (.iload_n 1, 1) := by decide +kernel
theorem dJ1_charAt_3b067_1 : decode cJ1_charAt_3b067 1 = .ok (.aload_n 0, 1) := by decide +kernel
theorem dJ1_charAt_3b067_2 : decode cJ1_charAt_3b067 2 = .ok (.arraylength, 1) := by decide +kernel
theorem dJ1_charAt_3b067_3 : decode cJ1_charAt_3b067 3 = .ok (.invokestatic 9, 3) := by decide +kernel
theorem dJ1_charAt_3b067_6 : decode cJ1_charAt_3b067 6 = .ok (.aload_n 0, 1) := by decide +kernel
theorem dJ1_charAt_3b067_7 : decode cJ1_charAt_3b067 7 = .ok (.iload_n 1, 1) := by decide +kernel
theorem dJ1_charAt_3b067_8 : decode cJ1_charAt_3b067 8 = .ok (.baload, 1) := by decide +kernel
theorem dJ1_charAt_3b067_9 : decode cJ1_charAt_3b067 9 = .ok (.sipush 255, 3) := by decide +kernel
theorem dJ1_charAt_3b067_12 : decode cJ1_charAt_3b067 12 = .ok (.iand, 1) := by decide +kernel
theorem dJ1_charAt_3b067_13 : decode cJ1_charAt_3b067 13 = .ok (.i2c, 1) := by decide +kernel
theorem dJ1_charAt_3b067_14 : decode cJ1_charAt_3b067 14 = .ok (.ireturn, 1) := by decide +kernel
theorem dJ1_canEncode_9a6ad_0 : decode cJ1_canEncode_9a6ad 0 = .ok (.iload_n 0, 1) := by decide +kernel
theorem dJ1_canEncode_9a6ad_1 : decode cJ1_canEncode_9a6ad 1 = .ok (.ifCond .lt 14, 3) := by decide +kernel
theorem dJ1_canEncode_9a6ad_4 : decode cJ1_canEncode_9a6ad 4 = .ok (.iload_n 0, 1) := by decide +kernel
theorem dJ1_canEncode_9a6ad_5 : decode cJ1_canEncode_9a6ad 5 = .ok (.sipush 255, 3) := by decide +kernel
theorem dJ1_canEncode_9a6ad_8 : decode cJ1_canEncode_9a6ad 8 = .ok (.if_icmp .gt 7, 3) := by decide +kernel
theorem dJ1_canEncode_9a6ad_11 : decode cJ1_canEncode_9a6ad 11 = .ok (.iconst 1, 1) := by decide +kernel
theorem dJ1_canEncode_9a6ad_12 : decode cJ1_canEncode_9a6ad 12 = .ok (.goto 4, 3) := by decide +kernel
theorem dJ1_canEncode_9a6ad_15 : decode cJ1_canEncode_9a6ad 15 = .ok (.iconst 0, 1) := by decide +kernel
theorem dJ1_canEncode_9a6ad_16 : decode cJ1_canEncode_9a6ad 16 = .ok (.ireturn, 1) := by decide +kernel
theorem dJ1_indexOf_4cfef_0 : decode cJ1_indexOf_4cfef 0 = .ok (.iload_n 1, 1) := by decide +kernel
theorem dJ1_indexOf_4cfef_1 : decode cJ1_indexOf_4cfef 1 = .ok (.invokestatic 88, 3) := by decide +kernel
theorem dJ1_indexOf_4cfef_4 : decode cJ1_indexOf_4cfef 4 = .ok (.ifCond .ne 5, 3) := by decide +kernel
theorem dJ1_indexOf_4cfef_7 : decode cJ1_indexOf_4cfef 7 = .ok (.iconst (-1), 1) := by decide +kernel
theorem dJ1_indexOf_4cfef_8 : decode cJ1_indexOf_4cfef 8 = .ok (.ireturn, 1) := by decide +kernel
theorem dJ1_indexOf_4cfef_9 : decode cJ1_indexOf_4cfef 9 = .ok (.iload_n 2, 1) := by decide +kernel
theorem dJ1_indexOf_4cfef_10 : decode cJ1_indexOf_4cfef 10 = .ok (.iconst 0, 1) := by decide +kernel
theorem dJ1_indexOf_4cfef_11 : decode cJ1_indexOf_4cfef 11 = .ok (.invokestatic 92, 3) := by decide +kernel
theorem dJ1_indexOf_4cfef_14 : decode cJ1_indexOf_4cfef 14 = .ok (.istore_n 2, 1) := by decide +kernel
theorem dJ1_indexOf_4cfef_15 : decode cJ1_indexOf_4cfef 15 = .ok (.iload_n 3, 1) := by decide +kernel
theorem dJ1_indexOf_4cfef_16 : decode cJ1_indexOf_4cfef 16 = .ok (.aload_n 0, 1) := by decide +kernel
theorem dJ1_indexOf_4cfef_17 : decode cJ1_indexOf_4cfef 17 = .ok (.arraylength, 1) := by decide +kernel
theorem dJ1_indexOf_4cfef_18 : decode cJ1_indexOf_4cfef 18 = .ok (.invokestatic 38, 3) := by decide +kernel
theorem dJ1_indexOf_4cfef_21 : decode cJ1_indexOf_4cfef 21 = .ok (.istore_n 3, 1) := by decide +kernel
theorem dJ1_indexOf_4cfef_22 : decode cJ1_indexOf_4cfef 22 = .ok (.iload_n 2, 1) := by decide +kernel
theorem dJ1_indexOf_4cfef_23 : decode cJ1_indexOf_4cfef 23 = .ok (.iload_n 3, 1) := by decide +kernel
theorem dJ1_indexOf_4cfef_24 : decode cJ1_indexOf_4cfef 24 = .ok (.if_icmp .lt 5, 3) := by decide +kernel
theorem dJ1_indexOf_4cfef_27 : decode cJ1_indexOf_4cfef 27 = .ok (.iconst (-1), 1) := by decide +kernel
theorem dJ1_indexOf_4cfef_28 : decode cJ1_indexOf_4cfef 28 = .ok (.ireturn, 1) := by decide +kernel
theorem dJ1_indexOf_4cfef_29 : decode cJ1_indexOf_4cfef 29 = .ok (.aload_n 0, 1) := by decide +kernel
theorem dJ1_indexOf_4cfef_30 : decode cJ1_indexOf_4cfef 30 = .ok (.iload_n 1, 1) := by decide +kernel
theorem dJ1_indexOf_4cfef_31 : decode cJ1_indexOf_4cfef 31 = .ok (.iload_n 2, 1) := by decide +kernel
theorem dJ1_indexOf_4cfef_32 : decode cJ1_indexOf_4cfef 32 = .ok (.iload_n 3, 1) := by decide +kernel
theorem dJ1_indexOf_4cfef_33 : decode cJ1_indexOf_4cfef 33 = .ok (.invokestatic 95, 3) := by decide +kernel
theorem dJ1_indexOf_4cfef_36 : decode cJ1_indexOf_4cfef 36 = .ok (.ireturn, 1) := by decide +kernel
theorem dJ1_indexOfChar_4cfef_0 : decode cJ1_indexOfChar_4cfef 0 = .ok (.iload_n 1, 1) := by decide +kernel
theorem dJ1_indexOfChar_4cfef_1 : decode cJ1_indexOfChar_4cfef 1 = .ok (.i2b, 1) := by decide +kernel
theorem dJ1_indexOfChar_4cfef_2 : decode cJ1_indexOfChar_4cfef 2 = .ok (.istore 4, 2) := by decide +kernel
theorem dJ1_indexOfChar_4cfef_4 : decode cJ1_indexOfChar_4cfef 4 = .ok (.iload_n 2, 1) := by decide +kernel
theorem dJ1_indexOfChar_4cfef_5 : decode cJ1_indexOfChar_4cfef 5 = .ok (.istore 5, 2) := by decide +kernel
theorem dJ1_indexOfChar_4cfef_7 : decode cJ1_indexOfChar_4cfef 7 = .ok (.iload 5, 2) := by decide +kernel
theorem dJ1_indexOfChar_4cfef_9 : decode cJ1_indexOfChar_4cfef 9 = .ok (.iload_n 3, 1) := by decide +kernel
theorem dJ1_indexOfChar_4cfef_10 : decode cJ1_indexOfChar_4cfef 10 = .ok (.if_icmp .ge 21, 3) := by decide +kernel
theorem dJ1_indexOfChar_4cfef_13 : decode cJ1_indexOfChar_4cfef 13 = .ok (.aload_n 0, 1) := by decide +kernel
theorem dJ1_indexOfChar_4cfef_14 : decode cJ1_indexOfChar_4cfef 14 = .ok (.iload 5, 2) := by decide +kernel
theorem dJ1_indexOfChar_4cfef_16 : decode cJ1_indexOfChar_4cfef 16 = .ok (.baload, 1) := by decide +kernel
theorem dJ1_indexOfChar_4cfef_17 : decode cJ1_indexOfChar_4cfef 17 = .ok (.iload 4, 2) := by decide +kernel
theorem dJ1_indexOfChar_4cfef_19 : decode cJ1_indexOfChar_4cfef 19 = .ok (.if_icmp .ne 6, 3) := by decide +kernel
theorem dJ1_indexOfChar_4cfef_22 : decode cJ1_indexOfChar_4cfef 22 = .ok (.iload 5, 2) := by decide +kernel
theorem dJ1_indexOfChar_4cfef_24 : decode cJ1_indexOfChar_4cfef 24 = .ok (.ireturn, 1) := by decide +kernel
theorem dJ1_indexOfChar_4cfef_25 : decode cJ1_indexOfChar_4cfef 25 = .ok (.iinc 5 1, 3) := by decide +kernel
theorem dJ1_indexOfChar_4cfef_28 : decode cJ1_indexOfChar_4cfef 28 = .ok (.goto (-21), 3) := by decide +kernel
theorem dJ1_indexOfChar_4cfef_31 : decode cJ1_indexOfChar_4cfef 31 = .ok (.iconst (-1), 1) := by decide +kernel
theorem dJ1_indexOfChar_4cfef_32 : decode cJ1_indexOfChar_4cfef 32 = .ok (.ireturn, 1) := by decide +kernel
theorem dJ2_getChar_3b067_0 : decode cJ2_getChar_3b067 0 = .ok (.getstatic 44, 3) := by decide +kernel
theorem dJ2_getChar_3b067_3 : decode cJ2_getChar_3b067 3 = .ok (.ifCond .ne 25, 3) := by decide +kernel
theorem dJ2_getChar_3b067_6 : decode cJ2_getChar_3b067 6 = .ok (.iload_n 1, 1) := by decide +kernel
theorem dJ2_getChar_3b067_7 : decode cJ2_getChar_3b067 7 = .ok (.ifCond .lt 11, 3) := by decide +kernel
theorem dJ2_getChar_3b067_10 : decode cJ2_getChar_3b067 10 = .ok (.iload_n 1, 1) := by decide +kernel
theorem dJ2_getChar_3b067_11 : decode cJ2_getChar_3b067 11 = .ok (.aload_n 0, 1) := by decide +kernel
theorem dJ2_getChar_3b067_12 : decode cJ2_getChar_3b067 12 = .ok (.invokestatic 48, 3) := by decide +kernel
theorem dJ2_getChar_3b067_15 : decode cJ2_getChar_3b067 15 = .ok (.if_icmp .lt 13, 3) := by decide +kernel
theorem dJ2_getChar_3b067_18 : decode cJ2_getChar_3b067 18 = .ok (.new 52, 3) := by decide +kernel
theorem dJ2_getChar_3b067_21 : decode cJ2_getChar_3b067 21 = .ok (.dup, 1) := by decide +kernel
theorem dJ2_getChar_3b067_22 : decode cJ2_getChar_3b067 22 = .ok (.ldc 54, 2) := by decide +kernel
theorem dJ2_getChar_3b067_24 : decode cJ2_getChar_3b067 24 = .ok (.invokespecial 56, 3) := by decide +kernel
theorem dJ2_getChar_3b067_27 : decode cJ2_getChar_3b067 27 = .ok (.athrow, 1) := by decide +kernel
theorem dJ2_getChar_3b067_28 : decode cJ2_getChar_3b067 28 = .ok (.iload_n 1, 1) := by decide +kernel
theorem dJ2_getChar_3b067_29 : decode cJ2_getChar_3b067 29 = .ok (.iconst 1, 1) := by decide +kernel
theorem dJ2_getChar_3b067_30 : decode cJ2_getChar_3b067 30 = .ok (.ishl, 1) := by decide +kernel
theorem dJ2_getChar_3b067_31 : decode cJ2_getChar_3b067 31 = .ok (.istore_n 1, 1) := by decide +kernel
theorem dJ2_getChar_3b067_32 : decode cJ2_getChar_3b067 32 = .ok (.aload_n 0, 1) := by decide +kernel
theorem dJ2_getChar_3b067_33 : decode cJ2_getChar_3b067 33 = .ok (.iload_n 1, 1) := by decide +kernel
theorem dJ2_getChar_3b067_34 : decode cJ2_getChar_3b067 34 = .ok (.iinc 1 1, 3) := by decide +kernel
theorem dJ2_getChar_3b067_37 : decode cJ2_getChar_3b067 37 = .ok (.baload, 1) := by decide +kernel
theorem dJ2_getChar_3b067_38 : decode cJ2_getChar_3b067 38 = .ok (.sipush 255, 3) := by decide +kernel
theorem dJ2_getChar_3b067_41 : decode cJ2_getChar_3b067 41 = .ok (.iand, 1) := by decide +kernel
theorem dJ2_getChar_3b067_42 : decode cJ2_getChar_3b067 42 = .ok (.getstatic 59, 3) := by decide +kernel
theorem dJ2_getChar_3b067_45 : decode cJ2_getChar_3b067 45 = .ok (.ishl, 1) := by decide +kernel
theorem dJ2_getChar_3b067_46 : decode cJ2_getChar_3b067 46 = .ok (.aload_n 0, 1) := by decide +kernel
theorem dJ2_getChar_3b067_47 : decode cJ2_getChar_3b067 47 = .ok (.iload_n 1, 1) := by decide +kernel
theorem dJ2_getChar_3b067_48 : decode cJ2_getChar_3b067 48 = .ok (.baload, 1) := by decide +kernel
theorem dJ2_getChar_3b067_49 : decode cJ2_getChar_3b067 49 = .ok (.sipush 255, 3) := by decide +kernel
theorem dJ2_getChar_3b067_52 : decode cJ2_getChar_3b067 52 = .ok (.iand, 1) := by decide +kernel
theorem dJ2_getChar_3b067_53 : decode cJ2_getChar_3b067 53 = .ok (.getstatic 63, 3) := by decide +kernel
theorem dJ2_getChar_3b067_56 : decode cJ2_getChar_3b067 56 = .ok (.ishl, 1) := by decide +kernel
theorem dJ2_getChar_3b067_57 : decode cJ2_getChar_3b067 57 = .ok (.ior, 1) := by decide +kernel
theorem dJ2_getChar_3b067_58 : decode cJ2_getChar_3b067 58 = .ok (.i2c, 1) := by decide +kernel
theorem dJ2_getChar_3b067_59 : decode cJ2_getChar_3b067 59 = .ok (.ireturn, 1) := by decide +kernel
theorem dJ2_length_9d52b_0 : decode cJ2_length_9d52b 0 = .ok (.aload_n 0, 1) := by decide +kernel
theorem dJ2_length_9d52b_1 : decode cJ2_length_9d52b 1 = .ok (.arraylength, 1) := by decide +kernel
theorem dJ2_length_9d52b_2 : decode cJ2_length_9d52b 2 = .ok (.iconst 1, 1) := by decide +kernel
theorem dJ2_length_9d52b_3 : decode cJ2_length_9d52b 3 = .ok (.ishr, 1) := by decide +kernel
theorem dJ2_length_9d52b_4 : decode cJ2_length_9d52b 4 = .ok (.ireturn, 1) := by decide +kernel
theorem dJ2_indexOf_4cfef_0 : decode cJ2_indexOf_4cfef 0 = .ok (.iload_n 2, 1) := by decide +kernel
theorem dJ2_indexOf_4cfef_1 : decode cJ2_indexOf_4cfef 1 = .ok (.iconst 0, 1) := by decide +kernel
theorem dJ2_indexOf_4cfef_2 : decode cJ2_indexOf_4cfef 2 = .ok (.invokestatic 224, 3) := by decide +kernel
theorem dJ2_indexOf_4cfef_5 : decode cJ2_indexOf_4cfef 5 = .ok (.istore_n 2, 1) := by decide +kernel
theorem dJ2_indexOf_4cfef_6 : decode cJ2_indexOf_4cfef 6 = .ok (.iload_n 3, 1) := by decide +kernel
theorem dJ2_indexOf_4cfef_7 : decode cJ2_indexOf_4cfef 7 = .ok (.aload_n 0, 1) := by decide +kernel
theorem dJ2_indexOf_4cfef_8 : decode cJ2_indexOf_4cfef 8 = .ok (.arraylength, 1) := by decide +kernel
theorem dJ2_indexOf_4cfef_9 : decode cJ2_indexOf_4cfef 9 = .ok (.iconst 1, 1) := by decide +kernel
theorem dJ2_indexOf_4cfef_10 : decode cJ2_indexOf_4cfef 10 = .ok (.ishr, 1) := by decide +kernel
theorem dJ2_indexOf_4cfef_11 : decode cJ2_indexOf_4cfef 11 = .ok (.invokestatic 183, 3) := by decide +kernel
theorem dJ2_indexOf_4cfef_14 : decode cJ2_indexOf_4cfef 14 = .ok (.istore_n 3, 1) := by decide +kernel
theorem dJ2_indexOf_4cfef_15 : decode cJ2_indexOf_4cfef 15 = .ok (.iload_n 2, 1) := by decide +kernel
theorem dJ2_indexOf_4cfef_16 : decode cJ2_indexOf_4cfef 16 = .ok (.iload_n 3, 1) := by decide +kernel
theorem dJ2_indexOf_4cfef_17 : decode cJ2_indexOf_4cfef 17 = .ok (.if_icmp .lt 5, 3) := by decide +kernel
theorem dJ2_indexOf_4cfef_20 : decode cJ2_indexOf_4cfef 20 = .ok (.iconst (-1), 1) := by decide +kernel
theorem dJ2_indexOf_4cfef_21 : decode cJ2_indexOf_4cfef 21 = .ok (.ireturn, 1) := by decide +kernel
theorem dJ2_indexOf_4cfef_22 : decode cJ2_indexOf_4cfef 22 = .ok (.iload_n 1, 1) := by decide +kernel
theorem dJ2_indexOf_4cfef_23 : decode cJ2_indexOf_4cfef 23 = .ok (.ldc 227, 2) := by decide +kernel
theorem dJ2_indexOf_4cfef_25 : decode cJ2_indexOf_4cfef 25 = .ok (.if_icmp .ge 11, 3) := by decide +kernel
theorem dJ2_indexOf_4cfef_28 : decode cJ2_indexOf_4cfef 28 = .ok (.aload_n 0, 1) := by decide +kernel
theorem dJ2_indexOf_4cfef_29 : decode cJ2_indexOf_4cfef 29 = .ok (.iload_n 1, 1) := by decide +kernel
theorem dJ2_indexOf_4cfef_30 : decode cJ2_indexOf_4cfef 30 = .ok (.iload_n 2, 1) := by decide +kernel
theorem dJ2_indexOf_4cfef_31 : decode cJ2_indexOf_4cfef 31 = .ok (.iload_n 3, 1) := by decide +kernel
theorem dJ2_indexOf_4cfef_32 : decode cJ2_indexOf_4cfef 32 = .ok (.invokestatic 228, 3) := by decide +kernel
theorem dJ2_indexOf_4cfef_35 : decode cJ2_indexOf_4cfef 35 = .ok (.ireturn, 1) := by decide +kernel
theorem dJ2_indexOf_4cfef_36 : decode cJ2_indexOf_4cfef 36 = .ok (.aload_n 0, 1) := by decide +kernel
theorem dJ2_indexOf_4cfef_37 : decode cJ2_indexOf_4cfef 37 = .ok (.iload_n 1, 1) := by decide +kernel
theorem dJ2_indexOf_4cfef_38 : decode cJ2_indexOf_4cfef 38 = .ok (.iload_n 2, 1) := by decide +kernel
theorem dJ2_indexOf_4cfef_39 : decode cJ2_indexOf_4cfef 39 = .ok (.iload_n 3, 1) := by decide +kernel
theorem dJ2_indexOf_4cfef_40 : decode cJ2_indexOf_4cfef 40 = .ok (.invokestatic 232, 3) := by decide +kernel
theorem dJ2_indexOf_4cfef_43 : decode cJ2_indexOf_4cfef 43 = .ok (.ireturn, 1) := by decide +kernel
theorem dJ2_indexOfChar_4cfef_0 : decode cJ2_indexOfChar_4cfef 0 = .ok (.iload_n 2, 1) := by decide +kernel
theorem dJ2_indexOfChar_4cfef_1 : decode cJ2_indexOfChar_4cfef 1 = .ok (.iload_n 3, 1) := by decide +kernel
theorem dJ2_indexOfChar_4cfef_2 : decode cJ2_indexOfChar_4cfef 2 = .ok (.aload_n 0, 1) := by decide +kernel
theorem dJ2_indexOfChar_4cfef_3 : decode cJ2_indexOfChar_4cfef 3 = .ok (.invokestatic 96, 3) := by decide +kernel
theorem dJ2_indexOfChar_4cfef_6 : decode cJ2_indexOfChar_4cfef 6 = .ok (.aload_n 0, 1) := by decide +kernel
theorem dJ2_indexOfChar_4cfef_7 : decode cJ2_indexOfChar_4cfef 7 = .ok (.iload_n 1, 1) := by decide +kernel
theorem dJ2_indexOfChar_4cfef_8 : decode cJ2_indexOfChar_4cfef 8 = .ok (.iload_n 2, 1) := by decide +kernel
theorem dJ2_indexOfChar_4cfef_9 : decode cJ2_indexOfChar_4cfef 9 = .ok (.iload_n 3, 1) := by decide +kernel
theorem dJ2_indexOfChar_4cfef_10 : decode cJ2_indexOfChar_4cfef 10 = .ok (.invokestatic 244, 3) := by decide +kernel
theorem dJ2_indexOfChar_4cfef_13 : decode cJ2_indexOfChar_4cfef 13 = .ok (.ireturn, 1) := by decide +kernel
theorem dJ2_indexOfCharUnsafe_4cfef_0 : decode cJ2_indexOfCharUnsafe_4cfef 0 = .ok (.iload_n 2, 1) := by decide +kernel
theorem dJ2_indexOfCharUnsafe_4cfef_1 : decode cJ2_indexOfCharUnsafe_4cfef 1 = .ok (.istore 4, 2) := by decide +kernel
theorem dJ2_indexOfCharUnsafe_4cfef_3 : decode cJ2_indexOfCharUnsafe_4cfef 3 = .ok (.iload 4, 2) := by decide +kernel
theorem dJ2_indexOfCharUnsafe_4cfef_5 : decode cJ2_indexOfCharUnsafe_4cfef 5 = .ok (.iload_n 3, 1) := by decide +kernel
theorem dJ2_indexOfCharUnsafe_4cfef_6 : decode cJ2_indexOfCharUnsafe_4cfef 6 = .ok (.if_icmp .ge 22, 3) := by decide +kernel
theorem dJ2_indexOfCharUnsafe_4cfef_9 : decode cJ2_indexOfCharUnsafe_4cfef 9 = .ok (.aload_n 0, 1) := by decide +kernel
theorem dJ2_indexOfCharUnsafe_4cfef_10 : decode cJ2_indexOfCharUnsafe_4cfef 10 = .ok (.iload 4, 2) := by decide +kernel
theorem dJ2_indexOfCharUnsafe_4cfef_12 : decode cJ2_indexOfCharUnsafe_4cfef 12 = .ok (.invokestatic 71, 3) := by decide +kernel
theorem dJ2_indexOfCharUnsafe_4cfef_15 : decode cJ2_indexOfCharUnsafe_4cfef 15 = .ok (.iload_n 1, 1) := by decide +kernel
theorem dJ2_indexOfCharUnsafe_4cfef_16 : decode cJ2_indexOfCharUnsafe_4cfef 16 = .ok (.if_icmp .ne 6, 3) := by decide +kernel
theorem dJ2_indexOfCharUnsafe_4cfef_19 : decode cJ2_indexOfCharUnsafe_4cfef 19 = .ok (.iload 4, 2) := by decide +kernel
theorem dJ2_indexOfCharUnsafe_4cfef_21 : decode cJ2_indexOfCharUnsafe_4cfef 21 = .ok (.ireturn, 1) := by decide +kernel
theorem dJ2_indexOfCharUnsafe_4cfef_22 : decode cJ2_indexOfCharUnsafe_4cfef 22 = .ok (.iinc 4 1, 3) := by decide +kernel
theorem dJ2_indexOfCharUnsafe_4cfef_25 : decode cJ2_indexOfCharUnsafe_4cfef 25 = .ok (.goto (-22), 3) := by decide +kernel
theorem dJ2_indexOfCharUnsafe_4cfef_28 : decode cJ2_indexOfCharUnsafe_4cfef 28 = .ok (.iconst (-1), 1) := by decide +kernel
theorem dJ2_indexOfCharUnsafe_4cfef_29 : decode cJ2_indexOfCharUnsafe_4cfef 29 = .ok (.ireturn, 1) := by decide +kernel
theorem dJ2_indexOfSupplementary_4cfef_0 : decode cJ2_indexOfSupplementary_4cfef 0 = .ok (.iload_n 1, 1) := by decide +kernel
theorem dJ2_indexOfSupplementary_4cfef_1 : decode cJ2_indexOfSupplementary_4cfef 1 = .ok (.invokestatic 164, 3) := by decide +kernel
theorem dJ2_indexOfSupplementary_4cfef_4 : decode cJ2_indexOfSupplementary_4cfef 4 = .ok (.ifCond .eq 65, 3) := by decide +kernel
theorem dJ2_indexOfSupplementary_4cfef_7 : decode cJ2_indexOfSupplementary_4cfef 7 = .ok (.iload_n 1, 1) := by decide +kernel
theorem dJ2_indexOfSupplementary_4cfef_8 : decode cJ2_indexOfSupplementary_4cfef 8 = .ok (.invokestatic 157, 3) := by decide +kernel
theorem dJ2_indexOfSupplementary_4cfef_11 : decode cJ2_indexOfSupplementary_4cfef 11 = .ok (.istore 4, 2) := by decide +kernel
theorem dJ2_indexOfSupplementary_4cfef_13 : decode cJ2_indexOfSupplementary_4cfef 13 = .ok (.iload_n 1, 1) := by decide +kernel
theorem dJ2_indexOfSupplementary_4cfef_14 : decode cJ2_indexOfSupplementary_4cfef 14 = .ok (.invokestatic 161, 3) := by decide +kernel
theorem dJ2_indexOfSupplementary_4cfef_17 : decode cJ2_indexOfSupplementary_4cfef 17 = .ok (.istore 5, 2) := by decide +kernel
theorem dJ2_indexOfSupplementary_4cfef_19 : decode cJ2_indexOfSupplementary_4cfef 19 = .ok (.iload_n 2, 1) := by decide +kernel
theorem dJ2_indexOfSupplementary_4cfef_20 : decode cJ2_indexOfSupplementary_4cfef 20 = .ok (.iload_n 3, 1) := by decide +kernel
theorem dJ2_indexOfSupplementary_4cfef_21 : decode cJ2_indexOfSupplementary_4cfef 21 = .ok (.aload_n 0, 1) := by decide +kernel
theorem dJ2_indexOfSupplementary_4cfef_22 : decode cJ2_indexOfSupplementary_4cfef 22 = .ok (.invokestatic 96, 3) := by decide +kernel
theorem dJ2_indexOfSupplementary_4cfef_25 : decode cJ2_indexOfSupplementary_4cfef 25 = .ok (.iload_n 2, 1) := by decide +kernel
theorem dJ2_indexOfSupplementary_4cfef_26 : decode cJ2_indexOfSupplementary_4cfef 26 = .ok (.istore 6, 2) := by decide +kernel
theorem dJ2_indexOfSupplementary_4cfef_28 : decode cJ2_indexOfSupplementary_4cfef 28 = .ok (.iload 6, 2) := by decide +kernel
theorem dJ2_indexOfSupplementary_4cfef_30 : decode cJ2_indexOfSupplementary_4cfef 30 = .ok (.iload_n 3, 1) := by decide +kernel
theorem dJ2_indexOfSupplementary_4cfef_31 : decode cJ2_indexOfSupplementary_4cfef 31 = .ok (.iconst 1, 1) := by decide +kernel
theorem dJ2_indexOfSupplementary_4cfef_32 : decode cJ2_indexOfSupplementary_4cfef 32 = .ok (.isub, 1) := by decide +kernel
theorem dJ2_indexOfSupplementary_4cfef_33 : decode cJ2_indexOfSupplementary_4cfef 33 = .ok (.if_icmp .ge 36, 3) := by decide +kernel
theorem dJ2_indexOfSupplementary_4cfef_36 : decode cJ2_indexOfSupplementary_4cfef 36 = .ok (.aload_n 0, 1) := by decide +kernel
theorem dJ2_indexOfSupplementary_4cfef_37 : decode cJ2_indexOfSupplementary_4cfef 37 = .ok (.iload 6, 2) := by decide +kernel
theorem dJ2_indexOfSupplementary_4cfef_39 : decode cJ2_indexOfSupplementary_4cfef 39 = .ok (.invokestatic 71, 3) := by decide +kernel
theorem dJ2_indexOfSupplementary_4cfef_42 : decode cJ2_indexOfSupplementary_4cfef 42 = .ok (.iload 4, 2) := by decide +kernel
theorem dJ2_indexOfSupplementary_4cfef_44 : decode cJ2_indexOfSupplementary_4cfef 44 = .ok (.if_icmp .ne 19, 3) := by decide +kernel
theorem dJ2_indexOfSupplementary_4cfef_47 : decode cJ2_indexOfSupplementary_4cfef 47 = .ok (.aload_n 0, 1) := by decide +kernel
theorem dJ2_indexOfSupplementary_4cfef_48 : decode cJ2_indexOfSupplementary_4cfef 48 = .ok (.iload 6, 2) := by decide +kernel
theorem dJ2_indexOfSupplementary_4cfef_50 : decode cJ2_indexOfSupplementary_4cfef 50 = .ok (.iconst 1, 1) := by decide +kernel
theorem dJ2_indexOfSupplementary_4cfef_51 : decode cJ2_indexOfSupplementary_4cfef 51 = .ok (.iadd, 1) := by decide +kernel
theorem dJ2_indexOfSupplementary_4cfef_52 : decode cJ2_indexOfSupplementary_4cfef 52 = .ok (.invokestatic 71, 3) := by decide +kernel
theorem dJ2_indexOfSupplementary_4cfef_55 : decode cJ2_indexOfSupplementary_4cfef 55 = .ok (.iload 5, 2) := by decide +kernel
theorem dJ2_indexOfSupplementary_4cfef_57 : decode cJ2_indexOfSupplementary_4cfef 57 = .ok (.if_icmp .ne 6, 3) := by decide +kernel
theorem dJ2_indexOfSupplementary_4cfef_60 : decode cJ2_indexOfSupplementary_4cfef 60 = .ok (.iload 6, 2) := by decide +kernel
theorem dJ2_indexOfSupplementary_4cfef_62 : decode cJ2_indexOfSupplementary_4cfef 62 = .ok (.ireturn, 1) := by decide +kernel
theorem dJ2_indexOfSupplementary_4cfef_63 : decode cJ2_indexOfSupplementary_4cfef 63 = .ok (.iinc 6 1, 3) := by decide +kernel
theorem dJ2_indexOfSupplementary_4cfef_66 : decode cJ2_indexOfSupplementary_4cfef 66 = .ok (.goto (-38), 3) := by decide +kernel
theorem dJ2_indexOfSupplementary_4cfef_69 : decode cJ2_indexOfSupplementary_4cfef 69 = .ok (.iconst (-1), 1) := by decide +kernel
theorem dJ2_indexOfSupplementary_4cfef_70 : decode cJ2_indexOfSupplementary_4cfef 70 = .ok (.ireturn, 1) := by decide +kernel
theorem dJ2_charAt_3b067_0 : decode cJ2_charAt_3b067 0 = .ok (.iload_n 1, 1) := by decide +kernel
theorem dJ2_charAt_3b067_1 : decode cJ2_charAt_3b067 1 = .ok (.aload_n 0, 1) := by decide +kernel
theorem dJ2_charAt_3b067_2 : decode cJ2_charAt_3b067 2 = .ok (.invokestatic 67, 3) := by decide +kernel
theorem dJ2_charAt_3b067_5 : decode cJ2_charAt_3b067 5 = .ok (.aload_n 0, 1) := by decide +kernel
theorem dJ2_charAt_3b067_6 : decode cJ2_charAt_3b067 6 = .ok (.iload_n 1, 1) := by decide +kernel
theorem dJ2_charAt_3b067_7 : decode cJ2_charAt_3b067 7 = .ok (.invokestatic 71, 3) := by decide +kernel
theorem dJ2_charAt_3b067_10 : decode cJ2_charAt_3b067 10 = .ok (.ireturn, 1) := by decide +kernel
theorem dJ2_checkIndex_2214a_0 : decode cJ2_checkIndex_2214a 0 = .ok (.iload_n 0, 1) := by decide +kernel
theorem dJ2_checkIndex_2214a_1 : decode cJ2_checkIndex_2214a 1 = .ok (.aload_n 1, 1) := by decide +kernel
theorem dJ2_checkIndex_2214a_2 : decode cJ2_checkIndex_2214a 2 = .ok (.invokestatic 48, 3) := by decide +kernel
theorem dJ2_checkIndex_2214a_5 : decode cJ2_checkIndex_2214a 5 = .ok (.invokestatic 414, 3) := by decide +kernel
theorem dJ2_checkIndex_2214a_8 : decode cJ2_checkIndex_2214a 8 = .ok (.return_, 1) := by decide +kernel
theorem dJ2_checkBoundsBeginEnd_d044e_0 : decode cJ2_checkBoundsBeginEnd_d044e 0 = .ok (.iload_n 0, 1) := by decide +kernel
theorem dJ2_checkBoundsBeginEnd_d044e_1 : decode cJ2_checkBoundsBeginEnd_d044e 1 = .ok (.iload_n 1, 1) := by decide +kernel
theorem dJ2_checkBoundsBeginEnd_d044e_2 : decode cJ2_checkBoundsBeginEnd_d044e 2 = .ok (.aload_n 2, 1) := by decide +kernel
theorem dJ2_checkBoundsBeginEnd_d044e_3 : decode cJ2_checkBoundsBeginEnd_d044e 3 = .ok (.invokestatic 48, 3) := by decide +kernel
theorem dJ2_checkBoundsBeginEnd_d044e_6 : decode cJ2_checkBoundsBeginEnd_d044e 6 = .ok (.invokestatic 241, 3) := by decide +kernel
theorem dJ2_checkBoundsBeginEnd_d044e_9 : decode cJ2_checkBoundsBeginEnd_d044e 9 = .ok (.return_, 1) := by decide +kernel
theorem dJ3_checkIndex_8e157_0 : decode cJ3_checkIndex_8e157 0 = .ok (.iload_n 0, 1) := by decide +kernel
theorem dJ3_checkIndex_8e157_1 : decode cJ3_checkIndex_8e157 1 = .ok (.ifCond .lt 8, 3) := by decide +kernel
theorem dJ3_checkIndex_8e157_4 : decode cJ3_checkIndex_8e157 4 = .ok (.iload_n 0, 1) := by decide +kernel
theorem dJ3_checkIndex_8e157_5 : decode cJ3_checkIndex_8e157 5 = .ok (.iload_n 1, 1) := by decide +kernel
theorem dJ3_checkIndex_8e157_6 : decode cJ3_checkIndex_8e157 6 = .ok (.if_icmp .lt 10, 3) := by decide +kernel
theorem dJ3_checkIndex_8e157_9 : decode cJ3_checkIndex_8e157 9 = .ok (.aload_n 2, 1) := by decide +kernel
theorem dJ3_checkIndex_8e157_10 : decode cJ3_checkIndex_8e157 10 = .ok (.iload_n 0, 1) := by decide +kernel
theorem dJ3_checkIndex_8e157_11 : decode cJ3_checkIndex_8e157 11 = .ok (.iload_n 1, 1) := by decide +kernel
theorem dJ3_checkIndex_8e157_12 : decode cJ3_checkIndex_8e157 12 = .ok (.invokestatic 95, 3) := by decide +kernel
theorem dJ3_checkIndex_8e157_15 : decode cJ3_checkIndex_8e157 15 = .ok (.athrow, 1) := by decide +kernel
theorem dJ3_checkIndex_8e157_16 : decode cJ3_checkIndex_8e157 16 = .ok (.iload_n 0, 1) := by decide +kernel
theorem dJ3_checkIndex_8e157_17 : decode cJ3_checkIndex_8e157 17 = .ok (.ireturn, 1) := by decide +kernel
theorem dJ3_checkFromToIndex_8c36e_0 : decode cJ3_checkFromToIndex_8c36e 0 = .ok (.iload_n 0, 1) := by decide +kernel
theorem dJ3_checkFromToIndex_8c36e_1 : decode cJ3_checkFromToIndex_8c36e 1 = .ok (.ifCond .lt 13, 3) := by decide +kernel
theorem dJ3_checkFromToIndex_8c36e_4 : decode cJ3_checkFromToIndex_8c36e 4 = .ok (.iload_n 0, 1) := by decide +kernel
theorem dJ3_checkFromToIndex_8c36e_5 : decode cJ3_checkFromToIndex_8c36e 5 = .ok (.iload_n 1, 1) := by decide +kernel
theorem dJ3_checkFromToIndex_8c36e_6 : decode cJ3_checkFromToIndex_8c36e 6 = .ok (.if_icmp .gt 8, 3) := by decide +kernel
theorem dJ3_checkFromToIndex_8c36e_9 : decode cJ3_checkFromToIndex_8c36e 9 = .ok (.iload_n 1, 1) := by decide +kernel
theorem dJ3_checkFromToIndex_8c36e_10 : decode cJ3_checkFromToIndex_8c36e 10 = .ok (.iload_n 2, 1) := by decide +kernel
theorem dJ3_checkFromToIndex_8c36e_11 : decode cJ3_checkFromToIndex_8c36e 11 = .ok (.if_icmp .le 11, 3) := by decide +kernel
theorem dJ3_checkFromToIndex_8c36e_14 : decode cJ3_checkFromToIndex_8c36e 14 = .ok (.aload_n 3, 1) := by decide +kernel
theorem dJ3_checkFromToIndex_8c36e_15 : decode cJ3_checkFromToIndex_8c36e 15 = .ok (.iload_n 0, 1) := by decide +kernel
theorem dJ3_checkFromToIndex_8c36e_16 : decode cJ3_checkFromToIndex_8c36e 16 = .ok (.iload_n 1, 1) := by decide +kernel
theorem dJ3_checkFromToIndex_8c36e_17 : decode cJ3_checkFromToIndex_8c36e 17 = .ok (.iload_n 2, 1) := by decide +kernel
theorem dJ3_checkFromToIndex_8c36e_18 : decode cJ3_checkFromToIndex_8c36e 18 = .ok (.invokestatic 99, 3) := by decide +kernel
theorem dJ3_checkFromToIndex_8c36e_21 : decode cJ3_checkFromToIndex_8c36e 21 = .ok (.athrow, 1) := by decide +kernel
theorem dJ3_checkFromToIndex_8c36e_22 : decode cJ3_checkFromToIndex_8c36e 22 = .ok (.iload_n 0, 1) := by decide +kernel
theorem dJ3_checkFromToIndex_8c36e_23 : decode cJ3_checkFromToIndex_8c36e 23 = .ok (.ireturn, 1) := by decide +kernel
theorem dL_law_0 : decode cL_law 0 = .ok (.new 7, 3) := by decide +kernel
theorem dL_law_3 : decode cL_law 3 = .ok (.dup, 1) := by decide +kernel
theorem dL_law_4 : decode cL_law 4 = .ok (.invokespecial 9, 3) := by decide +kernel
theorem dL_law_7 : decode cL_law 7 = .ok (.astore_n 1, 1) := by decide +kernel
theorem dL_law_8 : decode cL_law 8 = .ok (.new 10, 3) := by decide +kernel
theorem dL_law_11 : decode cL_law 11 = .ok (.dup, 1) := by decide +kernel
theorem dL_law_12 : decode cL_law 12 = .ok (.invokespecial 12, 3) := by decide +kernel
theorem dL_law_15 : decode cL_law 15 = .ok (.astore_n 2, 1) := by decide +kernel
theorem dL_law_16 : decode cL_law 16 = .ok (.iconst 0, 1) := by decide +kernel
theorem dL_law_17 : decode cL_law 17 = .ok (.istore_n 3, 1) := by decide +kernel
theorem dL_law_18 : decode cL_law 18 = .ok (.iload_n 3, 1) := by decide +kernel
theorem dL_law_19 : decode cL_law 19 = .ok (.aload_n 0, 1) := by decide +kernel
theorem dL_law_20 : decode cL_law 20 = .ok (.arraylength, 1) := by decide +kernel
theorem dL_law_21 : decode cL_law 21 = .ok (.iconst 4, 1) := by decide +kernel
theorem dL_law_22 : decode cL_law 22 = .ok (.isub, 1) := by decide +kernel
theorem dL_law_23 : decode cL_law 23 = .ok (.if_icmp .gt 1043, 3) := by decide +kernel
theorem dL_law_26 : decode cL_law 26 = .ok (.aload_n 0, 1) := by decide +kernel
theorem dL_law_27 : decode cL_law 27 = .ok (.iload_n 3, 1) := by decide +kernel
theorem dL_law_28 : decode cL_law 28 = .ok (.iaload, 1) := by decide +kernel
theorem dL_law_29 : decode cL_law 29 = .ok (.bipush 63, 2) := by decide +kernel
theorem dL_law_31 : decode cL_law 31 = .ok (.iand, 1) := by decide +kernel
theorem dL_law_32 : decode cL_law 32 = .ok (.tableswitch 1028 0 35 #[160, 183, 196, 229, 272, 295, 328, 351, 364, 397, 430, 453, 466, 489, 522, 555, 568, 591, 624, 647, 660, 683, 716, 749, 772, 795, 808, 821, 844, 857, 890, 913, 936, 979, 992, 1005], 160) := by decide +kernel
theorem dL_law_192 : decode cL_law 192 = .ok (.aload_n 1, 1) := by decide +kernel
theorem dL_law_193 : decode cL_law 193 = .ok (.aload_n 0, 1) := by decide +kernel
theorem dL_law_194 : decode cL_law 194 = .ok (.iload_n 3, 1) := by decide +kernel
theorem dL_law_195 : decode cL_law 195 = .ok (.iconst 1, 1) := by decide +kernel
theorem dL_law_196 : decode cL_law 196 = .ok (.iadd, 1) := by decide +kernel
theorem dL_law_197 : decode cL_law 197 = .ok (.iaload, 1) := by decide +kernel
theorem dL_law_198 : decode cL_law 198 = .ok (.invokevirtual 13, 3) := by decide +kernel
theorem dL_law_201 : decode cL_law 201 = .ok (.aload_n 2, 1) := by decide +kernel
theorem dL_law_202 : decode cL_law 202 = .ok (.aload_n 0, 1) := by decide +kernel
theorem dL_law_203 : decode cL_law 203 = .ok (.iload_n 3, 1) := by decide +kernel
theorem dL_law_204 : decode cL_law 204 = .ok (.iconst 1, 1) := by decide +kernel
theorem dL_law_205 : decode cL_law 205 = .ok (.iadd, 1) := by decide +kernel
theorem dL_law_206 : decode cL_law 206 = .ok (.iaload, 1) := by decide +kernel
theorem dL_law_207 : decode cL_law 207 = .ok (.invokevirtual 17, 3) := by decide +kernel
theorem dL_law_210 : decode cL_law 210 = .ok (.if_icmp .eq 850, 3) := by decide +kernel
theorem dL_law_213 : decode cL_law 213 = .ok (.iconst 0, 1) := by decide +kernel
theorem dL_law_214 : decode cL_law 214 = .ok (.ireturn, 1) := by decide +kernel
theorem dL_law_215 : decode cL_law 215 = .ok (.aload_n 1, 1) := by decide +kernel
theorem dL_law_216 : decode cL_law 216 = .ok (.invokevirtual 18, 3) := by decide +kernel
theorem dL_law_219 : decode cL_law 219 = .ok (.aload_n 2, 1) := by decide +kernel
theorem dL_law_220 : decode cL_law 220 = .ok (.invokevirtual 22, 3) := by decide +kernel
theorem dL_law_223 : decode cL_law 223 = .ok (.if_icmp .eq 837, 3) := by decide +kernel
theorem dL_law_226 : decode cL_law 226 = .ok (.iconst 0, 1) := by decide +kernel
theorem dL_law_227 : decode cL_law 227 = .ok (.ireturn, 1) := by decide +kernel
theorem dL_law_228 : decode cL_law 228 = .ok (.aload_n 1, 1) := by decide +kernel
theorem dL_law_229 : decode cL_law 229 = .ok (.aload_n 0, 1) := by decide +kernel
theorem dL_law_230 : decode cL_law 230 = .ok (.iload_n 3, 1) := by decide +kernel
theorem dL_law_231 : decode cL_law 231 = .ok (.iconst 1, 1) := by decide +kernel
theorem dL_law_232 : decode cL_law 232 = .ok (.iadd, 1) := by decide +kernel
theorem dL_law_233 : decode cL_law 233 = .ok (.iaload, 1) := by decide +kernel
theorem dL_law_234 : decode cL_law 234 = .ok (.aload_n 0, 1) := by decide +kernel
theorem dL_law_235 : decode cL_law 235 = .ok (.iload_n 3, 1) := by decide +kernel
theorem dL_law_236 : decode cL_law 236 = .ok (.iconst 2, 1) := by decide +kernel
theorem dL_law_237 : decode cL_law 237 = .ok (.iadd, 1) := by decide +kernel
theorem dL_law_238 : decode cL_law 238 = .ok (.iaload, 1) := by decide +kernel
theorem dL_law_239 : decode cL_law 239 = .ok (.invokevirtual 23, 3) := by decide +kernel
theorem dL_law_242 : decode cL_law 242 = .ok (.aload_n 2, 1) := by decide +kernel
theorem dL_law_243 : decode cL_law 243 = .ok (.aload_n 0, 1) := by decide +kernel
theorem dL_law_244 : decode cL_law 244 = .ok (.iload_n 3, 1) := by decide +kernel
theorem dL_law_245 : decode cL_law 245 = .ok (.iconst 1, 1) := by decide +kernel
theorem dL_law_246 : decode cL_law 246 = .ok (.iadd, 1) := by decide +kernel
theorem dL_law_247 : decode cL_law 247 = .ok (.iaload, 1) := by decide +kernel
theorem dL_law_248 : decode cL_law 248 = .ok (.aload_n 0, 1) := by decide +kernel
theorem dL_law_249 : decode cL_law 249 = .ok (.iload_n 3, 1) := by decide +kernel
theorem dL_law_250 : decode cL_law 250 = .ok (.iconst 2, 1) := by decide +kernel
theorem dL_law_251 : decode cL_law 251 = .ok (.iadd, 1) := by decide +kernel
theorem dL_law_252 : decode cL_law 252 = .ok (.iaload, 1) := by decide +kernel
theorem dL_law_253 : decode cL_law 253 = .ok (.invokevirtual 27, 3) := by decide +kernel
theorem dL_law_256 : decode cL_law 256 = .ok (.if_icmp .eq 804, 3) := by decide +kernel
theorem dL_law_259 : decode cL_law 259 = .ok (.iconst 0, 1) := by decide +kernel
theorem dL_law_260 : decode cL_law 260 = .ok (.ireturn, 1) := by decide +kernel
theorem dL_law_261 : decode cL_law 261 = .ok (.aload_n 1, 1) := by decide +kernel
theorem dL_law_262 : decode cL_law 262 = .ok (.aload_n 0, 1) := by decide +kernel
theorem dL_law_263 : decode cL_law 263 = .ok (.iload_n 3, 1) := by decide +kernel
theorem dL_law_264 : decode cL_law 264 = .ok (.iconst 1, 1) := by decide +kernel
theorem dL_law_265 : decode cL_law 265 = .ok (.iadd, 1) := by decide +kernel
theorem dL_law_266 : decode cL_law 266 = .ok (.iaload, 1) := by decide +kernel
theorem dL_law_267 : decode cL_law 267 = .ok (.aload_n 0, 1) := by decide +kernel
theorem dL_law_268 : decode cL_law 268 = .ok (.iload_n 3, 1) := by decide +kernel
theorem dL_law_269 : decode cL_law 269 = .ok (.iconst 2, 1) := by decide +kernel
theorem dL_law_270 : decode cL_law 270 = .ok (.iadd, 1) := by decide +kernel
theorem dL_law_271 : decode cL_law 271 = .ok (.iaload, 1) := by decide +kernel
theorem dL_law_272 : decode cL_law 272 = .ok (.aload_n 0, 1) := by decide +kernel
theorem dL_law_273 : decode cL_law 273 = .ok (.iload_n 3, 1) := by decide +kernel
theorem dL_law_274 : decode cL_law 274 = .ok (.iconst 3, 1) := by decide +kernel
theorem dL_law_275 : decode cL_law 275 = .ok (.iadd, 1) := by decide +kernel
theorem dL_law_276 : decode cL_law 276 = .ok (.iaload, 1) := by decide +kernel
theorem dL_law_277 : decode cL_law 277 = .ok (.invokevirtual 28, 3) := by decide +kernel
theorem dL_law_280 : decode cL_law 280 = .ok (.aload_n 2, 1) := by decide +kernel
theorem dL_law_281 : decode cL_law 281 = .ok (.aload_n 0, 1) := by decide +kernel
theorem dL_law_282 : decode cL_law 282 = .ok (.iload_n 3, 1) := by decide +kernel
theorem dL_law_283 : decode cL_law 283 = .ok (.iconst 1, 1) := by decide +kernel
theorem dL_law_284 : decode cL_law 284 = .ok (.iadd, 1) := by decide +kernel
theorem dL_law_285 : decode cL_law 285 = .ok (.iaload, 1) := by decide +kernel
theorem dL_law_286 : decode cL_law 286 = .ok (.aload_n 0, 1) := by decide +kernel
theorem dL_law_287 : decode cL_law 287 = .ok (.iload_n 3, 1) := by decide +kernel
theorem dL_law_288 : decode cL_law 288 = .ok (.iconst 2, 1) := by decide +kernel
theorem dL_law_289 : decode cL_law 289 = .ok (.iadd, 1) := by decide +kernel
theorem dL_law_290 : decode cL_law 290 = .ok (.iaload, 1) := by decide +kernel
theorem dL_law_291 : decode cL_law 291 = .ok (.aload_n 0, 1) := by decide +kernel
theorem dL_law_292 : decode cL_law 292 = .ok (.iload_n 3, 1) := by decide +kernel
theorem dL_law_293 : decode cL_law 293 = .ok (.iconst 3, 1) := by decide +kernel
theorem dL_law_294 : decode cL_law 294 = .ok (.iadd, 1) := by decide +kernel
theorem dL_law_295 : decode cL_law 295 = .ok (.iaload, 1) := by decide +kernel
theorem dL_law_296 : decode cL_law 296 = .ok (.invokevirtual 32, 3) := by decide +kernel
theorem dL_law_299 : decode cL_law 299 = .ok (.if_icmp .eq 761, 3) := by decide +kernel
theorem dL_law_302 : decode cL_law 302 = .ok (.iconst 0, 1) := by decide +kernel
theorem dL_law_303 : decode cL_law 303 = .ok (.ireturn, 1) := by decide +kernel
theorem dL_law_304 : decode cL_law 304 = .ok (.aload_n 1, 1) := by decide +kernel
theorem dL_law_305 : decode cL_law 305 = .ok (.aload_n 0, 1) := by decide +kernel
theorem dL_law_306 : decode cL_law 306 = .ok (.iload_n 3, 1) := by decide +kernel
theorem dL_law_307 : decode cL_law 307 = .ok (.iconst 1, 1) := by decide +kernel
theorem dL_law_308 : decode cL_law 308 = .ok (.iadd, 1) := by decide +kernel
theorem dL_law_309 : decode cL_law 309 = .ok (.iaload, 1) := by decide +kernel
theorem dL_law_310 : decode cL_law 310 = .ok (.invokevirtual 33, 3) := by decide +kernel
theorem dL_law_313 : decode cL_law 313 = .ok (.aload_n 2, 1) := by decide +kernel
theorem dL_law_314 : decode cL_law 314 = .ok (.aload_n 0, 1) := by decide +kernel
theorem dL_law_315 : decode cL_law 315 = .ok (.iload_n 3, 1) := by decide +kernel
theorem dL_law_316 : decode cL_law 316 = .ok (.iconst 1, 1) := by decide +kernel
theorem dL_law_317 : decode cL_law 317 = .ok (.iadd, 1) := by decide +kernel
theorem dL_law_318 : decode cL_law 318 = .ok (.iaload, 1) := by decide +kernel
theorem dL_law_319 : decode cL_law 319 = .ok (.invokevirtual 36, 3) := by decide +kernel
theorem dL_law_322 : decode cL_law 322 = .ok (.if_icmp .eq 738, 3) := by decide +kernel
theorem dL_law_325 : decode cL_law 325 = .ok (.iconst 0, 1) := by decide +kernel
theorem dL_law_326 : decode cL_law 326 = .ok (.ireturn, 1) := by decide +kernel
theorem dL_law_327 : decode cL_law 327 = .ok (.aload_n 1, 1) := by decide +kernel
theorem dL_law_328 : decode cL_law 328 = .ok (.aload_n 0, 1) := by decide +kernel
theorem dL_law_329 : decode cL_law 329 = .ok (.iload_n 3, 1) := by decide +kernel
theorem dL_law_330 : decode cL_law 330 = .ok (.iconst 1, 1) := by decide +kernel
theorem dL_law_331 : decode cL_law 331 = .ok (.iadd, 1) := by decide +kernel
theorem dL_law_332 : decode cL_law 332 = .ok (.iaload, 1) := by decide +kernel
theorem dL_law_333 : decode cL_law 333 = .ok (.aload_n 0, 1) := by decide +kernel
theorem dL_law_334 : decode cL_law 334 = .ok (.iload_n 3, 1) := by decide +kernel
theorem dL_law_335 : decode cL_law 335 = .ok (.iconst 2, 1) := by decide +kernel
theorem dL_law_336 : decode cL_law 336 = .ok (.iadd, 1) := by decide +kernel
theorem dL_law_337 : decode cL_law 337 = .ok (.iaload, 1) := by decide +kernel
theorem dL_law_338 : decode cL_law 338 = .ok (.invokevirtual 37, 3) := by decide +kernel
theorem dL_law_341 : decode cL_law 341 = .ok (.aload_n 2, 1) := by decide +kernel
theorem dL_law_342 : decode cL_law 342 = .ok (.aload_n 0, 1) := by decide +kernel
theorem dL_law_343 : decode cL_law 343 = .ok (.iload_n 3, 1) := by decide +kernel
theorem dL_law_344 : decode cL_law 344 = .ok (.iconst 1, 1) := by decide +kernel
theorem dL_law_345 : decode cL_law 345 = .ok (.iadd, 1) := by decide +kernel
theorem dL_law_346 : decode cL_law 346 = .ok (.iaload, 1) := by decide +kernel
theorem dL_law_347 : decode cL_law 347 = .ok (.aload_n 0, 1) := by decide +kernel
theorem dL_law_348 : decode cL_law 348 = .ok (.iload_n 3, 1) := by decide +kernel
theorem dL_law_349 : decode cL_law 349 = .ok (.iconst 2, 1) := by decide +kernel
theorem dL_law_350 : decode cL_law 350 = .ok (.iadd, 1) := by decide +kernel
theorem dL_law_351 : decode cL_law 351 = .ok (.iaload, 1) := by decide +kernel
theorem dL_law_352 : decode cL_law 352 = .ok (.invokevirtual 40, 3) := by decide +kernel
theorem dL_law_355 : decode cL_law 355 = .ok (.if_icmp .eq 705, 3) := by decide +kernel
theorem dL_law_358 : decode cL_law 358 = .ok (.iconst 0, 1) := by decide +kernel
theorem dL_law_359 : decode cL_law 359 = .ok (.ireturn, 1) := by decide +kernel
theorem dL_law_360 : decode cL_law 360 = .ok (.aload_n 1, 1) := by decide +kernel
theorem dL_law_361 : decode cL_law 361 = .ok (.aload_n 0, 1) := by decide +kernel
theorem dL_law_362 : decode cL_law 362 = .ok (.iload_n 3, 1) := by decide +kernel
theorem dL_law_363 : decode cL_law 363 = .ok (.iconst 1, 1) := by decide +kernel
theorem dL_law_364 : decode cL_law 364 = .ok (.iadd, 1) := by decide +kernel
theorem dL_law_365 : decode cL_law 365 = .ok (.iaload, 1) := by decide +kernel
theorem dL_law_366 : decode cL_law 366 = .ok (.invokevirtual 41, 3) := by decide +kernel
theorem dL_law_369 : decode cL_law 369 = .ok (.aload_n 2, 1) := by decide +kernel
theorem dL_law_370 : decode cL_law 370 = .ok (.aload_n 0, 1) := by decide +kernel
theorem dL_law_371 : decode cL_law 371 = .ok (.iload_n 3, 1) := by decide +kernel
theorem dL_law_372 : decode cL_law 372 = .ok (.iconst 1, 1) := by decide +kernel
theorem dL_law_373 : decode cL_law 373 = .ok (.iadd, 1) := by decide +kernel
theorem dL_law_374 : decode cL_law 374 = .ok (.iaload, 1) := by decide +kernel
theorem dL_law_375 : decode cL_law 375 = .ok (.invokevirtual 44, 3) := by decide +kernel
theorem dL_law_378 : decode cL_law 378 = .ok (.if_icmp .eq 682, 3) := by decide +kernel
theorem dL_law_381 : decode cL_law 381 = .ok (.iconst 0, 1) := by decide +kernel
theorem dL_law_382 : decode cL_law 382 = .ok (.ireturn, 1) := by decide +kernel
theorem dL_law_383 : decode cL_law 383 = .ok (.aload_n 1, 1) := by decide +kernel
theorem dL_law_384 : decode cL_law 384 = .ok (.invokevirtual 45, 3) := by decide +kernel
theorem dL_law_387 : decode cL_law 387 = .ok (.aload_n 2, 1) := by decide +kernel
theorem dL_law_388 : decode cL_law 388 = .ok (.invokevirtual 48, 3) := by decide +kernel
theorem dL_law_391 : decode cL_law 391 = .ok (.if_icmp .eq 669, 3) := by decide +kernel
theorem dL_law_394 : decode cL_law 394 = .ok (.iconst 0, 1) := by decide +kernel
theorem dL_law_395 : decode cL_law 395 = .ok (.ireturn, 1) := by decide +kernel
theorem dL_law_396 : decode cL_law 396 = .ok (.aload_n 1, 1) := by decide +kernel
theorem dL_law_397 : decode cL_law 397 = .ok (.aload_n 0, 1) := by decide +kernel
theorem dL_law_398 : decode cL_law 398 = .ok (.iload_n 3, 1) := by decide +kernel
theorem dL_law_399 : decode cL_law 399 = .ok (.iconst 1, 1) := by decide +kernel
theorem dL_law_400 : decode cL_law 400 = .ok (.iadd, 1) := by decide +kernel
theorem dL_law_401 : decode cL_law 401 = .ok (.iaload, 1) := by decide +kernel
theorem dL_law_402 : decode cL_law 402 = .ok (.aload_n 0, 1) := by decide +kernel
theorem dL_law_403 : decode cL_law 403 = .ok (.iload_n 3, 1) := by decide +kernel
theorem dL_law_404 : decode cL_law 404 = .ok (.iconst 2, 1) := by decide +kernel
theorem dL_law_405 : decode cL_law 405 = .ok (.iadd, 1) := by decide +kernel
theorem dL_law_406 : decode cL_law 406 = .ok (.iaload, 1) := by decide +kernel
theorem dL_law_407 : decode cL_law 407 = .ok (.invokevirtual 49, 3) := by decide +kernel
theorem dL_law_410 : decode cL_law 410 = .ok (.aload_n 2, 1) := by decide +kernel
theorem dL_law_411 : decode cL_law 411 = .ok (.aload_n 0, 1) := by decide +kernel
theorem dL_law_412 : decode cL_law 412 = .ok (.iload_n 3, 1) := by decide +kernel
theorem dL_law_413 : decode cL_law 413 = .ok (.iconst 1, 1) := by decide +kernel
theorem dL_law_414 : decode cL_law 414 = .ok (.iadd, 1) := by decide +kernel
theorem dL_law_415 : decode cL_law 415 = .ok (.iaload, 1) := by decide +kernel
theorem dL_law_416 : decode cL_law 416 = .ok (.aload_n 0, 1) := by decide +kernel
theorem dL_law_417 : decode cL_law 417 = .ok (.iload_n 3, 1) := by decide +kernel
theorem dL_law_418 : decode cL_law 418 = .ok (.iconst 2, 1) := by decide +kernel
theorem dL_law_419 : decode cL_law 419 = .ok (.iadd, 1) := by decide +kernel
theorem dL_law_420 : decode cL_law 420 = .ok (.iaload, 1) := by decide +kernel
theorem dL_law_421 : decode cL_law 421 = .ok (.invokevirtual 52, 3) := by decide +kernel
theorem dL_law_424 : decode cL_law 424 = .ok (.if_icmp .eq 636, 3) := by decide +kernel
theorem dL_law_427 : decode cL_law 427 = .ok (.iconst 0, 1) := by decide +kernel
theorem dL_law_428 : decode cL_law 428 = .ok (.ireturn, 1) := by decide +kernel
theorem dL_law_429 : decode cL_law 429 = .ok (.aload_n 1, 1) := by decide +kernel
theorem dL_law_430 : decode cL_law 430 = .ok (.aload_n 0, 1) := by decide +kernel
theorem dL_law_431 : decode cL_law 431 = .ok (.iload_n 3, 1) := by decide +kernel
theorem dL_law_432 : decode cL_law 432 = .ok (.iconst 1, 1) := by decide +kernel
theorem dL_law_433 : decode cL_law 433 = .ok (.iadd, 1) := by decide +kernel
theorem dL_law_434 : decode cL_law 434 = .ok (.iaload, 1) := by decide +kernel
theorem dL_law_435 : decode cL_law 435 = .ok (.aload_n 0, 1) := by decide +kernel
theorem dL_law_436 : decode cL_law 436 = .ok (.iload_n 3, 1) := by decide +kernel
theorem dL_law_437 : decode cL_law 437 = .ok (.iconst 2, 1) := by decide +kernel
theorem dL_law_438 : decode cL_law 438 = .ok (.iadd, 1) := by decide +kernel
theorem dL_law_439 : decode cL_law 439 = .ok (.iaload, 1) := by decide +kernel
theorem dL_law_440 : decode cL_law 440 = .ok (.invokevirtual 53, 3) := by decide +kernel
theorem dL_law_443 : decode cL_law 443 = .ok (.aload_n 2, 1) := by decide +kernel
theorem dL_law_444 : decode cL_law 444 = .ok (.aload_n 0, 1) := by decide +kernel
theorem dL_law_445 : decode cL_law 445 = .ok (.iload_n 3, 1) := by decide +kernel
theorem dL_law_446 : decode cL_law 446 = .ok (.iconst 1, 1) := by decide +kernel
theorem dL_law_447 : decode cL_law 447 = .ok (.iadd, 1) := by decide +kernel
theorem dL_law_448 : decode cL_law 448 = .ok (.iaload, 1) := by decide +kernel
theorem dL_law_449 : decode cL_law 449 = .ok (.aload_n 0, 1) := by decide +kernel
theorem dL_law_450 : decode cL_law 450 = .ok (.iload_n 3, 1) := by decide +kernel
theorem dL_law_451 : decode cL_law 451 = .ok (.iconst 2, 1) := by decide +kernel
theorem dL_law_452 : decode cL_law 452 = .ok (.iadd, 1) := by decide +kernel
theorem dL_law_453 : decode cL_law 453 = .ok (.iaload, 1) := by decide +kernel
theorem dL_law_454 : decode cL_law 454 = .ok (.invokevirtual 56, 3) := by decide +kernel
theorem dL_law_457 : decode cL_law 457 = .ok (.if_icmp .eq 603, 3) := by decide +kernel
theorem dL_law_460 : decode cL_law 460 = .ok (.iconst 0, 1) := by decide +kernel
theorem dL_law_461 : decode cL_law 461 = .ok (.ireturn, 1) := by decide +kernel
theorem dL_law_462 : decode cL_law 462 = .ok (.aload_n 1, 1) := by decide +kernel
theorem dL_law_463 : decode cL_law 463 = .ok (.aload_n 0, 1) := by decide +kernel
theorem dL_law_464 : decode cL_law 464 = .ok (.iload_n 3, 1) := by decide +kernel
theorem dL_law_465 : decode cL_law 465 = .ok (.iconst 1, 1) := by decide +kernel
theorem dL_law_466 : decode cL_law 466 = .ok (.iadd, 1) := by decide +kernel
theorem dL_law_467 : decode cL_law 467 = .ok (.iaload, 1) := by decide +kernel
theorem dL_law_468 : decode cL_law 468 = .ok (.invokevirtual 57, 3) := by decide +kernel
theorem dL_law_471 : decode cL_law 471 = .ok (.aload_n 2, 1) := by decide +kernel
theorem dL_law_472 : decode cL_law 472 = .ok (.aload_n 0, 1) := by decide +kernel
theorem dL_law_473 : decode cL_law 473 = .ok (.iload_n 3, 1) := by decide +kernel
theorem dL_law_474 : decode cL_law 474 = .ok (.iconst 1, 1) := by decide +kernel
theorem dL_law_475 : decode cL_law 475 = .ok (.iadd, 1) := by decide +kernel
theorem dL_law_476 : decode cL_law 476 = .ok (.iaload, 1) := by decide +kernel
theorem dL_law_477 : decode cL_law 477 = .ok (.invokevirtual 60, 3) := by decide +kernel
theorem dL_law_480 : decode cL_law 480 = .ok (.if_icmp .eq 580, 3) := by decide +kernel
theorem dL_law_483 : decode cL_law 483 = .ok (.iconst 0, 1) := by decide +kernel
theorem dL_law_484 : decode cL_law 484 = .ok (.ireturn, 1) := by decide +kernel
theorem dL_law_485 : decode cL_law 485 = .ok (.aload_n 1, 1) := by decide +kernel
theorem dL_law_486 : decode cL_law 486 = .ok (.invokevirtual 61, 3) := by decide +kernel
theorem dL_law_489 : decode cL_law 489 = .ok (.aload_n 2, 1) := by decide +kernel
theorem dL_law_490 : decode cL_law 490 = .ok (.invokevirtual 64, 3) := by decide +kernel
theorem dL_law_493 : decode cL_law 493 = .ok (.if_icmp .eq 567, 3) := by decide +kernel
theorem dL_law_496 : decode cL_law 496 = .ok (.iconst 0, 1) := by decide +kernel
theorem dL_law_497 : decode cL_law 497 = .ok (.ireturn, 1) := by decide +kernel
theorem dL_law_498 : decode cL_law 498 = .ok (.aload_n 1, 1) := by decide +kernel
theorem dL_law_499 : decode cL_law 499 = .ok (.aload_n 0, 1) := by decide +kernel
theorem dL_law_500 : decode cL_law 500 = .ok (.iload_n 3, 1) := by decide +kernel
theorem dL_law_501 : decode cL_law 501 = .ok (.iconst 1, 1) := by decide +kernel
theorem dL_law_502 : decode cL_law 502 = .ok (.iadd, 1) := by decide +kernel
theorem dL_law_503 : decode cL_law 503 = .ok (.iaload, 1) := by decide +kernel
theorem dL_law_504 : decode cL_law 504 = .ok (.invokevirtual 65, 3) := by decide +kernel
theorem dL_law_507 : decode cL_law 507 = .ok (.aload_n 2, 1) := by decide +kernel
theorem dL_law_508 : decode cL_law 508 = .ok (.aload_n 0, 1) := by decide +kernel
theorem dL_law_509 : decode cL_law 509 = .ok (.iload_n 3, 1) := by decide +kernel
theorem dL_law_510 : decode cL_law 510 = .ok (.iconst 1, 1) := by decide +kernel
theorem dL_law_511 : decode cL_law 511 = .ok (.iadd, 1) := by decide +kernel
theorem dL_law_512 : decode cL_law 512 = .ok (.iaload, 1) := by decide +kernel
theorem dL_law_513 : decode cL_law 513 = .ok (.invokevirtual 68, 3) := by decide +kernel
theorem dL_law_516 : decode cL_law 516 = .ok (.if_icmp .eq 544, 3) := by decide +kernel
theorem dL_law_519 : decode cL_law 519 = .ok (.iconst 0, 1) := by decide +kernel
theorem dL_law_520 : decode cL_law 520 = .ok (.ireturn, 1) := by decide +kernel
theorem dL_law_521 : decode cL_law 521 = .ok (.aload_n 1, 1) := by decide +kernel
theorem dL_law_522 : decode cL_law 522 = .ok (.aload_n 0, 1) := by decide +kernel
theorem dL_law_523 : decode cL_law 523 = .ok (.iload_n 3, 1) := by decide +kernel
theorem dL_law_524 : decode cL_law 524 = .ok (.iconst 1, 1) := by decide +kernel
theorem dL_law_525 : decode cL_law 525 = .ok (.iadd, 1) := by decide +kernel
theorem dL_law_526 : decode cL_law 526 = .ok (.iaload, 1) := by decide +kernel
theorem dL_law_527 : decode cL_law 527 = .ok (.aload_n 0, 1) := by decide +kernel
theorem dL_law_528 : decode cL_law 528 = .ok (.iload_n 3, 1) := by decide +kernel
theorem dL_law_529 : decode cL_law 529 = .ok (.iconst 2, 1) := by decide +kernel
theorem dL_law_530 : decode cL_law 530 = .ok (.iadd, 1) := by decide +kernel
theorem dL_law_531 : decode cL_law 531 = .ok (.iaload, 1) := by decide +kernel
theorem dL_law_532 : decode cL_law 532 = .ok (.invokevirtual 69, 3) := by decide +kernel
theorem dL_law_535 : decode cL_law 535 = .ok (.aload_n 2, 1) := by decide +kernel
theorem dL_law_536 : decode cL_law 536 = .ok (.aload_n 0, 1) := by decide +kernel
theorem dL_law_537 : decode cL_law 537 = .ok (.iload_n 3, 1) := by decide +kernel
theorem dL_law_538 : decode cL_law 538 = .ok (.iconst 1, 1) := by decide +kernel
theorem dL_law_539 : decode cL_law 539 = .ok (.iadd, 1) := by decide +kernel
theorem dL_law_540 : decode cL_law 540 = .ok (.iaload, 1) := by decide +kernel
theorem dL_law_541 : decode cL_law 541 = .ok (.aload_n 0, 1) := by decide +kernel
theorem dL_law_542 : decode cL_law 542 = .ok (.iload_n 3, 1) := by decide +kernel
theorem dL_law_543 : decode cL_law 543 = .ok (.iconst 2, 1) := by decide +kernel
theorem dL_law_544 : decode cL_law 544 = .ok (.iadd, 1) := by decide +kernel
theorem dL_law_545 : decode cL_law 545 = .ok (.iaload, 1) := by decide +kernel
theorem dL_law_546 : decode cL_law 546 = .ok (.invokevirtual 72, 3) := by decide +kernel
theorem dL_law_549 : decode cL_law 549 = .ok (.if_icmp .eq 511, 3) := by decide +kernel
theorem dL_law_552 : decode cL_law 552 = .ok (.iconst 0, 1) := by decide +kernel
theorem dL_law_553 : decode cL_law 553 = .ok (.ireturn, 1) := by decide +kernel
theorem dL_law_554 : decode cL_law 554 = .ok (.aload_n 1, 1) := by decide +kernel
theorem dL_law_555 : decode cL_law 555 = .ok (.aload_n 0, 1) := by decide +kernel
theorem dL_law_556 : decode cL_law 556 = .ok (.iload_n 3, 1) := by decide +kernel
theorem dL_law_557 : decode cL_law 557 = .ok (.iconst 1, 1) := by decide +kernel
theorem dL_law_558 : decode cL_law 558 = .ok (.iadd, 1) := by decide +kernel
theorem dL_law_559 : decode cL_law 559 = .ok (.iaload, 1) := by decide +kernel
theorem dL_law_560 : decode cL_law 560 = .ok (.aload_n 0, 1) := by decide +kernel
theorem dL_law_561 : decode cL_law 561 = .ok (.iload_n 3, 1) := by decide +kernel
theorem dL_law_562 : decode cL_law 562 = .ok (.iconst 2, 1) := by decide +kernel
theorem dL_law_563 : decode cL_law 563 = .ok (.iadd, 1) := by decide +kernel
theorem dL_law_564 : decode cL_law 564 = .ok (.iaload, 1) := by decide +kernel
theorem dL_law_565 : decode cL_law 565 = .ok (.invokevirtual 73, 3) := by decide +kernel
theorem dL_law_568 : decode cL_law 568 = .ok (.aload_n 2, 1) := by decide +kernel
theorem dL_law_569 : decode cL_law 569 = .ok (.aload_n 0, 1) := by decide +kernel
theorem dL_law_570 : decode cL_law 570 = .ok (.iload_n 3, 1) := by decide +kernel
theorem dL_law_571 : decode cL_law 571 = .ok (.iconst 1, 1) := by decide +kernel
theorem dL_law_572 : decode cL_law 572 = .ok (.iadd, 1) := by decide +kernel
theorem dL_law_573 : decode cL_law 573 = .ok (.iaload, 1) := by decide +kernel
theorem dL_law_574 : decode cL_law 574 = .ok (.aload_n 0, 1) := by decide +kernel
theorem dL_law_575 : decode cL_law 575 = .ok (.iload_n 3, 1) := by decide +kernel
theorem dL_law_576 : decode cL_law 576 = .ok (.iconst 2, 1) := by decide +kernel
theorem dL_law_577 : decode cL_law 577 = .ok (.iadd, 1) := by decide +kernel
theorem dL_law_578 : decode cL_law 578 = .ok (.iaload, 1) := by decide +kernel
theorem dL_law_579 : decode cL_law 579 = .ok (.invokevirtual 76, 3) := by decide +kernel
theorem dL_law_582 : decode cL_law 582 = .ok (.if_icmp .eq 478, 3) := by decide +kernel
theorem dL_law_585 : decode cL_law 585 = .ok (.iconst 0, 1) := by decide +kernel
theorem dL_law_586 : decode cL_law 586 = .ok (.ireturn, 1) := by decide +kernel
theorem dL_law_587 : decode cL_law 587 = .ok (.aload_n 1, 1) := by decide +kernel
theorem dL_law_588 : decode cL_law 588 = .ok (.invokevirtual 77, 3) := by decide +kernel
theorem dL_law_591 : decode cL_law 591 = .ok (.aload_n 2, 1) := by decide +kernel
theorem dL_law_592 : decode cL_law 592 = .ok (.invokevirtual 80, 3) := by decide +kernel
theorem dL_law_595 : decode cL_law 595 = .ok (.if_icmp .eq 465, 3) := by decide +kernel
theorem dL_law_598 : decode cL_law 598 = .ok (.iconst 0, 1) := by decide +kernel
theorem dL_law_599 : decode cL_law 599 = .ok (.ireturn, 1) := by decide +kernel
theorem dL_law_600 : decode cL_law 600 = .ok (.aload_n 1, 1) := by decide +kernel
theorem dL_law_601 : decode cL_law 601 = .ok (.aload_n 0, 1) := by decide +kernel
theorem dL_law_602 : decode cL_law 602 = .ok (.iload_n 3, 1) := by decide +kernel
theorem dL_law_603 : decode cL_law 603 = .ok (.iconst 1, 1) := by decide +kernel
theorem dL_law_604 : decode cL_law 604 = .ok (.iadd, 1) := by decide +kernel
theorem dL_law_605 : decode cL_law 605 = .ok (.iaload, 1) := by decide +kernel
theorem dL_law_606 : decode cL_law 606 = .ok (.invokevirtual 81, 3) := by decide +kernel
theorem dL_law_609 : decode cL_law 609 = .ok (.aload_n 2, 1) := by decide +kernel
theorem dL_law_610 : decode cL_law 610 = .ok (.aload_n 0, 1) := by decide +kernel
theorem dL_law_611 : decode cL_law 611 = .ok (.iload_n 3, 1) := by decide +kernel
theorem dL_law_612 : decode cL_law 612 = .ok (.iconst 1, 1) := by decide +kernel
theorem dL_law_613 : decode cL_law 613 = .ok (.iadd, 1) := by decide +kernel
theorem dL_law_614 : decode cL_law 614 = .ok (.iaload, 1) := by decide +kernel
theorem dL_law_615 : decode cL_law 615 = .ok (.invokevirtual 84, 3) := by decide +kernel
theorem dL_law_618 : decode cL_law 618 = .ok (.if_icmp .eq 442, 3) := by decide +kernel
theorem dL_law_621 : decode cL_law 621 = .ok (.iconst 0, 1) := by decide +kernel
theorem dL_law_622 : decode cL_law 622 = .ok (.ireturn, 1) := by decide +kernel
theorem dL_law_623 : decode cL_law 623 = .ok (.aload_n 1, 1) := by decide +kernel
theorem dL_law_624 : decode cL_law 624 = .ok (.aload_n 0, 1) := by decide +kernel
theorem dL_law_625 : decode cL_law 625 = .ok (.iload_n 3, 1) := by decide +kernel
theorem dL_law_626 : decode cL_law 626 = .ok (.iconst 1, 1) := by decide +kernel
theorem dL_law_627 : decode cL_law 627 = .ok (.iadd, 1) := by decide +kernel
theorem dL_law_628 : decode cL_law 628 = .ok (.iaload, 1) := by decide +kernel
theorem dL_law_629 : decode cL_law 629 = .ok (.aload_n 0, 1) := by decide +kernel
theorem dL_law_630 : decode cL_law 630 = .ok (.iload_n 3, 1) := by decide +kernel
theorem dL_law_631 : decode cL_law 631 = .ok (.iconst 2, 1) := by decide +kernel
theorem dL_law_632 : decode cL_law 632 = .ok (.iadd, 1) := by decide +kernel
theorem dL_law_633 : decode cL_law 633 = .ok (.iaload, 1) := by decide +kernel
theorem dL_law_634 : decode cL_law 634 = .ok (.invokevirtual 85, 3) := by decide +kernel
theorem dL_law_637 : decode cL_law 637 = .ok (.aload_n 2, 1) := by decide +kernel
theorem dL_law_638 : decode cL_law 638 = .ok (.aload_n 0, 1) := by decide +kernel
theorem dL_law_639 : decode cL_law 639 = .ok (.iload_n 3, 1) := by decide +kernel
theorem dL_law_640 : decode cL_law 640 = .ok (.iconst 1, 1) := by decide +kernel
theorem dL_law_641 : decode cL_law 641 = .ok (.iadd, 1) := by decide +kernel
theorem dL_law_642 : decode cL_law 642 = .ok (.iaload, 1) := by decide +kernel
theorem dL_law_643 : decode cL_law 643 = .ok (.aload_n 0, 1) := by decide +kernel
theorem dL_law_644 : decode cL_law 644 = .ok (.iload_n 3, 1) := by decide +kernel
theorem dL_law_645 : decode cL_law 645 = .ok (.iconst 2, 1) := by decide +kernel
theorem dL_law_646 : decode cL_law 646 = .ok (.iadd, 1) := by decide +kernel
theorem dL_law_647 : decode cL_law 647 = .ok (.iaload, 1) := by decide +kernel
theorem dL_law_648 : decode cL_law 648 = .ok (.invokevirtual 88, 3) := by decide +kernel
theorem dL_law_651 : decode cL_law 651 = .ok (.if_icmp .eq 409, 3) := by decide +kernel
theorem dL_law_654 : decode cL_law 654 = .ok (.iconst 0, 1) := by decide +kernel
theorem dL_law_655 : decode cL_law 655 = .ok (.ireturn, 1) := by decide +kernel
theorem dL_law_656 : decode cL_law 656 = .ok (.aload_n 1, 1) := by decide +kernel
theorem dL_law_657 : decode cL_law 657 = .ok (.aload_n 0, 1) := by decide +kernel
theorem dL_law_658 : decode cL_law 658 = .ok (.iload_n 3, 1) := by decide +kernel
theorem dL_law_659 : decode cL_law 659 = .ok (.iconst 1, 1) := by decide +kernel
theorem dL_law_660 : decode cL_law 660 = .ok (.iadd, 1) := by decide +kernel
theorem dL_law_661 : decode cL_law 661 = .ok (.iaload, 1) := by decide +kernel
theorem dL_law_662 : decode cL_law 662 = .ok (.invokevirtual 89, 3) := by decide +kernel
theorem dL_law_665 : decode cL_law 665 = .ok (.aload_n 2, 1) := by decide +kernel
theorem dL_law_666 : decode cL_law 666 = .ok (.aload_n 0, 1) := by decide +kernel
theorem dL_law_667 : decode cL_law 667 = .ok (.iload_n 3, 1) := by decide +kernel
theorem dL_law_668 : decode cL_law 668 = .ok (.iconst 1, 1) := by decide +kernel
theorem dL_law_669 : decode cL_law 669 = .ok (.iadd, 1) := by decide +kernel
theorem dL_law_670 : decode cL_law 670 = .ok (.iaload, 1) := by decide +kernel
theorem dL_law_671 : decode cL_law 671 = .ok (.invokevirtual 92, 3) := by decide +kernel
theorem dL_law_674 : decode cL_law 674 = .ok (.if_icmp .eq 386, 3) := by decide +kernel
theorem dL_law_677 : decode cL_law 677 = .ok (.iconst 0, 1) := by decide +kernel
theorem dL_law_678 : decode cL_law 678 = .ok (.ireturn, 1) := by decide +kernel
theorem dL_law_679 : decode cL_law 679 = .ok (.aload_n 1, 1) := by decide +kernel
theorem dL_law_680 : decode cL_law 680 = .ok (.invokevirtual 93, 3) := by decide +kernel
theorem dL_law_683 : decode cL_law 683 = .ok (.aload_n 2, 1) := by decide +kernel
theorem dL_law_684 : decode cL_law 684 = .ok (.invokevirtual 96, 3) := by decide +kernel
theorem dL_law_687 : decode cL_law 687 = .ok (.if_icmp .eq 373, 3) := by decide +kernel
theorem dL_law_690 : decode cL_law 690 = .ok (.iconst 0, 1) := by decide +kernel
theorem dL_law_691 : decode cL_law 691 = .ok (.ireturn, 1) := by decide +kernel
theorem dL_law_692 : decode cL_law 692 = .ok (.aload_n 1, 1) := by decide +kernel
theorem dL_law_693 : decode cL_law 693 = .ok (.aload_n 0, 1) := by decide +kernel
theorem dL_law_694 : decode cL_law 694 = .ok (.iload_n 3, 1) := by decide +kernel
theorem dL_law_695 : decode cL_law 695 = .ok (.iconst 1, 1) := by decide +kernel
theorem dL_law_696 : decode cL_law 696 = .ok (.iadd, 1) := by decide +kernel
theorem dL_law_697 : decode cL_law 697 = .ok (.iaload, 1) := by decide +kernel
theorem dL_law_698 : decode cL_law 698 = .ok (.invokevirtual 97, 3) := by decide +kernel
theorem dL_law_701 : decode cL_law 701 = .ok (.aload_n 2, 1) := by decide +kernel
theorem dL_law_702 : decode cL_law 702 = .ok (.aload_n 0, 1) := by decide +kernel
theorem dL_law_703 : decode cL_law 703 = .ok (.iload_n 3, 1) := by decide +kernel
theorem dL_law_704 : decode cL_law 704 = .ok (.iconst 1, 1) := by decide +kernel
theorem dL_law_705 : decode cL_law 705 = .ok (.iadd, 1) := by decide +kernel
theorem dL_law_706 : decode cL_law 706 = .ok (.iaload, 1) := by decide +kernel
theorem dL_law_707 : decode cL_law 707 = .ok (.invokevirtual 100, 3) := by decide +kernel
theorem dL_law_710 : decode cL_law 710 = .ok (.if_icmp .eq 350, 3) := by decide +kernel
theorem dL_law_713 : decode cL_law 713 = .ok (.iconst 0, 1) := by decide +kernel
theorem dL_law_714 : decode cL_law 714 = .ok (.ireturn, 1) := by decide +kernel
theorem dL_law_715 : decode cL_law 715 = .ok (.aload_n 1, 1) := by decide +kernel
theorem dL_law_716 : decode cL_law 716 = .ok (.aload_n 0, 1) := by decide +kernel
theorem dL_law_717 : decode cL_law 717 = .ok (.iload_n 3, 1) := by decide +kernel
theorem dL_law_718 : decode cL_law 718 = .ok (.iconst 1, 1) := by decide +kernel
theorem dL_law_719 : decode cL_law 719 = .ok (.iadd, 1) := by decide +kernel
theorem dL_law_720 : decode cL_law 720 = .ok (.iaload, 1) := by decide +kernel
theorem dL_law_721 : decode cL_law 721 = .ok (.aload_n 0, 1) := by decide +kernel
theorem dL_law_722 : decode cL_law 722 = .ok (.iload_n 3, 1) := by decide +kernel
theorem dL_law_723 : decode cL_law 723 = .ok (.iconst 2, 1) := by decide +kernel
theorem dL_law_724 : decode cL_law 724 = .ok (.iadd, 1) := by decide +kernel
theorem dL_law_725 : decode cL_law 725 = .ok (.iaload, 1) := by decide +kernel
theorem dL_law_726 : decode cL_law 726 = .ok (.invokevirtual 101, 3) := by decide +kernel
theorem dL_law_729 : decode cL_law 729 = .ok (.aload_n 2, 1) := by decide +kernel
theorem dL_law_730 : decode cL_law 730 = .ok (.aload_n 0, 1) := by decide +kernel
theorem dL_law_731 : decode cL_law 731 = .ok (.iload_n 3, 1) := by decide +kernel
theorem dL_law_732 : decode cL_law 732 = .ok (.iconst 1, 1) := by decide +kernel
theorem dL_law_733 : decode cL_law 733 = .ok (.iadd, 1) := by decide +kernel
theorem dL_law_734 : decode cL_law 734 = .ok (.iaload, 1) := by decide +kernel
theorem dL_law_735 : decode cL_law 735 = .ok (.aload_n 0, 1) := by decide +kernel
theorem dL_law_736 : decode cL_law 736 = .ok (.iload_n 3, 1) := by decide +kernel
theorem dL_law_737 : decode cL_law 737 = .ok (.iconst 2, 1) := by decide +kernel
theorem dL_law_738 : decode cL_law 738 = .ok (.iadd, 1) := by decide +kernel
theorem dL_law_739 : decode cL_law 739 = .ok (.iaload, 1) := by decide +kernel
theorem dL_law_740 : decode cL_law 740 = .ok (.invokevirtual 104, 3) := by decide +kernel
theorem dL_law_743 : decode cL_law 743 = .ok (.if_icmp .eq 317, 3) := by decide +kernel
theorem dL_law_746 : decode cL_law 746 = .ok (.iconst 0, 1) := by decide +kernel
theorem dL_law_747 : decode cL_law 747 = .ok (.ireturn, 1) := by decide +kernel
theorem dL_law_748 : decode cL_law 748 = .ok (.aload_n 1, 1) := by decide +kernel
theorem dL_law_749 : decode cL_law 749 = .ok (.aload_n 0, 1) := by decide +kernel
theorem dL_law_750 : decode cL_law 750 = .ok (.iload_n 3, 1) := by decide +kernel
theorem dL_law_751 : decode cL_law 751 = .ok (.iconst 1, 1) := by decide +kernel
theorem dL_law_752 : decode cL_law 752 = .ok (.iadd, 1) := by decide +kernel
theorem dL_law_753 : decode cL_law 753 = .ok (.iaload, 1) := by decide +kernel
theorem dL_law_754 : decode cL_law 754 = .ok (.aload_n 0, 1) := by decide +kernel
theorem dL_law_755 : decode cL_law 755 = .ok (.iload_n 3, 1) := by decide +kernel
theorem dL_law_756 : decode cL_law 756 = .ok (.iconst 2, 1) := by decide +kernel
theorem dL_law_757 : decode cL_law 757 = .ok (.iadd, 1) := by decide +kernel
theorem dL_law_758 : decode cL_law 758 = .ok (.iaload, 1) := by decide +kernel
theorem dL_law_759 : decode cL_law 759 = .ok (.invokevirtual 105, 3) := by decide +kernel
theorem dL_law_762 : decode cL_law 762 = .ok (.aload_n 2, 1) := by decide +kernel
theorem dL_law_763 : decode cL_law 763 = .ok (.aload_n 0, 1) := by decide +kernel
theorem dL_law_764 : decode cL_law 764 = .ok (.iload_n 3, 1) := by decide +kernel
theorem dL_law_765 : decode cL_law 765 = .ok (.iconst 1, 1) := by decide +kernel
theorem dL_law_766 : decode cL_law 766 = .ok (.iadd, 1) := by decide +kernel
theorem dL_law_767 : decode cL_law 767 = .ok (.iaload, 1) := by decide +kernel
theorem dL_law_768 : decode cL_law 768 = .ok (.aload_n 0, 1) := by decide +kernel
theorem dL_law_769 : decode cL_law 769 = .ok (.iload_n 3, 1) := by decide +kernel
theorem dL_law_770 : decode cL_law 770 = .ok (.iconst 2, 1) := by decide +kernel
theorem dL_law_771 : decode cL_law 771 = .ok (.iadd, 1) := by decide +kernel
theorem dL_law_772 : decode cL_law 772 = .ok (.iaload, 1) := by decide +kernel
theorem dL_law_773 : decode cL_law 773 = .ok (.invokevirtual 108, 3) := by decide +kernel
theorem dL_law_776 : decode cL_law 776 = .ok (.if_icmp .eq 284, 3) := by decide +kernel
theorem dL_law_779 : decode cL_law 779 = .ok (.iconst 0, 1) := by decide +kernel
theorem dL_law_780 : decode cL_law 780 = .ok (.ireturn, 1) := by decide +kernel
theorem dL_law_781 : decode cL_law 781 = .ok (.aload_n 1, 1) := by decide +kernel
theorem dL_law_782 : decode cL_law 782 = .ok (.aload_n 0, 1) := by decide +kernel
theorem dL_law_783 : decode cL_law 783 = .ok (.iload_n 3, 1) := by decide +kernel
theorem dL_law_784 : decode cL_law 784 = .ok (.iconst 1, 1) := by decide +kernel
theorem dL_law_785 : decode cL_law 785 = .ok (.iadd, 1) := by decide +kernel
theorem dL_law_786 : decode cL_law 786 = .ok (.iaload, 1) := by decide +kernel
theorem dL_law_787 : decode cL_law 787 = .ok (.invokevirtual 109, 3) := by decide +kernel
theorem dL_law_790 : decode cL_law 790 = .ok (.aload_n 2, 1) := by decide +kernel
theorem dL_law_791 : decode cL_law 791 = .ok (.aload_n 0, 1) := by decide +kernel
theorem dL_law_792 : decode cL_law 792 = .ok (.iload_n 3, 1) := by decide +kernel
theorem dL_law_793 : decode cL_law 793 = .ok (.iconst 1, 1) := by decide +kernel
theorem dL_law_794 : decode cL_law 794 = .ok (.iadd, 1) := by decide +kernel
theorem dL_law_795 : decode cL_law 795 = .ok (.iaload, 1) := by decide +kernel
theorem dL_law_796 : decode cL_law 796 = .ok (.invokevirtual 112, 3) := by decide +kernel
theorem dL_law_799 : decode cL_law 799 = .ok (.if_icmp .eq 261, 3) := by decide +kernel
theorem dL_law_802 : decode cL_law 802 = .ok (.iconst 0, 1) := by decide +kernel
theorem dL_law_803 : decode cL_law 803 = .ok (.ireturn, 1) := by decide +kernel
theorem dL_law_804 : decode cL_law 804 = .ok (.aload_n 1, 1) := by decide +kernel
theorem dL_law_805 : decode cL_law 805 = .ok (.aload_n 0, 1) := by decide +kernel
theorem dL_law_806 : decode cL_law 806 = .ok (.iload_n 3, 1) := by decide +kernel
theorem dL_law_807 : decode cL_law 807 = .ok (.iconst 1, 1) := by decide +kernel
theorem dL_law_808 : decode cL_law 808 = .ok (.iadd, 1) := by decide +kernel
theorem dL_law_809 : decode cL_law 809 = .ok (.iaload, 1) := by decide +kernel
theorem dL_law_810 : decode cL_law 810 = .ok (.invokevirtual 113, 3) := by decide +kernel
theorem dL_law_813 : decode cL_law 813 = .ok (.aload_n 2, 1) := by decide +kernel
theorem dL_law_814 : decode cL_law 814 = .ok (.aload_n 0, 1) := by decide +kernel
theorem dL_law_815 : decode cL_law 815 = .ok (.iload_n 3, 1) := by decide +kernel
theorem dL_law_816 : decode cL_law 816 = .ok (.iconst 1, 1) := by decide +kernel
theorem dL_law_817 : decode cL_law 817 = .ok (.iadd, 1) := by decide +kernel
theorem dL_law_818 : decode cL_law 818 = .ok (.iaload, 1) := by decide +kernel
theorem dL_law_819 : decode cL_law 819 = .ok (.invokevirtual 116, 3) := by decide +kernel
theorem dL_law_822 : decode cL_law 822 = .ok (.if_icmp .eq 238, 3) := by decide +kernel
theorem dL_law_825 : decode cL_law 825 = .ok (.iconst 0, 1) := by decide +kernel
theorem dL_law_826 : decode cL_law 826 = .ok (.ireturn, 1) := by decide +kernel
theorem dL_law_827 : decode cL_law 827 = .ok (.aload_n 1, 1) := by decide +kernel
theorem dL_law_828 : decode cL_law 828 = .ok (.invokevirtual 117, 3) := by decide +kernel
theorem dL_law_831 : decode cL_law 831 = .ok (.aload_n 2, 1) := by decide +kernel
theorem dL_law_832 : decode cL_law 832 = .ok (.invokevirtual 120, 3) := by decide +kernel
theorem dL_law_835 : decode cL_law 835 = .ok (.if_icmp .eq 225, 3) := by decide +kernel
theorem dL_law_838 : decode cL_law 838 = .ok (.iconst 0, 1) := by decide +kernel
theorem dL_law_839 : decode cL_law 839 = .ok (.ireturn, 1) := by decide +kernel
theorem dL_law_840 : decode cL_law 840 = .ok (.aload_n 1, 1) := by decide +kernel
theorem dL_law_841 : decode cL_law 841 = .ok (.invokevirtual 121, 3) := by decide +kernel
theorem dL_law_844 : decode cL_law 844 = .ok (.aload_n 2, 1) := by decide +kernel
theorem dL_law_845 : decode cL_law 845 = .ok (.invokevirtual 124, 3) := by decide +kernel
theorem dL_law_848 : decode cL_law 848 = .ok (.if_icmp .eq 212, 3) := by decide +kernel
theorem dL_law_851 : decode cL_law 851 = .ok (.iconst 0, 1) := by decide +kernel
theorem dL_law_852 : decode cL_law 852 = .ok (.ireturn, 1) := by decide +kernel
theorem dL_law_853 : decode cL_law 853 = .ok (.aload_n 1, 1) := by decide +kernel
theorem dL_law_854 : decode cL_law 854 = .ok (.aload_n 0, 1) := by decide +kernel
theorem dL_law_855 : decode cL_law 855 = .ok (.iload_n 3, 1) := by decide +kernel
theorem dL_law_856 : decode cL_law 856 = .ok (.iconst 1, 1) := by decide +kernel
theorem dL_law_857 : decode cL_law 857 = .ok (.iadd, 1) := by decide +kernel
theorem dL_law_858 : decode cL_law 858 = .ok (.iaload, 1) := by decide +kernel
theorem dL_law_859 : decode cL_law 859 = .ok (.invokevirtual 125, 3) := by decide +kernel
theorem dL_law_862 : decode cL_law 862 = .ok (.aload_n 2, 1) := by decide +kernel
theorem dL_law_863 : decode cL_law 863 = .ok (.aload_n 0, 1) := by decide +kernel
theorem dL_law_864 : decode cL_law 864 = .ok (.iload_n 3, 1) := by decide +kernel
theorem dL_law_865 : decode cL_law 865 = .ok (.iconst 1, 1) := by decide +kernel
theorem dL_law_866 : decode cL_law 866 = .ok (.iadd, 1) := by decide +kernel
theorem dL_law_867 : decode cL_law 867 = .ok (.iaload, 1) := by decide +kernel
theorem dL_law_868 : decode cL_law 868 = .ok (.invokevirtual 128, 3) := by decide +kernel
theorem dL_law_871 : decode cL_law 871 = .ok (.if_icmp .eq 189, 3) := by decide +kernel
theorem dL_law_874 : decode cL_law 874 = .ok (.iconst 0, 1) := by decide +kernel
theorem dL_law_875 : decode cL_law 875 = .ok (.ireturn, 1) := by decide +kernel
theorem dL_law_876 : decode cL_law 876 = .ok (.aload_n 1, 1) := by decide +kernel
theorem dL_law_877 : decode cL_law 877 = .ok (.invokevirtual 129, 3) := by decide +kernel
theorem dL_law_880 : decode cL_law 880 = .ok (.aload_n 2, 1) := by decide +kernel
theorem dL_law_881 : decode cL_law 881 = .ok (.invokevirtual 132, 3) := by decide +kernel
theorem dL_law_884 : decode cL_law 884 = .ok (.if_icmp .eq 176, 3) := by decide +kernel
theorem dL_law_887 : decode cL_law 887 = .ok (.iconst 0, 1) := by decide +kernel
theorem dL_law_888 : decode cL_law 888 = .ok (.ireturn, 1) := by decide +kernel
theorem dL_law_889 : decode cL_law 889 = .ok (.aload_n 1, 1) := by decide +kernel
theorem dL_law_890 : decode cL_law 890 = .ok (.aload_n 0, 1) := by decide +kernel
theorem dL_law_891 : decode cL_law 891 = .ok (.iload_n 3, 1) := by decide +kernel
theorem dL_law_892 : decode cL_law 892 = .ok (.iconst 1, 1) := by decide +kernel
theorem dL_law_893 : decode cL_law 893 = .ok (.iadd, 1) := by decide +kernel
theorem dL_law_894 : decode cL_law 894 = .ok (.iaload, 1) := by decide +kernel
theorem dL_law_895 : decode cL_law 895 = .ok (.aload_n 0, 1) := by decide +kernel
theorem dL_law_896 : decode cL_law 896 = .ok (.iload_n 3, 1) := by decide +kernel
theorem dL_law_897 : decode cL_law 897 = .ok (.iconst 2, 1) := by decide +kernel
theorem dL_law_898 : decode cL_law 898 = .ok (.iadd, 1) := by decide +kernel
theorem dL_law_899 : decode cL_law 899 = .ok (.iaload, 1) := by decide +kernel
theorem dL_law_900 : decode cL_law 900 = .ok (.invokevirtual 133, 3) := by decide +kernel
theorem dL_law_903 : decode cL_law 903 = .ok (.aload_n 2, 1) := by decide +kernel
theorem dL_law_904 : decode cL_law 904 = .ok (.aload_n 0, 1) := by decide +kernel
theorem dL_law_905 : decode cL_law 905 = .ok (.iload_n 3, 1) := by decide +kernel
theorem dL_law_906 : decode cL_law 906 = .ok (.iconst 1, 1) := by decide +kernel
theorem dL_law_907 : decode cL_law 907 = .ok (.iadd, 1) := by decide +kernel
theorem dL_law_908 : decode cL_law 908 = .ok (.iaload, 1) := by decide +kernel
theorem dL_law_909 : decode cL_law 909 = .ok (.aload_n 0, 1) := by decide +kernel
theorem dL_law_910 : decode cL_law 910 = .ok (.iload_n 3, 1) := by decide +kernel
theorem dL_law_911 : decode cL_law 911 = .ok (.iconst 2, 1) := by decide +kernel
theorem dL_law_912 : decode cL_law 912 = .ok (.iadd, 1) := by decide +kernel
theorem dL_law_913 : decode cL_law 913 = .ok (.iaload, 1) := by decide +kernel
theorem dL_law_914 : decode cL_law 914 = .ok (.invokevirtual 136, 3) := by decide +kernel
theorem dL_law_917 : decode cL_law 917 = .ok (.if_icmp .eq 143, 3) := by decide +kernel
theorem dL_law_920 : decode cL_law 920 = .ok (.iconst 0, 1) := by decide +kernel
theorem dL_law_921 : decode cL_law 921 = .ok (.ireturn, 1) := by decide +kernel
theorem dL_law_922 : decode cL_law 922 = .ok (.aload_n 1, 1) := by decide +kernel
theorem dL_law_923 : decode cL_law 923 = .ok (.aload_n 0, 1) := by decide +kernel
theorem dL_law_924 : decode cL_law 924 = .ok (.iload_n 3, 1) := by decide +kernel
theorem dL_law_925 : decode cL_law 925 = .ok (.iconst 1, 1) := by decide +kernel
theorem dL_law_926 : decode cL_law 926 = .ok (.iadd, 1) := by decide +kernel
theorem dL_law_927 : decode cL_law 927 = .ok (.iaload, 1) := by decide +kernel
theorem dL_law_928 : decode cL_law 928 = .ok (.invokevirtual 137, 3) := by decide +kernel
theorem dL_law_931 : decode cL_law 931 = .ok (.aload_n 2, 1) := by decide +kernel
theorem dL_law_932 : decode cL_law 932 = .ok (.aload_n 0, 1) := by decide +kernel
theorem dL_law_933 : decode cL_law 933 = .ok (.iload_n 3, 1) := by decide +kernel
theorem dL_law_934 : decode cL_law 934 = .ok (.iconst 1, 1) := by decide +kernel
theorem dL_law_935 : decode cL_law 935 = .ok (.iadd, 1) := by decide +kernel
theorem dL_law_936 : decode cL_law 936 = .ok (.iaload, 1) := by decide +kernel
theorem dL_law_937 : decode cL_law 937 = .ok (.invokevirtual 140, 3) := by decide +kernel
theorem dL_law_940 : decode cL_law 940 = .ok (.if_icmp .eq 120, 3) := by decide +kernel
theorem dL_law_943 : decode cL_law 943 = .ok (.iconst 0, 1) := by decide +kernel
theorem dL_law_944 : decode cL_law 944 = .ok (.ireturn, 1) := by decide +kernel
theorem dL_law_945 : decode cL_law 945 = .ok (.aload_n 1, 1) := by decide +kernel
theorem dL_law_946 : decode cL_law 946 = .ok (.aload_n 0, 1) := by decide +kernel
theorem dL_law_947 : decode cL_law 947 = .ok (.iload_n 3, 1) := by decide +kernel
theorem dL_law_948 : decode cL_law 948 = .ok (.iconst 1, 1) := by decide +kernel
theorem dL_law_949 : decode cL_law 949 = .ok (.iadd, 1) := by decide +kernel
theorem dL_law_950 : decode cL_law 950 = .ok (.iaload, 1) := by decide +kernel
theorem dL_law_951 : decode cL_law 951 = .ok (.invokevirtual 141, 3) := by decide +kernel
theorem dL_law_954 : decode cL_law 954 = .ok (.aload_n 2, 1) := by decide +kernel
theorem dL_law_955 : decode cL_law 955 = .ok (.aload_n 0, 1) := by decide +kernel
theorem dL_law_956 : decode cL_law 956 = .ok (.iload_n 3, 1) := by decide +kernel
theorem dL_law_957 : decode cL_law 957 = .ok (.iconst 1, 1) := by decide +kernel
theorem dL_law_958 : decode cL_law 958 = .ok (.iadd, 1) := by decide +kernel
theorem dL_law_959 : decode cL_law 959 = .ok (.iaload, 1) := by decide +kernel
theorem dL_law_960 : decode cL_law 960 = .ok (.invokevirtual 144, 3) := by decide +kernel
theorem dL_law_963 : decode cL_law 963 = .ok (.if_icmp .eq 97, 3) := by decide +kernel
theorem dL_law_966 : decode cL_law 966 = .ok (.iconst 0, 1) := by decide +kernel
theorem dL_law_967 : decode cL_law 967 = .ok (.ireturn, 1) := by decide +kernel
theorem dL_law_968 : decode cL_law 968 = .ok (.aload_n 1, 1) := by decide +kernel
theorem dL_law_969 : decode cL_law 969 = .ok (.aload_n 0, 1) := by decide +kernel
theorem dL_law_970 : decode cL_law 970 = .ok (.iload_n 3, 1) := by decide +kernel
theorem dL_law_971 : decode cL_law 971 = .ok (.iconst 1, 1) := by decide +kernel
theorem dL_law_972 : decode cL_law 972 = .ok (.iadd, 1) := by decide +kernel
theorem dL_law_973 : decode cL_law 973 = .ok (.iaload, 1) := by decide +kernel
theorem dL_law_974 : decode cL_law 974 = .ok (.aload_n 0, 1) := by decide +kernel
theorem dL_law_975 : decode cL_law 975 = .ok (.iload_n 3, 1) := by decide +kernel
theorem dL_law_976 : decode cL_law 976 = .ok (.iconst 2, 1) := by decide +kernel
theorem dL_law_977 : decode cL_law 977 = .ok (.iadd, 1) := by decide +kernel
theorem dL_law_978 : decode cL_law 978 = .ok (.iaload, 1) := by decide +kernel
theorem dL_law_979 : decode cL_law 979 = .ok (.aload_n 0, 1) := by decide +kernel
theorem dL_law_980 : decode cL_law 980 = .ok (.iload_n 3, 1) := by decide +kernel
theorem dL_law_981 : decode cL_law 981 = .ok (.iconst 3, 1) := by decide +kernel
theorem dL_law_982 : decode cL_law 982 = .ok (.iadd, 1) := by decide +kernel
theorem dL_law_983 : decode cL_law 983 = .ok (.iaload, 1) := by decide +kernel
theorem dL_law_984 : decode cL_law 984 = .ok (.invokevirtual 145, 3) := by decide +kernel
theorem dL_law_987 : decode cL_law 987 = .ok (.aload_n 2, 1) := by decide +kernel
theorem dL_law_988 : decode cL_law 988 = .ok (.aload_n 0, 1) := by decide +kernel
theorem dL_law_989 : decode cL_law 989 = .ok (.iload_n 3, 1) := by decide +kernel
theorem dL_law_990 : decode cL_law 990 = .ok (.iconst 1, 1) := by decide +kernel
theorem dL_law_991 : decode cL_law 991 = .ok (.iadd, 1) := by decide +kernel
theorem dL_law_992 : decode cL_law 992 = .ok (.iaload, 1) := by decide +kernel
theorem dL_law_993 : decode cL_law 993 = .ok (.aload_n 0, 1) := by decide +kernel
theorem dL_law_994 : decode cL_law 994 = .ok (.iload_n 3, 1) := by decide +kernel
theorem dL_law_995 : decode cL_law 995 = .ok (.iconst 2, 1) := by decide +kernel
theorem dL_law_996 : decode cL_law 996 = .ok (.iadd, 1) := by decide +kernel
theorem dL_law_997 : decode cL_law 997 = .ok (.iaload, 1) := by decide +kernel
theorem dL_law_998 : decode cL_law 998 = .ok (.aload_n 0, 1) := by decide +kernel
theorem dL_law_999 : decode cL_law 999 = .ok (.iload_n 3, 1) := by decide +kernel
theorem dL_law_1000 : decode cL_law 1000 = .ok (.iconst 3, 1) := by decide +kernel
theorem dL_law_1001 : decode cL_law 1001 = .ok (.iadd, 1) := by decide +kernel
theorem dL_law_1002 : decode cL_law 1002 = .ok (.iaload, 1) := by decide +kernel
theorem dL_law_1003 : decode cL_law 1003 = .ok (.invokevirtual 148, 3) := by decide +kernel
theorem dL_law_1006 : decode cL_law 1006 = .ok (.if_icmp .eq 54, 3) := by decide +kernel
theorem dL_law_1009 : decode cL_law 1009 = .ok (.iconst 0, 1) := by decide +kernel
theorem dL_law_1010 : decode cL_law 1010 = .ok (.ireturn, 1) := by decide +kernel
theorem dL_law_1011 : decode cL_law 1011 = .ok (.aload_n 1, 1) := by decide +kernel
theorem dL_law_1012 : decode cL_law 1012 = .ok (.invokevirtual 149, 3) := by decide +kernel
theorem dL_law_1015 : decode cL_law 1015 = .ok (.aload_n 2, 1) := by decide +kernel
theorem dL_law_1016 : decode cL_law 1016 = .ok (.invokevirtual 152, 3) := by decide +kernel
theorem dL_law_1019 : decode cL_law 1019 = .ok (.if_icmp .eq 41, 3) := by decide +kernel
theorem dL_law_1022 : decode cL_law 1022 = .ok (.iconst 0, 1) := by decide +kernel
theorem dL_law_1023 : decode cL_law 1023 = .ok (.ireturn, 1) := by decide +kernel
theorem dL_law_1024 : decode cL_law 1024 = .ok (.aload_n 1, 1) := by decide +kernel
theorem dL_law_1025 : decode cL_law 1025 = .ok (.invokevirtual 153, 3) := by decide +kernel
theorem dL_law_1028 : decode cL_law 1028 = .ok (.aload_n 2, 1) := by decide +kernel
theorem dL_law_1029 : decode cL_law 1029 = .ok (.invokevirtual 156, 3) := by decide +kernel
theorem dL_law_1032 : decode cL_law 1032 = .ok (.if_icmp .eq 28, 3) := by decide +kernel
theorem dL_law_1035 : decode cL_law 1035 = .ok (.iconst 0, 1) := by decide +kernel
theorem dL_law_1036 : decode cL_law 1036 = .ok (.ireturn, 1) := by decide +kernel
theorem dL_law_1037 : decode cL_law 1037 = .ok (.aload_n 1, 1) := by decide +kernel
theorem dL_law_1038 : decode cL_law 1038 = .ok (.aload_n 0, 1) := by decide +kernel
theorem dL_law_1039 : decode cL_law 1039 = .ok (.iload_n 3, 1) := by decide +kernel
theorem dL_law_1040 : decode cL_law 1040 = .ok (.iconst 1, 1) := by decide +kernel
theorem dL_law_1041 : decode cL_law 1041 = .ok (.iadd, 1) := by decide +kernel
theorem dL_law_1042 : decode cL_law 1042 = .ok (.iaload, 1) := by decide +kernel
theorem dL_law_1043 : decode cL_law 1043 = .ok (.invokevirtual 157, 3) := by decide +kernel
theorem dL_law_1046 : decode cL_law 1046 = .ok (.aload_n 2, 1) := by decide +kernel
theorem dL_law_1047 : decode cL_law 1047 = .ok (.aload_n 0, 1) := by decide +kernel
theorem dL_law_1048 : decode cL_law 1048 = .ok (.iload_n 3, 1) := by decide +kernel
theorem dL_law_1049 : decode cL_law 1049 = .ok (.iconst 1, 1) := by decide +kernel
theorem dL_law_1050 : decode cL_law 1050 = .ok (.iadd, 1) := by decide +kernel
theorem dL_law_1051 : decode cL_law 1051 = .ok (.iaload, 1) := by decide +kernel
theorem dL_law_1052 : decode cL_law 1052 = .ok (.invokevirtual 160, 3) := by decide +kernel
theorem dL_law_1055 : decode cL_law 1055 = .ok (.if_icmp .eq 5, 3) := by decide +kernel
theorem dL_law_1058 : decode cL_law 1058 = .ok (.iconst 0, 1) := by decide +kernel
theorem dL_law_1059 : decode cL_law 1059 = .ok (.ireturn, 1) := by decide +kernel
theorem dL_law_1060 : decode cL_law 1060 = .ok (.iinc 3 4, 3) := by decide +kernel
theorem dL_law_1063 : decode cL_law 1063 = .ok (.goto (-1045), 3) := by decide +kernel
theorem dL_law_1066 : decode cL_law 1066 = .ok (.iconst 1, 1) := by decide +kernel
theorem dL_law_1067 : decode cL_law 1067 = .ok (.ireturn, 1) := by decide +kernel
end
section
/-! THE TABLES of a small machine of my own over the claim's classes: methods, what their constant pools name, by the places of the words in lw_tbl. Written by wip/whole/gen/g03.py. -/
abbrev MD : Type := Nat × MethodName × ByteArray × Nat × Option FieldType × Nat × Nat
def TBg : List Cond := lw_tbl.filter goodWord
theorem tb_at {w : Cond} (i : Nat) (h : lw_tbl[i]? = some w) (hg : goodWord w = true) : w ∈ TBg := List.mem_filter.mpr ⟨List.mem_of_getElem? h, hg⟩
theorem tb_1 {w : Cond} (i : Nat) (h : tables_1_1[i]? = some w) (hg : goodWord w = true) : w ∈ TBg := List.mem_filter.mpr ⟨by
  show w ∈ k2_sels lw_privs ++ (tables_1_1 ++ (tables_1_2 ++ (tables_1_3 ++ (tables_1_4 ++ tables_1_5))))
  simp only [List.mem_append]
  exact Or.inr (Or.inl (List.mem_of_getElem? h)), hg⟩
theorem tb_2 {w : Cond} (i : Nat) (h : tables_1_2[i]? = some w) (hg : goodWord w = true) : w ∈ TBg := List.mem_filter.mpr ⟨by
  show w ∈ k2_sels lw_privs ++ (tables_1_1 ++ (tables_1_2 ++ (tables_1_3 ++ (tables_1_4 ++ tables_1_5))))
  simp only [List.mem_append]
  exact Or.inr (Or.inr (Or.inl (List.mem_of_getElem? h))), hg⟩
theorem tb_3 {w : Cond} (i : Nat) (h : tables_1_3[i]? = some w) (hg : goodWord w = true) : w ∈ TBg := List.mem_filter.mpr ⟨by
  show w ∈ k2_sels lw_privs ++ (tables_1_1 ++ (tables_1_2 ++ (tables_1_3 ++ (tables_1_4 ++ tables_1_5))))
  simp only [List.mem_append]
  exact Or.inr (Or.inr (Or.inr (Or.inl (List.mem_of_getElem? h)))), hg⟩
theorem tb_4 {w : Cond} (i : Nat) (h : tables_1_4[i]? = some w) (hg : goodWord w = true) : w ∈ TBg := List.mem_filter.mpr ⟨by
  show w ∈ k2_sels lw_privs ++ (tables_1_1 ++ (tables_1_2 ++ (tables_1_3 ++ (tables_1_4 ++ tables_1_5))))
  simp only [List.mem_append]
  exact Or.inr (Or.inr (Or.inr (Or.inr (Or.inl (List.mem_of_getElem? h))))), hg⟩
theorem tb_5 {w : Cond} (i : Nat) (h : tables_1_5[i]? = some w) (hg : goodWord w = true) : w ∈ TBg := List.mem_filter.mpr ⟨by
  show w ∈ k2_sels lw_privs ++ (tables_1_1 ++ (tables_1_2 ++ (tables_1_3 ++ (tables_1_4 ++ tables_1_5))))
  simp only [List.mem_append]
  exact Or.inr (Or.inr (Or.inr (Or.inr (Or.inr (List.mem_of_getElem? h))))), hg⟩
theorem tb_good : GoodIn TBg TBg := fun w h => ⟨h, good_of_word (List.mem_filter.mp h).2⟩
def cn : Nat → String
  | 0 => RX0
  | 1 => RX2
  | 2 => RX3
  | 3 => RX4
  | 4 => RX5
  | 5 => RX6
  | 6 => RX7
  | 7 => RX1
  | 10 => RJ0
  | 11 => RJ1
  | 13 => RJ3
  | 19 => RJ9
  | _ => RL
abbrev clz : List vw_C := [(RX0, TX0, 10), (RX2, TX2, 2), (RX3, TX3, 2), (RX4, TX4, 2), (RX5, TX5, 3), (RX6, TX6, 9), (RX7, TX7, 16)]
def mX0_copyFrom : MD := (0, yX0_copyFrom, cX0_copyFrom, 3, (Option.none : Option Jvm.ClassFile.FieldType), 1, 23)
def mX0_hasInch : MD := (0, yX0_hasInch, cX0_hasInch, 2, (Option.some Jvm.ClassFile.FieldType.boolean), 0, 0)
def mX0_kindAt : MD := (0, yX0_kindAt, cX0_kindAt, 2, (Option.some Jvm.ClassFile.FieldType.int), 0, 0)
def mX0_figureAt : MD := (0, yX0_figureAt, cX0_figureAt, 2, (Option.some Jvm.ClassFile.FieldType.int), 0, 0)
def mX0_make : MD := (0, yX0_make, cX0_make, 4, (Option.none : Option Jvm.ClassFile.FieldType), 0, 0)
def mX0_bunchMove : MD := (0, yX0_bunchMove, cX0_bunchMove, 2, (Option.some Jvm.ClassFile.FieldType.int), 1, 21)
def mX0_bunchSeconds : MD := (0, yX0_bunchSeconds, cX0_bunchSeconds, 2, (Option.some Jvm.ClassFile.FieldType.int), 1, 21)
def mX0_threadSeconds : MD := (0, yX0_threadSeconds, cX0_threadSeconds, 2, (Option.some Jvm.ClassFile.FieldType.int), 1, 21)
def mX0_washDraw : MD := (0, yX0_washDraw, cX0_washDraw, 2, (Option.some Jvm.ClassFile.FieldType.int), 1, 21)
def mX0_seams : MD := (0, yX0_seams, cX0_seams, 3, (Option.some Jvm.ClassFile.FieldType.int), 1, 21)
def mX0_secondsAnewOf : MD := (0, yX0_secondsAnewOf, cX0_secondsAnewOf, 3, (Option.some Jvm.ClassFile.FieldType.int), 2, 42)
def mX0_secondsAnew : MD := (0, yX0_secondsAnew, cX0_secondsAnew, 4, (Option.some Jvm.ClassFile.FieldType.int), 3, 64)
def mX0_threadAnew : MD := (0, yX0_threadAnew, cX0_threadAnew, 1, (Option.none : Option Jvm.ClassFile.FieldType), 0, 0)
def mX0_depth : MD := (0, yX0_depth, cX0_depth, 2, (Option.some Jvm.ClassFile.FieldType.int), 0, 0)
def mX0_place : MD := (0, yX0_place, cX0_place, 3, (Option.none : Option Jvm.ClassFile.FieldType), 0, 0)
def mX0_isKnotted : MD := (0, yX0_isKnotted, cX0_isKnotted, 2, (Option.some Jvm.ClassFile.FieldType.boolean), 0, 0)
def mX0_knot : MD := (0, yX0_knot, cX0_knot, 3, (Option.none : Option Jvm.ClassFile.FieldType), 0, 0)
def mX0_isLost : MD := (0, yX0_isLost, cX0_isLost, 2, (Option.some Jvm.ClassFile.FieldType.boolean), 1, 21)
def mX0_lostEnds : MD := (0, yX0_lostEnds, cX0_lostEnds, 1, (Option.some Jvm.ClassFile.FieldType.int), 2, 42)
def mX0_inchAt : MD := (0, yX0_inchAt, cX0_inchAt, 4, (Option.some Jvm.ClassFile.FieldType.int), 1, 21)
def mX0_canDraw : MD := (0, yX0_canDraw, cX0_canDraw, 7, (Option.some Jvm.ClassFile.FieldType.int), 1, 21)
def mX0_draw : MD := (0, yX0_draw, cX0_draw, 5, (Option.some Jvm.ClassFile.FieldType.int), 2, 47)
def mX0_washOnce : MD := (0, yX0_washOnce, cX0_washOnce, 2, (Option.some Jvm.ClassFile.FieldType.int), 3, 71)
def mX0_washTimes : MD := (0, yX0_washTimes, cX0_washTimes, 3, (Option.none : Option Jvm.ClassFile.FieldType), 4, 92)
def mX1_isSign : MD := (7, yX1_isSign, cX1_isSign, 1, (Option.some Jvm.ClassFile.FieldType.boolean), 4, 91)
def mX1_ofSign : MD := (7, yX1_ofSign, cX1_ofSign, 1, (Option.some Jvm.ClassFile.FieldType.int), 4, 91)
def mX1_isSeam : MD := (7, yX1_isSeam, cX1_isSeam, 1, (Option.some Jvm.ClassFile.FieldType.boolean), 0, 0)
def mX1_bunchMove : MD := (7, yX1_bunchMove, cX1_bunchMove, 1, (Option.some Jvm.ClassFile.FieldType.int), 0, 0)
def mX1_bunchSeconds : MD := (7, yX1_bunchSeconds, cX1_bunchSeconds, 2, (Option.some Jvm.ClassFile.FieldType.int), 0, 0)
def mX1_threadSeconds : MD := (7, yX1_threadSeconds, cX1_threadSeconds, 2, (Option.some Jvm.ClassFile.FieldType.int), 0, 0)
def mX1_washDraw : MD := (7, yX1_washDraw, cX1_washDraw, 2, (Option.some Jvm.ClassFile.FieldType.int), 0, 0)
def mX2_isFull : MD := (1, yX2_isFull, cX2_isFull, 1, (Option.some Jvm.ClassFile.FieldType.boolean), 0, 0)
def mX2_add : MD := (1, yX2_add, cX2_add, 2, (Option.none : Option Jvm.ClassFile.FieldType), 0, 0)
def mX2_clear : MD := (1, yX2_clear, cX2_clear, 1, (Option.none : Option Jvm.ClassFile.FieldType), 0, 0)
def mX2_signAt : MD := (1, yX2_signAt, cX2_signAt, 2, (Option.some Jvm.ClassFile.FieldType.int), 0, 0)
def mX2_digit : MD := (1, yX2_digit, cX2_digit, 2, (Option.some Jvm.ClassFile.FieldType.int), 1, 21)
def mX2_number : MD := (1, yX2_number, cX2_number, 2, (Option.some Jvm.ClassFile.FieldType.int), 2, 42)
def mX2_signed : MD := (1, yX2_signed, cX2_signed, 2, (Option.some Jvm.ClassFile.FieldType.int), 3, 63)
def mX2_lengthBehind : MD := (1, yX2_lengthBehind, cX2_lengthBehind, 2, (Option.some Jvm.ClassFile.FieldType.int), 2, 40)
def mX2_firstUnfit : MD := (1, yX2_firstUnfit, cX2_firstUnfit, 4, (Option.some Jvm.ClassFile.FieldType.int), 6, 132)
def mX2_formBehind : MD := (1, yX2_formBehind, cX2_formBehind, 1, (Option.some (Jvm.ClassFile.FieldType.object "java/lang/String")), 0, 0)
def mX2_fits : MD := (1, yX2_fits, cX2_fits, 2, (Option.some Jvm.ClassFile.FieldType.boolean), 5, 111)
def mX3_goOn : MD := (2, yX3_goOn, cX3_goOn, 8, (Option.none : Option Jvm.ClassFile.FieldType), 4, 98)
def mX3_mend : MD := (2, yX3_mend, cX3_mend, 5, (Option.none : Option Jvm.ClassFile.FieldType), 3, 74)
def mX4_isFull : MD := (3, yX4_isFull, cX4_isFull, 1, (Option.some Jvm.ClassFile.FieldType.boolean), 0, 0)
def mX4_add : MD := (3, yX4_add, cX4_add, 2, (Option.none : Option Jvm.ClassFile.FieldType), 0, 0)
def mX4_clear : MD := (3, yX4_clear, cX4_clear, 1, (Option.none : Option Jvm.ClassFile.FieldType), 0, 0)
def mX4_firstNotSo : MD := (3, yX4_firstNotSo, cX4_firstNotSo, 4, (Option.some Jvm.ClassFile.FieldType.int), 4, 92)
def mX5_measure : MD := (4, yX5_measure, cX5_measure, 11, (Option.none : Option Jvm.ClassFile.FieldType), 2, 44)
def mX5_neverIsOut : MD := (4, yX5_neverIsOut, cX5_neverIsOut, 1, (Option.none : Option Jvm.ClassFile.FieldType), 0, 0)
def mX5_isAWay : MD := (4, yX5_isAWay, cX5_isAWay, 1, (Option.some Jvm.ClassFile.FieldType.boolean), 0, 0)
def mX5_rank : MD := (4, yX5_rank, cX5_rank, 1, (Option.some Jvm.ClassFile.FieldType.int), 1, 20)
def mX5_secondsOfAll : MD := (4, yX5_secondsOfAll, cX5_secondsOfAll, 4, (Option.some Jvm.ClassFile.FieldType.int), 3, 74)
def mX6_letter : MD := (5, yX6_letter, cX6_letter, 3, (Option.some Jvm.ClassFile.FieldType.int), 1, 22)
def mX6_hem : MD := (5, yX6_hem, cX6_hem, 3, (Option.some Jvm.ClassFile.FieldType.int), 7, 158)
def mX6_inch : MD := (5, yX6_inch, cX6_inch, 3, (Option.some Jvm.ClassFile.FieldType.int), 2, 42)
def mX6_turn : MD := (5, yX6_turn, cX6_turn, 6, (Option.some Jvm.ClassFile.FieldType.int), 1, 23)
def mX6_inches : MD := (5, yX6_inches, cX6_inches, 4, (Option.some Jvm.ClassFile.FieldType.int), 1, 22)
def mX6_end : MD := (5, yX6_end, cX6_end, 5, (Option.some Jvm.ClassFile.FieldType.int), 2, 43)
def mX6_tie : MD := (5, yX6_tie, cX6_tie, 2, (Option.some Jvm.ClassFile.FieldType.int), 1, 22)
def mX6_sew : MD := (5, yX6_sew, cX6_sew, 1, (Option.some Jvm.ClassFile.FieldType.int), 0, 0)
def mX6_set : MD := (5, yX6_set, cX6_set, 5, (Option.some Jvm.ClassFile.FieldType.int), 1, 22)
def mX6_pull : MD := (5, yX6_pull, cX6_pull, 4, (Option.some Jvm.ClassFile.FieldType.int), 3, 71)
def mX6_bunch : MD := (5, yX6_bunch, cX6_bunch, 3, (Option.some Jvm.ClassFile.FieldType.int), 2, 44)
def mX6_anew : MD := (5, yX6_anew, cX6_anew, 1, (Option.some Jvm.ClassFile.FieldType.int), 4, 87)
def mX6_wash : MD := (5, yX6_wash, cX6_wash, 3, (Option.some Jvm.ClassFile.FieldType.int), 5, 114)
def mX6_of : MD := (5, yX6_of, cX6_of, 4, (Option.some Jvm.ClassFile.FieldType.int), 2, 44)
def mX6_out : MD := (5, yX6_out, cX6_out, 3, (Option.some Jvm.ClassFile.FieldType.int), 3, 74)
def mX6_soonest : MD := (5, yX6_soonest, cX6_soonest, 3, (Option.some Jvm.ClassFile.FieldType.int), 4, 95)
def mX6_better : MD := (5, yX6_better, cX6_better, 4, (Option.some Jvm.ClassFile.FieldType.int), 4, 97)
def mX6_inIn : MD := (5, yX6_inIn, cX6_inIn, 4, (Option.some Jvm.ClassFile.FieldType.int), 5, 114)
def mX6_lost : MD := (5, yX6_lost, cX6_lost, 3, (Option.some Jvm.ClassFile.FieldType.int), 5, 113)
def mX6_still : MD := (5, yX6_still, cX6_still, 2, (Option.some Jvm.ClassFile.FieldType.int), 4, 92)
def mX6_keep : MD := (5, yX6_keep, cX6_keep, 5, (Option.some Jvm.ClassFile.FieldType.int), 4, 97)
def mX6_deep : MD := (5, yX6_deep, cX6_deep, 5, (Option.some Jvm.ClassFile.FieldType.int), 3, 74)
def mX6_stops : MD := (5, yX6_stops, cX6_stops, 8, (Option.some Jvm.ClassFile.FieldType.int), 6, 148)
def mX6_care : MD := (5, yX6_care, cX6_care, 3, (Option.some Jvm.ClassFile.FieldType.int), 5, 125)
def mX6_holdsUp : MD := (5, yX6_holdsUp, cX6_holdsUp, 6, (Option.some Jvm.ClassFile.FieldType.int), 4, 96)
def mX6_middle : MD := (5, yX6_middle, cX6_middle, 4, (Option.some Jvm.ClassFile.FieldType.int), 2, 47)
def mX6_cutOff : MD := (5, yX6_cutOff, cX6_cutOff, 1, (Option.some Jvm.ClassFile.FieldType.int), 1, 21)
def mX6_bestPin : MD := (5, yX6_bestPin, cX6_bestPin, 4, (Option.some Jvm.ClassFile.FieldType.int), 4, 87)
def mX6_worst : MD := (5, yX6_worst, cX6_worst, 3, (Option.some Jvm.ClassFile.FieldType.int), 3, 64)
def mX6_which : MD := (5, yX6_which, cX6_which, 3, (Option.some Jvm.ClassFile.FieldType.int), 6, 138)
def mX6_row : MD := (5, yX6_row, cX6_row, 3, (Option.some Jvm.ClassFile.FieldType.int), 1, 22)
def mX6_judge : MD := (5, yX6_judge, cX6_judge, 3, (Option.some Jvm.ClassFile.FieldType.int), 5, 115)
def mX6_lots : MD := (5, yX6_lots, cX6_lots, 9, (Option.some Jvm.ClassFile.FieldType.int), 5, 114)
def mX6_image : MD := (5, yX6_image, cX6_image, 1, (Option.some Jvm.ClassFile.FieldType.int), 2, 45)
def mX6_on : MD := (5, yX6_on, cX6_on, 1, (Option.some Jvm.ClassFile.FieldType.int), 2, 45)
def mX6_count : MD := (5, yX6_count, cX6_count, 2, (Option.some Jvm.ClassFile.FieldType.int), 3, 62)
def mX6_isEnd : MD := (5, yX6_isEnd, cX6_isEnd, 1, (Option.some Jvm.ClassFile.FieldType.boolean), 0, 0)
def mX6_outside : MD := (5, yX6_outside, cX6_outside, 3, (Option.some Jvm.ClassFile.FieldType.int), 0, 0)
def mX6_refuse : MD := (5, yX6_refuse, cX6_refuse, 3, (Option.some Jvm.ClassFile.FieldType.int), 0, 0)
def mX6_refuseAsTold : MD := (5, yX6_refuseAsTold, cX6_refuseAsTold, 2, (Option.some Jvm.ClassFile.FieldType.int), 1, 22)
def mX6_refusalsAt : MD := (5, yX6_refusalsAt, cX6_refusalsAt, 2, (Option.some Jvm.ClassFile.FieldType.int), 0, 0)
def mX6_statementsCome : MD := (5, yX6_statementsCome, cX6_statementsCome, 3, (Option.some Jvm.ClassFile.FieldType.int), 6, 136)
def mX6_isAsItMustBe : MD := (5, yX6_isAsItMustBe, cX6_isAsItMustBe, 2, (Option.some Jvm.ClassFile.FieldType.boolean), 4, 84)
def mX6_comes : MD := (5, yX6_comes, cX6_comes, 3, (Option.none : Option Jvm.ClassFile.FieldType), 5, 114)
def mX6_secondsIfLost : MD := (5, yX6_secondsIfLost, cX6_secondsIfLost, 2, (Option.some Jvm.ClassFile.FieldType.int), 3, 74)
def mX6_washesTillLost : MD := (5, yX6_washesTillLost, cX6_washesTillLost, 2, (Option.some Jvm.ClassFile.FieldType.int), 4, 92)
def mX6_secondsWithStop : MD := (5, yX6_secondsWithStop, cX6_secondsWithStop, 4, (Option.some Jvm.ClassFile.FieldType.int), 5, 125)
def mX6_rankWithCloth : MD := (5, yX6_rankWithCloth, cX6_rankWithCloth, 3, (Option.some Jvm.ClassFile.FieldType.int), 3, 74)
def mX6_kindsByRow : MD := (5, yX6_kindsByRow, cX6_kindsByRow, 4, (Option.some Jvm.ClassFile.FieldType.int), 5, 115)
def mX6_strengthsByRow : MD := (5, yX6_strengthsByRow, cX6_strengthsByRow, 3, (Option.some Jvm.ClassFile.FieldType.int), 5, 115)
def mX6_lotSeconds : MD := (5, yX6_lotSeconds, cX6_lotSeconds, 2, (Option.some Jvm.ClassFile.FieldType.int), 3, 74)
def mX7_isIn : MD := (6, yX7_isIn, cX7_isIn, 3, (Option.some Jvm.ClassFile.FieldType.boolean), 0, 0)
def mX7_least : MD := (6, yX7_least, cX7_least, 2, (Option.some Jvm.ClassFile.FieldType.int), 0, 0)
def mX7_most : MD := (6, yX7_most, cX7_most, 2, (Option.some Jvm.ClassFile.FieldType.int), 0, 0)
def mX7_lays : MD := (6, yX7_lays, cX7_lays, 3, (Option.none : Option Jvm.ClassFile.FieldType), 0, 0)
def mX7_no : MD := (6, yX7_no, cX7_no, 2, (Option.some Jvm.ClassFile.FieldType.int), 0, 0)
def mX7_noFar : MD := (6, yX7_noFar, cX7_noFar, 2, (Option.some Jvm.ClassFile.FieldType.int), 1, 21)
def mX7_isInch : MD := (6, yX7_isInch, cX7_isInch, 2, (Option.some Jvm.ClassFile.FieldType.boolean), 1, 22)
def mX7_isEnd : MD := (6, yX7_isEnd, cX7_isEnd, 1, (Option.some Jvm.ClassFile.FieldType.boolean), 1, 22)
def mX7_kindOf : MD := (6, yX7_kindOf, cX7_kindOf, 2, (Option.some Jvm.ClassFile.FieldType.int), 0, 0)
def mX7_figureOf : MD := (6, yX7_figureOf, cX7_figureOf, 2, (Option.some Jvm.ClassFile.FieldType.int), 0, 0)
def mX7_isSeam : MD := (6, yX7_isSeam, cX7_isSeam, 1, (Option.some Jvm.ClassFile.FieldType.boolean), 0, 0)
def mX7_movesAt : MD := (6, yX7_movesAt, cX7_movesAt, 3, (Option.some Jvm.ClassFile.FieldType.int), 1, 21)
def mX7_bunchAt : MD := (6, yX7_bunchAt, cX7_bunchAt, 3, (Option.some Jvm.ClassFile.FieldType.int), 1, 21)
def mX7_threadAt : MD := (6, yX7_threadAt, cX7_threadAt, 3, (Option.some Jvm.ClassFile.FieldType.int), 1, 21)
def mX7_drawsAt : MD := (6, yX7_drawsAt, cX7_drawsAt, 3, (Option.some Jvm.ClassFile.FieldType.int), 1, 21)
def mX7_inchOf : MD := (6, yX7_inchOf, cX7_inchOf, 3, (Option.some Jvm.ClassFile.FieldType.int), 1, 21)
def mX7_isLost : MD := (6, yX7_isLost, cX7_isLost, 2, (Option.some Jvm.ClassFile.FieldType.boolean), 0, 0)
def mX7_canPull : MD := (6, yX7_canPull, cX7_canPull, 5, (Option.some Jvm.ClassFile.FieldType.int), 1, 21)
def mX7_pulls : MD := (6, yX7_pulls, cX7_pulls, 4, (Option.some Jvm.ClassFile.FieldType.int), 2, 45)
def mX7_washes : MD := (6, yX7_washes, cX7_washes, 2, (Option.some Jvm.ClassFile.FieldType.int), 3, 68)
def mX7_washesOn : MD := (6, yX7_washesOn, cX7_washesOn, 4, (Option.none : Option Jvm.ClassFile.FieldType), 4, 89)
def mX7_bunches : MD := (6, yX7_bunches, cX7_bunches, 2, (Option.none : Option Jvm.ClassFile.FieldType), 2, 43)
def mX7_anewSeconds : MD := (6, yX7_anewSeconds, cX7_anewSeconds, 3, (Option.some Jvm.ClassFile.FieldType.int), 3, 64)
def mX7_threadBy : MD := (6, yX7_threadBy, cX7_threadBy, 2, (Option.some Jvm.ClassFile.FieldType.int), 2, 43)
def mX7_threads : MD := (6, yX7_threads, cX7_threads, 1, (Option.none : Option Jvm.ClassFile.FieldType), 0, 0)
def mX7_outSeconds : MD := (6, yX7_outSeconds, cX7_outSeconds, 6, (Option.some Jvm.ClassFile.FieldType.int), 3, 64)
def mX7_allSeconds : MD := (6, yX7_allSeconds, cX7_allSeconds, 4, (Option.some Jvm.ClassFile.FieldType.int), 4, 89)
def mX7_lostMany : MD := (6, yX7_lostMany, cX7_lostMany, 1, (Option.some Jvm.ClassFile.FieldType.int), 1, 21)
def mX7_letter : MD := (6, yX7_letter, cX7_letter, 2, (Option.some Jvm.ClassFile.FieldType.int), 1, 21)
def mX7_here : MD := (6, yX7_here, cX7_here, 1, (Option.some Jvm.ClassFile.FieldType.int), 0, 0)
def mX7_readsNumber : MD := (6, yX7_readsNumber, cX7_readsNumber, 4, (Option.some Jvm.ClassFile.FieldType.boolean), 1, 22)
def mX7_kindBy : MD := (6, yX7_kindBy, cX7_kindBy, 1, (Option.some Jvm.ClassFile.FieldType.int), 0, 0)
def mX7_readsKind : MD := (6, yX7_readsKind, cX7_readsKind, 1, (Option.some Jvm.ClassFile.FieldType.boolean), 1, 20)
def mX7_readsSigned : MD := (6, yX7_readsSigned, cX7_readsSigned, 3, (Option.some Jvm.ClassFile.FieldType.boolean), 2, 45)
def mX7_readsStatement : MD := (6, yX7_readsStatement, cX7_readsStatement, 3, (Option.some Jvm.ClassFile.FieldType.boolean), 3, 67)
def mX7_isDone : MD := (6, yX7_isDone, cX7_isDone, 4, (Option.some Jvm.ClassFile.FieldType.boolean), 5, 112)
def mX7_hem : MD := (6, yX7_hem, cX7_hem, 6, (Option.some Jvm.ClassFile.FieldType.int), 6, 135)
def mX7_inch : MD := (6, yX7_inch, cX7_inch, 3, (Option.some Jvm.ClassFile.FieldType.int), 2, 43)
def mX7_turn : MD := (6, yX7_turn, cX7_turn, 5, (Option.some Jvm.ClassFile.FieldType.int), 2, 43)
def mX7_inches : MD := (6, yX7_inches, cX7_inches, 3, (Option.some Jvm.ClassFile.FieldType.int), 1, 21)
def mX7_end : MD := (6, yX7_end, cX7_end, 4, (Option.some Jvm.ClassFile.FieldType.int), 2, 42)
def mX7_tie : MD := (6, yX7_tie, cX7_tie, 2, (Option.some Jvm.ClassFile.FieldType.int), 2, 42)
def mX7_sew : MD := (6, yX7_sew, cX7_sew, 1, (Option.some Jvm.ClassFile.FieldType.int), 0, 0)
def mX7_set : MD := (6, yX7_set, cX7_set, 4, (Option.some Jvm.ClassFile.FieldType.int), 1, 22)
def mX7_pull : MD := (6, yX7_pull, cX7_pull, 4, (Option.some Jvm.ClassFile.FieldType.int), 3, 68)
def mX7_bunch : MD := (6, yX7_bunch, cX7_bunch, 2, (Option.some Jvm.ClassFile.FieldType.int), 3, 64)
def mX7_anew : MD := (6, yX7_anew, cX7_anew, 1, (Option.some Jvm.ClassFile.FieldType.int), 4, 86)
def mX7_wash : MD := (6, yX7_wash, cX7_wash, 2, (Option.some Jvm.ClassFile.FieldType.int), 5, 112)
def mX7_of : MD := (6, yX7_of, cX7_of, 4, (Option.some Jvm.ClassFile.FieldType.int), 2, 43)
def mX7_costliest : MD := (6, yX7_costliest, cX7_costliest, 5, (Option.some Jvm.ClassFile.FieldType.int), 0, 0)
def mX7_out : MD := (6, yX7_out, cX7_out, 4, (Option.some Jvm.ClassFile.FieldType.int), 4, 89)
def mX7_soonest : MD := (6, yX7_soonest, cX7_soonest, 3, (Option.some Jvm.ClassFile.FieldType.int), 4, 89)
def mX7_better : MD := (6, yX7_better, cX7_better, 4, (Option.some Jvm.ClassFile.FieldType.int), 5, 112)
def mX7_wrongWashes : MD := (6, yX7_wrongWashes, cX7_wrongWashes, 1, (Option.some Jvm.ClassFile.FieldType.int), 0, 0)
def mX7_inIn : MD := (6, yX7_inIn, cX7_inIn, 4, (Option.some Jvm.ClassFile.FieldType.int), 5, 112)
def mX7_lost : MD := (6, yX7_lost, cX7_lost, 4, (Option.some Jvm.ClassFile.FieldType.int), 4, 89)
def mX7_still : MD := (6, yX7_still, cX7_still, 2, (Option.some Jvm.ClassFile.FieldType.int), 4, 89)
def mX7_wrongSeconds : MD := (6, yX7_wrongSeconds, cX7_wrongSeconds, 1, (Option.some Jvm.ClassFile.FieldType.int), 0, 0)
def mX7_keep : MD := (6, yX7_keep, cX7_keep, 6, (Option.some Jvm.ClassFile.FieldType.int), 5, 112)
def mX7_deep : MD := (6, yX7_deep, cX7_deep, 6, (Option.some Jvm.ClassFile.FieldType.int), 4, 89)
def mX7_mended : MD := (6, yX7_mended, cX7_mended, 7, (Option.some Jvm.ClassFile.FieldType.int), 4, 89)
def mX7_stops : MD := (6, yX7_stops, cX7_stops, 8, (Option.some Jvm.ClassFile.FieldType.int), 5, 115)
def mX7_care : MD := (6, yX7_care, cX7_care, 4, (Option.some Jvm.ClassFile.FieldType.int), 5, 115)
def mX7_holdsUp : MD := (6, yX7_holdsUp, cX7_holdsUp, 6, (Option.some Jvm.ClassFile.FieldType.int), 4, 89)
def mX7_middle : MD := (6, yX7_middle, cX7_middle, 3, (Option.some Jvm.ClassFile.FieldType.int), 2, 45)
def mX7_cutOff : MD := (6, yX7_cutOff, cX7_cutOff, 1, (Option.some Jvm.ClassFile.FieldType.int), 1, 21)
def mX7_bestPin : MD := (6, yX7_bestPin, cX7_bestPin, 4, (Option.some Jvm.ClassFile.FieldType.int), 4, 86)
def mX7_worst : MD := (6, yX7_worst, cX7_worst, 3, (Option.some Jvm.ClassFile.FieldType.int), 3, 64)
def mX7_row : MD := (6, yX7_row, cX7_row, 2, (Option.some Jvm.ClassFile.FieldType.int), 1, 21)
def mX7_firstWrong : MD := (6, yX7_firstWrong, cX7_firstWrong, 5, (Option.some Jvm.ClassFile.FieldType.int), 4, 89)
def mX7_which : MD := (6, yX7_which, cX7_which, 5, (Option.some Jvm.ClassFile.FieldType.int), 5, 113)
def mX7_judge : MD := (6, yX7_judge, cX7_judge, 3, (Option.some Jvm.ClassFile.FieldType.int), 5, 113)
def mX7_drawn : MD := (6, yX7_drawn, cX7_drawn, 2, (Option.some Jvm.ClassFile.FieldType.int), 0, 0)
def mX7_lots : MD := (6, yX7_lots, cX7_lots, 7, (Option.some Jvm.ClassFile.FieldType.int), 5, 112)
def mX7_image : MD := (6, yX7_image, cX7_image, 1, (Option.some Jvm.ClassFile.FieldType.int), 1, 22)
def mX7_on : MD := (6, yX7_on, cX7_on, 1, (Option.some Jvm.ClassFile.FieldType.int), 1, 22)
def mX7_count : MD := (6, yX7_count, cX7_count, 4, (Option.some Jvm.ClassFile.FieldType.int), 2, 41)
def mJ0_length_8abf5 : MD := (10, yJ0_length_8abf5, cJ0_length_8abf5, 1, (Option.some Jvm.ClassFile.FieldType.int), 1, 20)
def mJ0_isEmpty_aae02 : MD := (10, yJ0_isEmpty_aae02, cJ0_isEmpty_aae02, 1, (Option.some Jvm.ClassFile.FieldType.boolean), 0, 0)
def mJ0_charAt_5068e : MD := (10, yJ0_charAt_5068e, cJ0_charAt_5068e, 2, (Option.some Jvm.ClassFile.FieldType.char), 3, 64)
def mJ0_indexOf_0f7a4 : MD := (10, yJ0_indexOf_0f7a4, cJ0_indexOf_0f7a4, 2, (Option.some Jvm.ClassFile.FieldType.int), 3, 70)
def mJ0_indexOf_7cf53 : MD := (10, yJ0_indexOf_7cf53, cJ0_indexOf_7cf53, 3, (Option.some Jvm.ClassFile.FieldType.int), 2, 48)
def mJ0_coder_7d493 : MD := (10, yJ0_coder_7d493, cJ0_coder_7d493, 1, (Option.some Jvm.ClassFile.FieldType.byte), 0, 0)
def mJ0_isLatin1_aae02 : MD := (10, yJ0_isLatin1_aae02, cJ0_isLatin1_aae02, 1, (Option.some Jvm.ClassFile.FieldType.boolean), 0, 0)
def mJ0_checkIndex_df160 : MD := (10, yJ0_checkIndex_df160, cJ0_checkIndex_df160, 2, (Option.none : Option Jvm.ClassFile.FieldType), 1, 22)
def mJ1_charAt_3b067 : MD := (11, yJ1_charAt_3b067, cJ1_charAt_3b067, 2, (Option.some Jvm.ClassFile.FieldType.char), 2, 43)
def mJ1_canEncode_9a6ad : MD := (11, yJ1_canEncode_9a6ad, cJ1_canEncode_9a6ad, 1, (Option.some Jvm.ClassFile.FieldType.boolean), 0, 0)
def mJ1_indexOf_4cfef : MD := (11, yJ1_indexOf_4cfef, cJ1_indexOf_4cfef, 4, (Option.some Jvm.ClassFile.FieldType.int), 1, 25)
def mJ1_indexOfChar_4cfef : MD := (11, yJ1_indexOfChar_4cfef, cJ1_indexOfChar_4cfef, 6, (Option.some Jvm.ClassFile.FieldType.int), 0, 0)
def mJ3_checkIndex_8e157 : MD := (13, yJ3_checkIndex_8e157, cJ3_checkIndex_8e157, 3, (Option.some Jvm.ClassFile.FieldType.int), 0, 0)
def mL_law : MD := (30, yL_law, cL_law, 4, ret, 8, 180)
theorem wd_1 : (Jvm.Cond.initialized "GoneIntoItsTunnel") ∈ TBg := tb_1 1 (by decide +kernel) rfl
theorem wd_2 : (Jvm.Cond.initialized "GoneIntoItsTunnel$Hem") ∈ TBg := tb_1 2 (by decide +kernel) rfl
theorem wd_3 : (Jvm.Cond.initialized "GoneIntoItsTunnel$Way") ∈ TBg := tb_1 3 (by decide +kernel) rfl
theorem wd_4 : (Jvm.Cond.initialized "GoneIntoItsTunnel$Mending") ∈ TBg := tb_1 4 (by decide +kernel) rfl
theorem wd_5 : (Jvm.Cond.initialized "GoneIntoItsTunnel$Letters") ∈ TBg := tb_1 5 (by decide +kernel) rfl
theorem wd_6 : (Jvm.Cond.initialized "GoneIntoItsTunnel$Row") ∈ TBg := tb_1 6 (by decide +kernel) rfl
theorem wd_7 : (Jvm.Cond.initialized "GoneIntoItsTunnelModel") ∈ TBg := tb_1 7 (by decide +kernel) rfl
theorem wd_8 : (Jvm.Cond.initialized "java/lang/String") ∈ TBg := tb_1 8 (by decide +kernel) rfl
theorem wd_9 : (Jvm.Cond.initialized "java/lang/StringLatin1") ∈ TBg := tb_1 9 (by decide +kernel) rfl
theorem wd_10 : (Jvm.Cond.initialized "jdk/internal/util/Preconditions") ∈ TBg := tb_1 10 (by decide +kernel) rfl
theorem wd_12 : (Jvm.Cond.initialized "GoneIntoItsTunnel$Kind") ∈ TBg := tb_1 12 (by decide +kernel) rfl
theorem wd_13 : (Jvm.Cond.initialized "java/lang/Math") ∈ TBg := tb_1 13 (by decide +kernel) rfl
theorem wd_29 : (Jvm.Cond.fieldLink "GoneIntoItsTunnel$Hem" (9 : Nat) "GoneIntoItsTunnel$Hem" "kinds" "[I") ∈ TBg := tb_1 29 (by decide +kernel) rfl
theorem wd_30 : (Jvm.Cond.fieldLink "GoneIntoItsTunnel$Hem" (15 : Nat) "GoneIntoItsTunnel$Hem" "figures" "[I") ∈ TBg := tb_1 30 (by decide +kernel) rfl
theorem wd_31 : (Jvm.Cond.fieldLink "GoneIntoItsTunnel$Hem" (18 : Nat) "GoneIntoItsTunnel$Hem" "length" "I") ∈ TBg := tb_1 31 (by decide +kernel) rfl
theorem wd_33 : (Jvm.Cond.fieldLink "GoneIntoItsTunnel$Hem" (22 : Nat) "GoneIntoItsTunnel$Hem" "firstIn" "I") ∈ TBg := tb_1 33 (by decide +kernel) rfl
theorem wd_34 : (Jvm.Cond.fieldLink "GoneIntoItsTunnel$Hem" (25 : Nat) "GoneIntoItsTunnel$Hem" "secondIn" "I") ∈ TBg := tb_1 34 (by decide +kernel) rfl
theorem wd_35 : (Jvm.Cond.fieldLink "GoneIntoItsTunnel$Hem" (28 : Nat) "GoneIntoItsTunnel$Hem" "firstKnot" "Z") ∈ TBg := tb_1 35 (by decide +kernel) rfl
theorem wd_36 : (Jvm.Cond.fieldLink "GoneIntoItsTunnel$Hem" (32 : Nat) "GoneIntoItsTunnel$Hem" "secondKnot" "Z") ∈ TBg := tb_1 36 (by decide +kernel) rfl
theorem wd_37 : (Jvm.Cond.fieldLink "GoneIntoItsTunnel$Hem" (35 : Nat) "GoneIntoItsTunnel$Hem" "sewn" "Z") ∈ TBg := tb_1 37 (by decide +kernel) rfl
theorem wd_39 : (Jvm.Cond.fieldLink "GoneIntoItsTunnel$Hem" (38 : Nat) "GoneIntoItsTunnel$Hem" "pin" "I") ∈ TBg := tb_1 39 (by decide +kernel) rfl
theorem wd_42 : (Jvm.Cond.fieldLink "GoneIntoItsTunnel$Hem" (41 : Nat) "GoneIntoItsTunnel$Hem" "strength" "I") ∈ TBg := tb_1 42 (by decide +kernel) rfl
theorem wd_72 : (Jvm.Cond.fieldLink "GoneIntoItsTunnel$Way" (9 : Nat) "GoneIntoItsTunnel$Way" "bunches" "I") ∈ TBg := tb_1 72 (by decide +kernel) rfl
theorem wd_74 : (Jvm.Cond.fieldLink "GoneIntoItsTunnel$Way" (15 : Nat) "GoneIntoItsTunnel$Way" "seconds" "I") ∈ TBg := tb_1 74 (by decide +kernel) rfl
theorem wd_77 : (Jvm.Cond.fieldLink "GoneIntoItsTunnel$Way" (18 : Nat) "GoneIntoItsTunnel$Way" "dearest" "I") ∈ TBg := tb_1 77 (by decide +kernel) rfl
theorem wd_92 : (Jvm.Cond.fieldLink "GoneIntoItsTunnel$Mending" (7 : Nat) "GoneIntoItsTunnel$Mending" "times" "I") ∈ TBg := tb_1 92 (by decide +kernel) rfl
theorem wd_94 : (Jvm.Cond.fieldLink "GoneIntoItsTunnel$Mending" (13 : Nat) "GoneIntoItsTunnel$Mending" "seconds" "I") ∈ TBg := tb_1 94 (by decide +kernel) rfl
theorem wd_107 : (Jvm.Cond.fieldLink "GoneIntoItsTunnel$Letters" (11 : Nat) "GoneIntoItsTunnel$Letters" "signs" "[I") ∈ TBg := tb_1 107 (by decide +kernel) rfl
theorem wd_108 : (Jvm.Cond.fieldLink "GoneIntoItsTunnel$Letters" (15 : Nat) "GoneIntoItsTunnel$Letters" "size" "I") ∈ TBg := tb_1 108 (by decide +kernel) rfl
theorem wd_121 : (Jvm.Cond.fieldLink "GoneIntoItsTunnel$Row" (11 : Nat) "GoneIntoItsTunnel$Row" "numbers" "[I") ∈ TBg := tb_1 121 (by decide +kernel) rfl
theorem wd_122 : (Jvm.Cond.fieldLink "GoneIntoItsTunnel$Row" (15 : Nat) "GoneIntoItsTunnel$Row" "size" "I") ∈ TBg := tb_1 122 (by decide +kernel) rfl
theorem wd_129 : (Jvm.Cond.fieldLink "GoneIntoItsTunnel" (10 : Nat) "GoneIntoItsTunnel" "now" "LGoneIntoItsTunnel$Hem;") ∈ TBg := tb_1 129 (by decide +kernel) rfl
theorem wd_130 : (Jvm.Cond.fieldLink "GoneIntoItsTunnel" (16 : Nat) "GoneIntoItsTunnel" "mind" "LGoneIntoItsTunnel$Hem;") ∈ TBg := tb_1 130 (by decide +kernel) rfl
theorem wd_131 : (Jvm.Cond.fieldLink "GoneIntoItsTunnel" (19 : Nat) "GoneIntoItsTunnel" "taken" "LGoneIntoItsTunnel$Hem;") ∈ TBg := tb_1 131 (by decide +kernel) rfl
theorem wd_132 : (Jvm.Cond.fieldLink "GoneIntoItsTunnel" (22 : Nat) "GoneIntoItsTunnel" "anyTaken" "Z") ∈ TBg := tb_1 132 (by decide +kernel) rfl
theorem wd_133 : (Jvm.Cond.fieldLink "GoneIntoItsTunnel" (29 : Nat) "GoneIntoItsTunnel" "way" "LGoneIntoItsTunnel$Way;") ∈ TBg := tb_1 133 (by decide +kernel) rfl
theorem wd_134 : (Jvm.Cond.fieldLink "GoneIntoItsTunnel" (36 : Nat) "GoneIntoItsTunnel" "mending" "LGoneIntoItsTunnel$Mending;") ∈ TBg := tb_1 134 (by decide +kernel) rfl
theorem wd_135 : (Jvm.Cond.fieldLink "GoneIntoItsTunnel" (43 : Nat) "GoneIntoItsTunnel" "letters" "LGoneIntoItsTunnel$Letters;") ∈ TBg := tb_1 135 (by decide +kernel) rfl
theorem wd_136 : (Jvm.Cond.fieldLink "GoneIntoItsTunnel" (50 : Nat) "GoneIntoItsTunnel" "told" "LGoneIntoItsTunnel$Row;") ∈ TBg := tb_1 136 (by decide +kernel) rfl
theorem wd_137 : (Jvm.Cond.fieldLink "GoneIntoItsTunnel" (54 : Nat) "GoneIntoItsTunnel" "refusals" "[I") ∈ TBg := tb_1 137 (by decide +kernel) rfl
theorem wd_157 : (Jvm.Cond.methodLink "GoneIntoItsTunnelLaw" (13 : Nat) ({ cls := "GoneIntoItsTunnel", name := "letter", desc := "(I)I" } : Jvm.MethodName)) ∈ TBg := tb_1 157 (by decide +kernel) rfl
theorem wd_158 : (Jvm.Cond.instanceMethod ({ cls := "GoneIntoItsTunnel", name := "letter", desc := "(I)I" } : Jvm.MethodName)) ∈ TBg := tb_1 158 (by decide +kernel) rfl
theorem wd_159 : (Jvm.Cond.selects "GoneIntoItsTunnel" ({ cls := "GoneIntoItsTunnel", name := "letter", desc := "(I)I" } : Jvm.MethodName) ({ cls := "GoneIntoItsTunnel", name := "letter", desc := "(I)I" } : Jvm.MethodName)) ∈ TBg := tb_1 159 (by decide +kernel) rfl
theorem wd_160 : (Jvm.Cond.code ({ cls := "GoneIntoItsTunnel", name := "letter", desc := "(I)I" } : Jvm.MethodName) prog_1_method_2_code (3 : Nat) (Option.some Jvm.ClassFile.FieldType.int)) ∈ TBg := tb_1 160 (by decide +kernel) rfl
theorem wd_161 : (Jvm.Cond.methodLink "GoneIntoItsTunnel" (58 : Nat) ({ cls := "GoneIntoItsTunnel", name := "outside", desc := "(III)I" } : Jvm.MethodName)) ∈ TBg := tb_1 161 (by decide +kernel) rfl
theorem wd_162 : (Jvm.Cond.static ({ cls := "GoneIntoItsTunnel", name := "outside", desc := "(III)I" } : Jvm.MethodName)) ∈ TBg := tb_1 162 (by decide +kernel) rfl
theorem wd_163 : (Jvm.Cond.code ({ cls := "GoneIntoItsTunnel", name := "outside", desc := "(III)I" } : Jvm.MethodName) prog_1_method_39_code (3 : Nat) (Option.some Jvm.ClassFile.FieldType.int)) ∈ TBg := tb_1 163 (by decide +kernel) rfl
theorem wd_164 : (Jvm.Cond.methodLink "GoneIntoItsTunnel" (62 : Nat) ({ cls := "GoneIntoItsTunnel", name := "refuse", desc := "(I)I" } : Jvm.MethodName)) ∈ TBg := tb_1 164 (by decide +kernel) rfl
theorem wd_166 : (Jvm.Cond.instanceMethod ({ cls := "GoneIntoItsTunnel", name := "refuse", desc := "(I)I" } : Jvm.MethodName)) ∈ TBg := tb_1 166 (by decide +kernel) rfl
theorem wd_167 : (Jvm.Cond.code ({ cls := "GoneIntoItsTunnel", name := "refuse", desc := "(I)I" } : Jvm.MethodName) prog_1_method_40_code (3 : Nat) (Option.some Jvm.ClassFile.FieldType.int)) ∈ TBg := tb_1 167 (by decide +kernel) rfl
theorem wd_168 : (Jvm.Cond.methodLink "GoneIntoItsTunnel" (66 : Nat) ({ cls := "GoneIntoItsTunnel$Letters", name := "isFull", desc := "()Z" } : Jvm.MethodName)) ∈ TBg := tb_1 168 (by decide +kernel) rfl
theorem wd_169 : (Jvm.Cond.instanceMethod ({ cls := "GoneIntoItsTunnel$Letters", name := "isFull", desc := "()Z" } : Jvm.MethodName)) ∈ TBg := tb_1 169 (by decide +kernel) rfl
theorem wd_170 : (Jvm.Cond.selects "GoneIntoItsTunnel$Letters" ({ cls := "GoneIntoItsTunnel$Letters", name := "isFull", desc := "()Z" } : Jvm.MethodName) ({ cls := "GoneIntoItsTunnel$Letters", name := "isFull", desc := "()Z" } : Jvm.MethodName)) ∈ TBg := tb_1 170 (by decide +kernel) rfl
theorem wd_171 : (Jvm.Cond.code ({ cls := "GoneIntoItsTunnel$Letters", name := "isFull", desc := "()Z" } : Jvm.MethodName) prog_4_method_2_code (1 : Nat) (Option.some Jvm.ClassFile.FieldType.boolean)) ∈ TBg := tb_1 171 (by decide +kernel) rfl
theorem wd_172 : (Jvm.Cond.methodLink "GoneIntoItsTunnel" (70 : Nat) ({ cls := "GoneIntoItsTunnel$Letters", name := "add", desc := "(I)V" } : Jvm.MethodName)) ∈ TBg := tb_1 172 (by decide +kernel) rfl
theorem wd_173 : (Jvm.Cond.instanceMethod ({ cls := "GoneIntoItsTunnel$Letters", name := "add", desc := "(I)V" } : Jvm.MethodName)) ∈ TBg := tb_1 173 (by decide +kernel) rfl
theorem wd_174 : (Jvm.Cond.selects "GoneIntoItsTunnel$Letters" ({ cls := "GoneIntoItsTunnel$Letters", name := "add", desc := "(I)V" } : Jvm.MethodName) ({ cls := "GoneIntoItsTunnel$Letters", name := "add", desc := "(I)V" } : Jvm.MethodName)) ∈ TBg := tb_1 174 (by decide +kernel) rfl
theorem wd_175 : (Jvm.Cond.code ({ cls := "GoneIntoItsTunnel$Letters", name := "add", desc := "(I)V" } : Jvm.MethodName) prog_4_method_3_code (2 : Nat) (Option.none : Option Jvm.ClassFile.FieldType)) ∈ TBg := tb_1 175 (by decide +kernel) rfl
theorem wd_176 : (Jvm.Cond.methodLink "GoneIntoItsTunnelLaw" (18 : Nat) ({ cls := "GoneIntoItsTunnel", name := "hem", desc := "()I" } : Jvm.MethodName)) ∈ TBg := tb_1 176 (by decide +kernel) rfl
theorem wd_177 : (Jvm.Cond.instanceMethod ({ cls := "GoneIntoItsTunnel", name := "hem", desc := "()I" } : Jvm.MethodName)) ∈ TBg := tb_1 177 (by decide +kernel) rfl
theorem wd_178 : (Jvm.Cond.selects "GoneIntoItsTunnel" ({ cls := "GoneIntoItsTunnel", name := "hem", desc := "()I" } : Jvm.MethodName) ({ cls := "GoneIntoItsTunnel", name := "hem", desc := "()I" } : Jvm.MethodName)) ∈ TBg := tb_1 178 (by decide +kernel) rfl
theorem wd_179 : (Jvm.Cond.code ({ cls := "GoneIntoItsTunnel", name := "hem", desc := "()I" } : Jvm.MethodName) prog_1_method_3_code (3 : Nat) (Option.some Jvm.ClassFile.FieldType.int)) ∈ TBg := tb_1 179 (by decide +kernel) rfl
theorem wd_180 : (Jvm.Cond.methodLink "GoneIntoItsTunnel" (78 : Nat) ({ cls := "GoneIntoItsTunnel$Letters", name := "firstUnfit", desc := "()I" } : Jvm.MethodName)) ∈ TBg := tb_1 180 (by decide +kernel) rfl
theorem wd_181 : (Jvm.Cond.instanceMethod ({ cls := "GoneIntoItsTunnel$Letters", name := "firstUnfit", desc := "()I" } : Jvm.MethodName)) ∈ TBg := tb_1 181 (by decide +kernel) rfl
theorem wd_182 : (Jvm.Cond.selects "GoneIntoItsTunnel$Letters" ({ cls := "GoneIntoItsTunnel$Letters", name := "firstUnfit", desc := "()I" } : Jvm.MethodName) ({ cls := "GoneIntoItsTunnel$Letters", name := "firstUnfit", desc := "()I" } : Jvm.MethodName)) ∈ TBg := tb_1 182 (by decide +kernel) rfl
theorem wd_183 : (Jvm.Cond.code ({ cls := "GoneIntoItsTunnel$Letters", name := "firstUnfit", desc := "()I" } : Jvm.MethodName) prog_4_method_10_code (4 : Nat) (Option.some Jvm.ClassFile.FieldType.int)) ∈ TBg := tb_1 183 (by decide +kernel) rfl
theorem wd_184 : (Jvm.Cond.methodLink "GoneIntoItsTunnel$Letters" (19 : Nat) ({ cls := "GoneIntoItsTunnel$Letters", name := "signAt", desc := "(I)I" } : Jvm.MethodName)) ∈ TBg := tb_1 184 (by decide +kernel) rfl
theorem wd_185 : (Jvm.Cond.instanceMethod ({ cls := "GoneIntoItsTunnel$Letters", name := "signAt", desc := "(I)I" } : Jvm.MethodName)) ∈ TBg := tb_1 185 (by decide +kernel) rfl
theorem wd_186 : (Jvm.Cond.selects "GoneIntoItsTunnel$Letters" ({ cls := "GoneIntoItsTunnel$Letters", name := "signAt", desc := "(I)I" } : Jvm.MethodName) ({ cls := "GoneIntoItsTunnel$Letters", name := "signAt", desc := "(I)I" } : Jvm.MethodName)) ∈ TBg := tb_1 186 (by decide +kernel) rfl
theorem wd_187 : (Jvm.Cond.code ({ cls := "GoneIntoItsTunnel$Letters", name := "signAt", desc := "(I)I" } : Jvm.MethodName) prog_4_method_5_code (2 : Nat) (Option.some Jvm.ClassFile.FieldType.int)) ∈ TBg := tb_1 187 (by decide +kernel) rfl
theorem wd_188 : (Jvm.Cond.methodLink "GoneIntoItsTunnel$Letters" (29 : Nat) ({ cls := "GoneIntoItsTunnel$Letters", name := "formBehind", desc := "(I)Ljava/lang/String;" } : Jvm.MethodName)) ∈ TBg := tb_1 188 (by decide +kernel) rfl
theorem wd_189 : (Jvm.Cond.static ({ cls := "GoneIntoItsTunnel$Letters", name := "formBehind", desc := "(I)Ljava/lang/String;" } : Jvm.MethodName)) ∈ TBg := tb_1 189 (by decide +kernel) rfl
theorem wd_190 : (Jvm.Cond.code ({ cls := "GoneIntoItsTunnel$Letters", name := "formBehind", desc := "(I)Ljava/lang/String;" } : Jvm.MethodName) prog_4_method_11_code (1 : Nat) (Option.some (Jvm.ClassFile.FieldType.object "java/lang/String"))) ∈ TBg := tb_1 190 (by decide +kernel) rfl
theorem wd_197 : (Jvm.Cond.methodLink "GoneIntoItsTunnel$Letters" (39 : Nat) ({ cls := "java/lang/String", name := "isEmpty", desc := "()Z" } : Jvm.MethodName)) ∈ TBg := tb_1 197 (by decide +kernel) rfl
theorem wd_198 : (Jvm.Cond.instanceMethod ({ cls := "java/lang/String", name := "isEmpty", desc := "()Z" } : Jvm.MethodName)) ∈ TBg := tb_1 198 (by decide +kernel) rfl
theorem wd_199 : (Jvm.Cond.selects "java/lang/String" ({ cls := "java/lang/String", name := "isEmpty", desc := "()Z" } : Jvm.MethodName) ({ cls := "java/lang/String", name := "isEmpty", desc := "()Z" } : Jvm.MethodName)) ∈ TBg := tb_1 199 (by decide +kernel) rfl
theorem wd_200 : (Jvm.Cond.code ({ cls := "java/lang/String", name := "isEmpty", desc := "()Z" } : Jvm.MethodName) prog_12_method_55_code (1 : Nat) (Option.some Jvm.ClassFile.FieldType.boolean)) ∈ TBg := tb_1 200 (by decide +kernel) rfl
theorem wd_201 : (Jvm.Cond.methodLink "GoneIntoItsTunnel$Letters" (33 : Nat) ({ cls := "java/lang/String", name := "length", desc := "()I" } : Jvm.MethodName)) ∈ TBg := tb_1 201 (by decide +kernel) rfl
theorem wd_202 : (Jvm.Cond.instanceMethod ({ cls := "java/lang/String", name := "length", desc := "()I" } : Jvm.MethodName)) ∈ TBg := tb_1 202 (by decide +kernel) rfl
theorem wd_203 : (Jvm.Cond.selects "java/lang/String" ({ cls := "java/lang/String", name := "length", desc := "()I" } : Jvm.MethodName) ({ cls := "java/lang/String", name := "length", desc := "()I" } : Jvm.MethodName)) ∈ TBg := tb_1 203 (by decide +kernel) rfl
theorem wd_204 : (Jvm.Cond.code ({ cls := "java/lang/String", name := "length", desc := "()I" } : Jvm.MethodName) prog_12_method_54_code (1 : Nat) (Option.some Jvm.ClassFile.FieldType.int)) ∈ TBg := tb_1 204 (by decide +kernel) rfl
theorem wd_205 : (Jvm.Cond.methodLink "java/lang/String" (335 : Nat) ({ cls := "java/lang/String", name := "coder", desc := "()B" } : Jvm.MethodName)) ∈ TBg := tb_1 205 (by decide +kernel) rfl
theorem wd_206 : (Jvm.Cond.instanceMethod ({ cls := "java/lang/String", name := "coder", desc := "()B" } : Jvm.MethodName)) ∈ TBg := tb_1 206 (by decide +kernel) rfl
theorem wd_207 : (Jvm.Cond.selects "java/lang/String" ({ cls := "java/lang/String", name := "coder", desc := "()B" } : Jvm.MethodName) ({ cls := "java/lang/String", name := "coder", desc := "()B" } : Jvm.MethodName)) ∈ TBg := tb_1 207 (by decide +kernel) rfl
theorem wd_208 : (Jvm.Cond.code ({ cls := "java/lang/String", name := "coder", desc := "()B" } : Jvm.MethodName) prog_12_method_152_code (1 : Nat) (Option.some Jvm.ClassFile.FieldType.byte)) ∈ TBg := tb_1 208 (by decide +kernel) rfl
theorem wd_209 : (Jvm.Cond.fieldLink "java/lang/String" (38 : Nat) "java/lang/String" "COMPACT_STRINGS" "Z") ∈ TBg := tb_1 209 (by decide +kernel) rfl
theorem wd_211 : (Jvm.Cond.methodLink "GoneIntoItsTunnel$Letters" (43 : Nat) ({ cls := "java/lang/String", name := "charAt", desc := "(I)C" } : Jvm.MethodName)) ∈ TBg := tb_1 211 (by decide +kernel) rfl
theorem wd_212 : (Jvm.Cond.instanceMethod ({ cls := "java/lang/String", name := "charAt", desc := "(I)C" } : Jvm.MethodName)) ∈ TBg := tb_1 212 (by decide +kernel) rfl
theorem wd_213 : (Jvm.Cond.selects "java/lang/String" ({ cls := "java/lang/String", name := "charAt", desc := "(I)C" } : Jvm.MethodName) ({ cls := "java/lang/String", name := "charAt", desc := "(I)C" } : Jvm.MethodName)) ∈ TBg := tb_1 213 (by decide +kernel) rfl
theorem wd_214 : (Jvm.Cond.code ({ cls := "java/lang/String", name := "charAt", desc := "(I)C" } : Jvm.MethodName) prog_12_method_56_code (2 : Nat) (Option.some Jvm.ClassFile.FieldType.char)) ∈ TBg := tb_1 214 (by decide +kernel) rfl
theorem wd_215 : (Jvm.Cond.methodLink "java/lang/String" (492 : Nat) ({ cls := "java/lang/String", name := "isLatin1", desc := "()Z" } : Jvm.MethodName)) ∈ TBg := tb_1 215 (by decide +kernel) rfl
theorem wd_216 : (Jvm.Cond.instanceMethod ({ cls := "java/lang/String", name := "isLatin1", desc := "()Z" } : Jvm.MethodName)) ∈ TBg := tb_1 216 (by decide +kernel) rfl
theorem wd_217 : (Jvm.Cond.selects "java/lang/String" ({ cls := "java/lang/String", name := "isLatin1", desc := "()Z" } : Jvm.MethodName) ({ cls := "java/lang/String", name := "isLatin1", desc := "()Z" } : Jvm.MethodName)) ∈ TBg := tb_1 217 (by decide +kernel) rfl
theorem wd_218 : (Jvm.Cond.code ({ cls := "java/lang/String", name := "isLatin1", desc := "()Z" } : Jvm.MethodName) prog_12_method_154_code (1 : Nat) (Option.some Jvm.ClassFile.FieldType.boolean)) ∈ TBg := tb_1 218 (by decide +kernel) rfl
theorem wd_219 : (Jvm.Cond.methodLink "java/lang/String" (495 : Nat) ({ cls := "java/lang/StringLatin1", name := "charAt", desc := "([BI)C" } : Jvm.MethodName)) ∈ TBg := tb_1 219 (by decide +kernel) rfl
theorem wd_220 : (Jvm.Cond.static ({ cls := "java/lang/StringLatin1", name := "charAt", desc := "([BI)C" } : Jvm.MethodName)) ∈ TBg := tb_1 220 (by decide +kernel) rfl
theorem wd_221 : (Jvm.Cond.code ({ cls := "java/lang/StringLatin1", name := "charAt", desc := "([BI)C" } : Jvm.MethodName) prog_13_method_2_code (2 : Nat) (Option.some Jvm.ClassFile.FieldType.char)) ∈ TBg := tb_1 221 (by decide +kernel) rfl
theorem wd_222 : (Jvm.Cond.methodLink "java/lang/StringLatin1" (9 : Nat) ({ cls := "java/lang/String", name := "checkIndex", desc := "(II)V" } : Jvm.MethodName)) ∈ TBg := tb_1 222 (by decide +kernel) rfl
theorem wd_223 : (Jvm.Cond.static ({ cls := "java/lang/String", name := "checkIndex", desc := "(II)V" } : Jvm.MethodName)) ∈ TBg := tb_1 223 (by decide +kernel) rfl
theorem wd_224 : (Jvm.Cond.code ({ cls := "java/lang/String", name := "checkIndex", desc := "(II)V" } : Jvm.MethodName) prog_12_method_155_code (2 : Nat) (Option.none : Option Jvm.ClassFile.FieldType)) ∈ TBg := tb_1 224 (by decide +kernel) rfl
theorem wd_225 : (Jvm.Cond.fieldLink "java/lang/String" (1053 : Nat) "jdk/internal/util/Preconditions" "SIOOBE_FORMATTER" "Ljava/util/function/BiFunction;") ∈ TBg := tb_1 225 (by decide +kernel) rfl
theorem wd_227 : (Jvm.Cond.methodLink "java/lang/String" (1059 : Nat) ({ cls := "jdk/internal/util/Preconditions", name := "checkIndex", desc := "(IILjava/util/function/BiFunction;)I" } : Jvm.MethodName)) ∈ TBg := tb_1 227 (by decide +kernel) rfl
theorem wd_228 : (Jvm.Cond.static ({ cls := "jdk/internal/util/Preconditions", name := "checkIndex", desc := "(IILjava/util/function/BiFunction;)I" } : Jvm.MethodName)) ∈ TBg := tb_1 228 (by decide +kernel) rfl
theorem wd_229 : (Jvm.Cond.code ({ cls := "jdk/internal/util/Preconditions", name := "checkIndex", desc := "(IILjava/util/function/BiFunction;)I" } : Jvm.MethodName) prog_15_method_11_code (3 : Nat) (Option.some Jvm.ClassFile.FieldType.int)) ∈ TBg := tb_1 229 (by decide +kernel) rfl
theorem wd_249 : (Jvm.Cond.methodLink "GoneIntoItsTunnel$Letters" (47 : Nat) ({ cls := "GoneIntoItsTunnel$Letters", name := "fits", desc := "(II)Z" } : Jvm.MethodName)) ∈ TBg := tb_2 9 (by decide +kernel) rfl
theorem wd_250 : (Jvm.Cond.static ({ cls := "GoneIntoItsTunnel$Letters", name := "fits", desc := "(II)Z" } : Jvm.MethodName)) ∈ TBg := tb_2 10 (by decide +kernel) rfl
theorem wd_251 : (Jvm.Cond.code ({ cls := "GoneIntoItsTunnel$Letters", name := "fits", desc := "(II)Z" } : Jvm.MethodName) prog_4_method_12_code (2 : Nat) (Option.some Jvm.ClassFile.FieldType.boolean)) ∈ TBg := tb_2 11 (by decide +kernel) rfl
theorem wd_252 : (Jvm.Cond.methodLink "GoneIntoItsTunnel$Letters" (63 : Nat) ({ cls := "GoneIntoItsTunnel$Kind", name := "isSign", desc := "(I)Z" } : Jvm.MethodName)) ∈ TBg := tb_2 12 (by decide +kernel) rfl
theorem wd_253 : (Jvm.Cond.static ({ cls := "GoneIntoItsTunnel$Kind", name := "isSign", desc := "(I)Z" } : Jvm.MethodName)) ∈ TBg := tb_2 13 (by decide +kernel) rfl
theorem wd_254 : (Jvm.Cond.code ({ cls := "GoneIntoItsTunnel$Kind", name := "isSign", desc := "(I)Z" } : Jvm.MethodName) prog_3_method_2_code (1 : Nat) (Option.some Jvm.ClassFile.FieldType.boolean)) ∈ TBg := tb_2 14 (by decide +kernel) rfl
theorem wd_256 : (Jvm.Cond.methodLink "GoneIntoItsTunnel$Kind" (11 : Nat) ({ cls := "java/lang/String", name := "indexOf", desc := "(I)I" } : Jvm.MethodName)) ∈ TBg := tb_2 16 (by decide +kernel) rfl
theorem wd_257 : (Jvm.Cond.instanceMethod ({ cls := "java/lang/String", name := "indexOf", desc := "(I)I" } : Jvm.MethodName)) ∈ TBg := tb_2 17 (by decide +kernel) rfl
theorem wd_258 : (Jvm.Cond.selects "java/lang/String" ({ cls := "java/lang/String", name := "indexOf", desc := "(I)I" } : Jvm.MethodName) ({ cls := "java/lang/String", name := "indexOf", desc := "(I)I" } : Jvm.MethodName)) ∈ TBg := tb_2 18 (by decide +kernel) rfl
theorem wd_259 : (Jvm.Cond.code ({ cls := "java/lang/String", name := "indexOf", desc := "(I)I" } : Jvm.MethodName) prog_12_method_79_code (2 : Nat) (Option.some Jvm.ClassFile.FieldType.int)) ∈ TBg := tb_2 19 (by decide +kernel) rfl
theorem wd_260 : (Jvm.Cond.methodLink "java/lang/String" (633 : Nat) ({ cls := "java/lang/String", name := "indexOf", desc := "(II)I" } : Jvm.MethodName)) ∈ TBg := tb_2 20 (by decide +kernel) rfl
theorem wd_261 : (Jvm.Cond.instanceMethod ({ cls := "java/lang/String", name := "indexOf", desc := "(II)I" } : Jvm.MethodName)) ∈ TBg := tb_2 21 (by decide +kernel) rfl
theorem wd_262 : (Jvm.Cond.selects "java/lang/String" ({ cls := "java/lang/String", name := "indexOf", desc := "(II)I" } : Jvm.MethodName) ({ cls := "java/lang/String", name := "indexOf", desc := "(II)I" } : Jvm.MethodName)) ∈ TBg := tb_2 22 (by decide +kernel) rfl
theorem wd_263 : (Jvm.Cond.code ({ cls := "java/lang/String", name := "indexOf", desc := "(II)I" } : Jvm.MethodName) prog_12_method_80_code (3 : Nat) (Option.some Jvm.ClassFile.FieldType.int)) ∈ TBg := tb_2 23 (by decide +kernel) rfl
theorem wd_264 : (Jvm.Cond.methodLink "java/lang/String" (505 : Nat) ({ cls := "java/lang/String", name := "length", desc := "()I" } : Jvm.MethodName)) ∈ TBg := tb_2 24 (by decide +kernel) rfl
theorem wd_265 : (Jvm.Cond.methodLink "java/lang/String" (637 : Nat) ({ cls := "java/lang/StringLatin1", name := "indexOf", desc := "([BIII)I" } : Jvm.MethodName)) ∈ TBg := tb_2 25 (by decide +kernel) rfl
theorem wd_266 : (Jvm.Cond.static ({ cls := "java/lang/StringLatin1", name := "indexOf", desc := "([BIII)I" } : Jvm.MethodName)) ∈ TBg := tb_2 26 (by decide +kernel) rfl
theorem wd_267 : (Jvm.Cond.code ({ cls := "java/lang/StringLatin1", name := "indexOf", desc := "([BIII)I" } : Jvm.MethodName) prog_13_method_22_code (4 : Nat) (Option.some Jvm.ClassFile.FieldType.int)) ∈ TBg := tb_2 27 (by decide +kernel) rfl
theorem wd_268 : (Jvm.Cond.methodLink "java/lang/StringLatin1" (88 : Nat) ({ cls := "java/lang/StringLatin1", name := "canEncode", desc := "(I)Z" } : Jvm.MethodName)) ∈ TBg := tb_2 28 (by decide +kernel) rfl
theorem wd_269 : (Jvm.Cond.static ({ cls := "java/lang/StringLatin1", name := "canEncode", desc := "(I)Z" } : Jvm.MethodName)) ∈ TBg := tb_2 29 (by decide +kernel) rfl
theorem wd_270 : (Jvm.Cond.code ({ cls := "java/lang/StringLatin1", name := "canEncode", desc := "(I)Z" } : Jvm.MethodName) prog_13_method_4_code (1 : Nat) (Option.some Jvm.ClassFile.FieldType.boolean)) ∈ TBg := tb_2 30 (by decide +kernel) rfl
theorem wd_271 : (Jvm.Cond.methodLink "java/lang/StringLatin1" (92 : Nat) ({ cls := "java/lang/Math", name := "max", desc := "(II)I" } : Jvm.MethodName)) ∈ TBg := tb_2 31 (by decide +kernel) rfl
theorem wd_272 : (Jvm.Cond.static ({ cls := "java/lang/Math", name := "max", desc := "(II)I" } : Jvm.MethodName)) ∈ TBg := tb_2 32 (by decide +kernel) rfl
theorem wd_274 : (Jvm.Cond.methodLink "java/lang/StringLatin1" (38 : Nat) ({ cls := "java/lang/Math", name := "min", desc := "(II)I" } : Jvm.MethodName)) ∈ TBg := tb_2 34 (by decide +kernel) rfl
theorem wd_275 : (Jvm.Cond.static ({ cls := "java/lang/Math", name := "min", desc := "(II)I" } : Jvm.MethodName)) ∈ TBg := tb_2 35 (by decide +kernel) rfl
theorem wd_277 : (Jvm.Cond.methodLink "java/lang/StringLatin1" (95 : Nat) ({ cls := "java/lang/StringLatin1", name := "indexOfChar", desc := "([BIII)I" } : Jvm.MethodName)) ∈ TBg := tb_2 37 (by decide +kernel) rfl
theorem wd_278 : (Jvm.Cond.static ({ cls := "java/lang/StringLatin1", name := "indexOfChar", desc := "([BIII)I" } : Jvm.MethodName)) ∈ TBg := tb_2 38 (by decide +kernel) rfl
theorem wd_279 : (Jvm.Cond.code ({ cls := "java/lang/StringLatin1", name := "indexOfChar", desc := "([BIII)I" } : Jvm.MethodName) prog_13_method_23_code (6 : Nat) (Option.some Jvm.ClassFile.FieldType.int)) ∈ TBg := tb_2 39 (by decide +kernel) rfl
theorem wd_315 : (Jvm.Cond.methodLink "GoneIntoItsTunnel" (82 : Nat) ({ cls := "GoneIntoItsTunnel", name := "statementsCome", desc := "()I" } : Jvm.MethodName)) ∈ TBg := tb_2 75 (by decide +kernel) rfl
theorem wd_317 : (Jvm.Cond.instanceMethod ({ cls := "GoneIntoItsTunnel", name := "statementsCome", desc := "()I" } : Jvm.MethodName)) ∈ TBg := tb_2 77 (by decide +kernel) rfl
theorem wd_318 : (Jvm.Cond.code ({ cls := "GoneIntoItsTunnel", name := "statementsCome", desc := "()I" } : Jvm.MethodName) prog_1_method_43_code (3 : Nat) (Option.some Jvm.ClassFile.FieldType.int)) ∈ TBg := tb_2 78 (by decide +kernel) rfl
theorem wd_319 : (Jvm.Cond.methodLink "GoneIntoItsTunnel" (195 : Nat) ({ cls := "GoneIntoItsTunnel$Hem", name := "copyFrom", desc := "(LGoneIntoItsTunnel$Hem;)V" } : Jvm.MethodName)) ∈ TBg := tb_2 79 (by decide +kernel) rfl
theorem wd_320 : (Jvm.Cond.instanceMethod ({ cls := "GoneIntoItsTunnel$Hem", name := "copyFrom", desc := "(LGoneIntoItsTunnel$Hem;)V" } : Jvm.MethodName)) ∈ TBg := tb_2 80 (by decide +kernel) rfl
theorem wd_321 : (Jvm.Cond.selects "GoneIntoItsTunnel$Hem" ({ cls := "GoneIntoItsTunnel$Hem", name := "copyFrom", desc := "(LGoneIntoItsTunnel$Hem;)V" } : Jvm.MethodName) ({ cls := "GoneIntoItsTunnel$Hem", name := "copyFrom", desc := "(LGoneIntoItsTunnel$Hem;)V" } : Jvm.MethodName)) ∈ TBg := tb_2 81 (by decide +kernel) rfl
theorem wd_322 : (Jvm.Cond.code ({ cls := "GoneIntoItsTunnel$Hem", name := "copyFrom", desc := "(LGoneIntoItsTunnel$Hem;)V" } : Jvm.MethodName) prog_2_method_2_code (3 : Nat) (Option.none : Option Jvm.ClassFile.FieldType)) ∈ TBg := tb_2 82 (by decide +kernel) rfl
theorem wd_323 : (Jvm.Cond.methodLink "GoneIntoItsTunnel$Hem" (44 : Nat) ({ cls := "GoneIntoItsTunnel$Hem", name := "kindAt", desc := "(I)I" } : Jvm.MethodName)) ∈ TBg := tb_2 83 (by decide +kernel) rfl
theorem wd_324 : (Jvm.Cond.instanceMethod ({ cls := "GoneIntoItsTunnel$Hem", name := "kindAt", desc := "(I)I" } : Jvm.MethodName)) ∈ TBg := tb_2 84 (by decide +kernel) rfl
theorem wd_325 : (Jvm.Cond.selects "GoneIntoItsTunnel$Hem" ({ cls := "GoneIntoItsTunnel$Hem", name := "kindAt", desc := "(I)I" } : Jvm.MethodName) ({ cls := "GoneIntoItsTunnel$Hem", name := "kindAt", desc := "(I)I" } : Jvm.MethodName)) ∈ TBg := tb_2 85 (by decide +kernel) rfl
theorem wd_326 : (Jvm.Cond.code ({ cls := "GoneIntoItsTunnel$Hem", name := "kindAt", desc := "(I)I" } : Jvm.MethodName) prog_2_method_4_code (2 : Nat) (Option.some Jvm.ClassFile.FieldType.int)) ∈ TBg := tb_2 86 (by decide +kernel) rfl
theorem wd_327 : (Jvm.Cond.methodLink "GoneIntoItsTunnel$Hem" (48 : Nat) ({ cls := "GoneIntoItsTunnel$Hem", name := "figureAt", desc := "(I)I" } : Jvm.MethodName)) ∈ TBg := tb_2 87 (by decide +kernel) rfl
theorem wd_328 : (Jvm.Cond.instanceMethod ({ cls := "GoneIntoItsTunnel$Hem", name := "figureAt", desc := "(I)I" } : Jvm.MethodName)) ∈ TBg := tb_2 88 (by decide +kernel) rfl
theorem wd_329 : (Jvm.Cond.selects "GoneIntoItsTunnel$Hem" ({ cls := "GoneIntoItsTunnel$Hem", name := "figureAt", desc := "(I)I" } : Jvm.MethodName) ({ cls := "GoneIntoItsTunnel$Hem", name := "figureAt", desc := "(I)I" } : Jvm.MethodName)) ∈ TBg := tb_2 89 (by decide +kernel) rfl
theorem wd_330 : (Jvm.Cond.code ({ cls := "GoneIntoItsTunnel$Hem", name := "figureAt", desc := "(I)I" } : Jvm.MethodName) prog_2_method_5_code (2 : Nat) (Option.some Jvm.ClassFile.FieldType.int)) ∈ TBg := tb_2 90 (by decide +kernel) rfl
theorem wd_331 : (Jvm.Cond.methodLink "GoneIntoItsTunnel$Hem" (51 : Nat) ({ cls := "GoneIntoItsTunnel$Hem", name := "make", desc := "(III)V" } : Jvm.MethodName)) ∈ TBg := tb_2 91 (by decide +kernel) rfl
theorem wd_332 : (Jvm.Cond.instanceMethod ({ cls := "GoneIntoItsTunnel$Hem", name := "make", desc := "(III)V" } : Jvm.MethodName)) ∈ TBg := tb_2 92 (by decide +kernel) rfl
theorem wd_333 : (Jvm.Cond.selects "GoneIntoItsTunnel$Hem" ({ cls := "GoneIntoItsTunnel$Hem", name := "make", desc := "(III)V" } : Jvm.MethodName) ({ cls := "GoneIntoItsTunnel$Hem", name := "make", desc := "(III)V" } : Jvm.MethodName)) ∈ TBg := tb_2 93 (by decide +kernel) rfl
theorem wd_334 : (Jvm.Cond.code ({ cls := "GoneIntoItsTunnel$Hem", name := "make", desc := "(III)V" } : Jvm.MethodName) prog_2_method_6_code (4 : Nat) (Option.none : Option Jvm.ClassFile.FieldType)) ∈ TBg := tb_2 94 (by decide +kernel) rfl
theorem wd_335 : (Jvm.Cond.methodLink "GoneIntoItsTunnel" (262 : Nat) ({ cls := "GoneIntoItsTunnel", name := "isAsItMustBe", desc := "(I)Z" } : Jvm.MethodName)) ∈ TBg := tb_2 95 (by decide +kernel) rfl
theorem wd_337 : (Jvm.Cond.instanceMethod ({ cls := "GoneIntoItsTunnel", name := "isAsItMustBe", desc := "(I)Z" } : Jvm.MethodName)) ∈ TBg := tb_2 97 (by decide +kernel) rfl
theorem wd_338 : (Jvm.Cond.code ({ cls := "GoneIntoItsTunnel", name := "isAsItMustBe", desc := "(I)Z" } : Jvm.MethodName) prog_1_method_44_code (2 : Nat) (Option.some Jvm.ClassFile.FieldType.boolean)) ∈ TBg := tb_2 98 (by decide +kernel) rfl
theorem wd_339 : (Jvm.Cond.methodLink "GoneIntoItsTunnel" (271 : Nat) ({ cls := "GoneIntoItsTunnel$Letters", name := "signAt", desc := "(I)I" } : Jvm.MethodName)) ∈ TBg := tb_2 99 (by decide +kernel) rfl
theorem wd_340 : (Jvm.Cond.methodLink "GoneIntoItsTunnel" (274 : Nat) ({ cls := "GoneIntoItsTunnel$Letters", name := "number", desc := "(I)I" } : Jvm.MethodName)) ∈ TBg := tb_2 100 (by decide +kernel) rfl
theorem wd_341 : (Jvm.Cond.instanceMethod ({ cls := "GoneIntoItsTunnel$Letters", name := "number", desc := "(I)I" } : Jvm.MethodName)) ∈ TBg := tb_2 101 (by decide +kernel) rfl
theorem wd_342 : (Jvm.Cond.selects "GoneIntoItsTunnel$Letters" ({ cls := "GoneIntoItsTunnel$Letters", name := "number", desc := "(I)I" } : Jvm.MethodName) ({ cls := "GoneIntoItsTunnel$Letters", name := "number", desc := "(I)I" } : Jvm.MethodName)) ∈ TBg := tb_2 102 (by decide +kernel) rfl
theorem wd_343 : (Jvm.Cond.code ({ cls := "GoneIntoItsTunnel$Letters", name := "number", desc := "(I)I" } : Jvm.MethodName) prog_4_method_7_code (2 : Nat) (Option.some Jvm.ClassFile.FieldType.int)) ∈ TBg := tb_2 103 (by decide +kernel) rfl
theorem wd_344 : (Jvm.Cond.methodLink "GoneIntoItsTunnel$Letters" (23 : Nat) ({ cls := "GoneIntoItsTunnel$Letters", name := "digit", desc := "(I)I" } : Jvm.MethodName)) ∈ TBg := tb_2 104 (by decide +kernel) rfl
theorem wd_345 : (Jvm.Cond.instanceMethod ({ cls := "GoneIntoItsTunnel$Letters", name := "digit", desc := "(I)I" } : Jvm.MethodName)) ∈ TBg := tb_2 105 (by decide +kernel) rfl
theorem wd_346 : (Jvm.Cond.selects "GoneIntoItsTunnel$Letters" ({ cls := "GoneIntoItsTunnel$Letters", name := "digit", desc := "(I)I" } : Jvm.MethodName) ({ cls := "GoneIntoItsTunnel$Letters", name := "digit", desc := "(I)I" } : Jvm.MethodName)) ∈ TBg := tb_2 106 (by decide +kernel) rfl
theorem wd_347 : (Jvm.Cond.code ({ cls := "GoneIntoItsTunnel$Letters", name := "digit", desc := "(I)I" } : Jvm.MethodName) prog_4_method_6_code (2 : Nat) (Option.some Jvm.ClassFile.FieldType.int)) ∈ TBg := tb_2 107 (by decide +kernel) rfl
theorem wd_348 : (Jvm.Cond.methodLink "GoneIntoItsTunnel" (88 : Nat) ({ cls := "GoneIntoItsTunnel$Hem", name := "hasInch", desc := "(I)Z" } : Jvm.MethodName)) ∈ TBg := tb_2 108 (by decide +kernel) rfl
theorem wd_349 : (Jvm.Cond.instanceMethod ({ cls := "GoneIntoItsTunnel$Hem", name := "hasInch", desc := "(I)Z" } : Jvm.MethodName)) ∈ TBg := tb_2 109 (by decide +kernel) rfl
theorem wd_350 : (Jvm.Cond.selects "GoneIntoItsTunnel$Hem" ({ cls := "GoneIntoItsTunnel$Hem", name := "hasInch", desc := "(I)Z" } : Jvm.MethodName) ({ cls := "GoneIntoItsTunnel$Hem", name := "hasInch", desc := "(I)Z" } : Jvm.MethodName)) ∈ TBg := tb_2 110 (by decide +kernel) rfl
theorem wd_351 : (Jvm.Cond.code ({ cls := "GoneIntoItsTunnel$Hem", name := "hasInch", desc := "(I)Z" } : Jvm.MethodName) prog_2_method_3_code (2 : Nat) (Option.some Jvm.ClassFile.FieldType.boolean)) ∈ TBg := tb_2 111 (by decide +kernel) rfl
theorem wd_352 : (Jvm.Cond.methodLink "GoneIntoItsTunnel" (277 : Nat) ({ cls := "GoneIntoItsTunnel$Letters", name := "digit", desc := "(I)I" } : Jvm.MethodName)) ∈ TBg := tb_2 112 (by decide +kernel) rfl
theorem wd_353 : (Jvm.Cond.methodLink "GoneIntoItsTunnel" (119 : Nat) ({ cls := "GoneIntoItsTunnel", name := "isEnd", desc := "(I)Z" } : Jvm.MethodName)) ∈ TBg := tb_2 113 (by decide +kernel) rfl
theorem wd_354 : (Jvm.Cond.static ({ cls := "GoneIntoItsTunnel", name := "isEnd", desc := "(I)Z" } : Jvm.MethodName)) ∈ TBg := tb_2 114 (by decide +kernel) rfl
theorem wd_355 : (Jvm.Cond.code ({ cls := "GoneIntoItsTunnel", name := "isEnd", desc := "(I)Z" } : Jvm.MethodName) prog_1_method_38_code (1 : Nat) (Option.some Jvm.ClassFile.FieldType.boolean)) ∈ TBg := tb_2 115 (by decide +kernel) rfl
theorem wd_356 : (Jvm.Cond.methodLink "GoneIntoItsTunnel" (280 : Nat) ({ cls := "GoneIntoItsTunnel$Letters", name := "signed", desc := "(I)I" } : Jvm.MethodName)) ∈ TBg := tb_2 116 (by decide +kernel) rfl
theorem wd_357 : (Jvm.Cond.instanceMethod ({ cls := "GoneIntoItsTunnel$Letters", name := "signed", desc := "(I)I" } : Jvm.MethodName)) ∈ TBg := tb_2 117 (by decide +kernel) rfl
theorem wd_358 : (Jvm.Cond.selects "GoneIntoItsTunnel$Letters" ({ cls := "GoneIntoItsTunnel$Letters", name := "signed", desc := "(I)I" } : Jvm.MethodName) ({ cls := "GoneIntoItsTunnel$Letters", name := "signed", desc := "(I)I" } : Jvm.MethodName)) ∈ TBg := tb_2 118 (by decide +kernel) rfl
theorem wd_359 : (Jvm.Cond.code ({ cls := "GoneIntoItsTunnel$Letters", name := "signed", desc := "(I)I" } : Jvm.MethodName) prog_4_method_8_code (2 : Nat) (Option.some Jvm.ClassFile.FieldType.int)) ∈ TBg := tb_2 119 (by decide +kernel) rfl
theorem wd_360 : (Jvm.Cond.methodLink "GoneIntoItsTunnel$Letters" (26 : Nat) ({ cls := "GoneIntoItsTunnel$Letters", name := "number", desc := "(I)I" } : Jvm.MethodName)) ∈ TBg := tb_2 120 (by decide +kernel) rfl
theorem wd_361 : (Jvm.Cond.methodLink "GoneIntoItsTunnel" (265 : Nat) ({ cls := "GoneIntoItsTunnel", name := "comes", desc := "(I)V" } : Jvm.MethodName)) ∈ TBg := tb_2 121 (by decide +kernel) rfl
theorem wd_363 : (Jvm.Cond.instanceMethod ({ cls := "GoneIntoItsTunnel", name := "comes", desc := "(I)V" } : Jvm.MethodName)) ∈ TBg := tb_2 123 (by decide +kernel) rfl
theorem wd_364 : (Jvm.Cond.code ({ cls := "GoneIntoItsTunnel", name := "comes", desc := "(I)V" } : Jvm.MethodName) prog_1_method_45_code (3 : Nat) (Option.none : Option Jvm.ClassFile.FieldType)) ∈ TBg := tb_2 124 (by decide +kernel) rfl
theorem wd_365 : (Jvm.Cond.methodLink "GoneIntoItsTunnel" (283 : Nat) ({ cls := "GoneIntoItsTunnel$Kind", name := "ofSign", desc := "(I)I" } : Jvm.MethodName)) ∈ TBg := tb_2 125 (by decide +kernel) rfl
theorem wd_366 : (Jvm.Cond.static ({ cls := "GoneIntoItsTunnel$Kind", name := "ofSign", desc := "(I)I" } : Jvm.MethodName)) ∈ TBg := tb_2 126 (by decide +kernel) rfl
theorem wd_367 : (Jvm.Cond.code ({ cls := "GoneIntoItsTunnel$Kind", name := "ofSign", desc := "(I)I" } : Jvm.MethodName) prog_3_method_3_code (1 : Nat) (Option.some Jvm.ClassFile.FieldType.int)) ∈ TBg := tb_2 127 (by decide +kernel) rfl
theorem wd_368 : (Jvm.Cond.methodLink "GoneIntoItsTunnel$Kind" (17 : Nat) ({ cls := "java/lang/Math", name := "max", desc := "(II)I" } : Jvm.MethodName)) ∈ TBg := tb_2 128 (by decide +kernel) rfl
theorem wd_369 : (Jvm.Cond.methodLink "GoneIntoItsTunnel" (112 : Nat) ({ cls := "GoneIntoItsTunnel$Hem", name := "make", desc := "(III)V" } : Jvm.MethodName)) ∈ TBg := tb_2 129 (by decide +kernel) rfl
theorem wd_370 : (Jvm.Cond.methodLink "GoneIntoItsTunnel" (128 : Nat) ({ cls := "GoneIntoItsTunnel$Hem", name := "place", desc := "(II)V" } : Jvm.MethodName)) ∈ TBg := tb_2 130 (by decide +kernel) rfl
theorem wd_371 : (Jvm.Cond.instanceMethod ({ cls := "GoneIntoItsTunnel$Hem", name := "place", desc := "(II)V" } : Jvm.MethodName)) ∈ TBg := tb_2 131 (by decide +kernel) rfl
theorem wd_372 : (Jvm.Cond.selects "GoneIntoItsTunnel$Hem" ({ cls := "GoneIntoItsTunnel$Hem", name := "place", desc := "(II)V" } : Jvm.MethodName) ({ cls := "GoneIntoItsTunnel$Hem", name := "place", desc := "(II)V" } : Jvm.MethodName)) ∈ TBg := tb_2 132 (by decide +kernel) rfl
theorem wd_373 : (Jvm.Cond.code ({ cls := "GoneIntoItsTunnel$Hem", name := "place", desc := "(II)V" } : Jvm.MethodName) prog_2_method_16_code (3 : Nat) (Option.none : Option Jvm.ClassFile.FieldType)) ∈ TBg := tb_2 133 (by decide +kernel) rfl
theorem wd_374 : (Jvm.Cond.methodLink "GoneIntoItsTunnel" (132 : Nat) ({ cls := "GoneIntoItsTunnel$Hem", name := "isKnotted", desc := "(I)Z" } : Jvm.MethodName)) ∈ TBg := tb_2 134 (by decide +kernel) rfl
theorem wd_375 : (Jvm.Cond.instanceMethod ({ cls := "GoneIntoItsTunnel$Hem", name := "isKnotted", desc := "(I)Z" } : Jvm.MethodName)) ∈ TBg := tb_2 135 (by decide +kernel) rfl
theorem wd_376 : (Jvm.Cond.selects "GoneIntoItsTunnel$Hem" ({ cls := "GoneIntoItsTunnel$Hem", name := "isKnotted", desc := "(I)Z" } : Jvm.MethodName) ({ cls := "GoneIntoItsTunnel$Hem", name := "isKnotted", desc := "(I)Z" } : Jvm.MethodName)) ∈ TBg := tb_2 136 (by decide +kernel) rfl
theorem wd_377 : (Jvm.Cond.code ({ cls := "GoneIntoItsTunnel$Hem", name := "isKnotted", desc := "(I)Z" } : Jvm.MethodName) prog_2_method_17_code (2 : Nat) (Option.some Jvm.ClassFile.FieldType.boolean)) ∈ TBg := tb_2 137 (by decide +kernel) rfl
theorem wd_378 : (Jvm.Cond.methodLink "GoneIntoItsTunnel" (135 : Nat) ({ cls := "GoneIntoItsTunnel$Hem", name := "knot", desc := "(IZ)V" } : Jvm.MethodName)) ∈ TBg := tb_2 138 (by decide +kernel) rfl
theorem wd_379 : (Jvm.Cond.instanceMethod ({ cls := "GoneIntoItsTunnel$Hem", name := "knot", desc := "(IZ)V" } : Jvm.MethodName)) ∈ TBg := tb_2 139 (by decide +kernel) rfl
theorem wd_380 : (Jvm.Cond.selects "GoneIntoItsTunnel$Hem" ({ cls := "GoneIntoItsTunnel$Hem", name := "knot", desc := "(IZ)V" } : Jvm.MethodName) ({ cls := "GoneIntoItsTunnel$Hem", name := "knot", desc := "(IZ)V" } : Jvm.MethodName)) ∈ TBg := tb_2 140 (by decide +kernel) rfl
theorem wd_381 : (Jvm.Cond.code ({ cls := "GoneIntoItsTunnel$Hem", name := "knot", desc := "(IZ)V" } : Jvm.MethodName) prog_2_method_18_code (3 : Nat) (Option.none : Option Jvm.ClassFile.FieldType)) ∈ TBg := tb_2 141 (by decide +kernel) rfl
theorem wd_382 : (Jvm.Cond.methodLink "GoneIntoItsTunnel" (169 : Nat) ({ cls := "GoneIntoItsTunnel$Hem", name := "washTimes", desc := "(I)V" } : Jvm.MethodName)) ∈ TBg := tb_2 142 (by decide +kernel) rfl
theorem wd_383 : (Jvm.Cond.instanceMethod ({ cls := "GoneIntoItsTunnel$Hem", name := "washTimes", desc := "(I)V" } : Jvm.MethodName)) ∈ TBg := tb_2 143 (by decide +kernel) rfl
theorem wd_384 : (Jvm.Cond.selects "GoneIntoItsTunnel$Hem" ({ cls := "GoneIntoItsTunnel$Hem", name := "washTimes", desc := "(I)V" } : Jvm.MethodName) ({ cls := "GoneIntoItsTunnel$Hem", name := "washTimes", desc := "(I)V" } : Jvm.MethodName)) ∈ TBg := tb_2 144 (by decide +kernel) rfl
theorem wd_385 : (Jvm.Cond.code ({ cls := "GoneIntoItsTunnel$Hem", name := "washTimes", desc := "(I)V" } : Jvm.MethodName) prog_2_method_25_code (3 : Nat) (Option.none : Option Jvm.ClassFile.FieldType)) ∈ TBg := tb_2 145 (by decide +kernel) rfl
theorem wd_386 : (Jvm.Cond.methodLink "GoneIntoItsTunnel$Hem" (108 : Nat) ({ cls := "GoneIntoItsTunnel$Hem", name := "washOnce", desc := "()I" } : Jvm.MethodName)) ∈ TBg := tb_2 146 (by decide +kernel) rfl
theorem wd_387 : (Jvm.Cond.instanceMethod ({ cls := "GoneIntoItsTunnel$Hem", name := "washOnce", desc := "()I" } : Jvm.MethodName)) ∈ TBg := tb_2 147 (by decide +kernel) rfl
theorem wd_388 : (Jvm.Cond.selects "GoneIntoItsTunnel$Hem" ({ cls := "GoneIntoItsTunnel$Hem", name := "washOnce", desc := "()I" } : Jvm.MethodName) ({ cls := "GoneIntoItsTunnel$Hem", name := "washOnce", desc := "()I" } : Jvm.MethodName)) ∈ TBg := tb_2 148 (by decide +kernel) rfl
theorem wd_389 : (Jvm.Cond.code ({ cls := "GoneIntoItsTunnel$Hem", name := "washOnce", desc := "()I" } : Jvm.MethodName) prog_2_method_24_code (2 : Nat) (Option.some Jvm.ClassFile.FieldType.int)) ∈ TBg := tb_2 149 (by decide +kernel) rfl
theorem wd_390 : (Jvm.Cond.methodLink "GoneIntoItsTunnel$Hem" (79 : Nat) ({ cls := "GoneIntoItsTunnel$Hem", name := "depth", desc := "(I)I" } : Jvm.MethodName)) ∈ TBg := tb_2 150 (by decide +kernel) rfl
theorem wd_391 : (Jvm.Cond.instanceMethod ({ cls := "GoneIntoItsTunnel$Hem", name := "depth", desc := "(I)I" } : Jvm.MethodName)) ∈ TBg := tb_2 151 (by decide +kernel) rfl
theorem wd_392 : (Jvm.Cond.selects "GoneIntoItsTunnel$Hem" ({ cls := "GoneIntoItsTunnel$Hem", name := "depth", desc := "(I)I" } : Jvm.MethodName) ({ cls := "GoneIntoItsTunnel$Hem", name := "depth", desc := "(I)I" } : Jvm.MethodName)) ∈ TBg := tb_2 152 (by decide +kernel) rfl
theorem wd_393 : (Jvm.Cond.code ({ cls := "GoneIntoItsTunnel$Hem", name := "depth", desc := "(I)I" } : Jvm.MethodName) prog_2_method_15_code (2 : Nat) (Option.some Jvm.ClassFile.FieldType.int)) ∈ TBg := tb_2 153 (by decide +kernel) rfl
theorem wd_394 : (Jvm.Cond.methodLink "GoneIntoItsTunnel$Hem" (100 : Nat) ({ cls := "GoneIntoItsTunnel$Hem", name := "inchAt", desc := "(II)I" } : Jvm.MethodName)) ∈ TBg := tb_2 154 (by decide +kernel) rfl
theorem wd_395 : (Jvm.Cond.instanceMethod ({ cls := "GoneIntoItsTunnel$Hem", name := "inchAt", desc := "(II)I" } : Jvm.MethodName)) ∈ TBg := tb_2 155 (by decide +kernel) rfl
theorem wd_396 : (Jvm.Cond.selects "GoneIntoItsTunnel$Hem" ({ cls := "GoneIntoItsTunnel$Hem", name := "inchAt", desc := "(II)I" } : Jvm.MethodName) ({ cls := "GoneIntoItsTunnel$Hem", name := "inchAt", desc := "(II)I" } : Jvm.MethodName)) ∈ TBg := tb_2 156 (by decide +kernel) rfl
theorem wd_397 : (Jvm.Cond.code ({ cls := "GoneIntoItsTunnel$Hem", name := "inchAt", desc := "(II)I" } : Jvm.MethodName) prog_2_method_21_code (4 : Nat) (Option.some Jvm.ClassFile.FieldType.int)) ∈ TBg := tb_2 157 (by decide +kernel) rfl
theorem wd_398 : (Jvm.Cond.methodLink "GoneIntoItsTunnel$Hem" (85 : Nat) ({ cls := "java/lang/Math", name := "min", desc := "(II)I" } : Jvm.MethodName)) ∈ TBg := tb_2 158 (by decide +kernel) rfl
theorem wd_399 : (Jvm.Cond.methodLink "GoneIntoItsTunnel$Hem" (103 : Nat) ({ cls := "GoneIntoItsTunnel$Hem", name := "washDraw", desc := "(I)I" } : Jvm.MethodName)) ∈ TBg := tb_2 159 (by decide +kernel) rfl
theorem wd_400 : (Jvm.Cond.instanceMethod ({ cls := "GoneIntoItsTunnel$Hem", name := "washDraw", desc := "(I)I" } : Jvm.MethodName)) ∈ TBg := tb_2 160 (by decide +kernel) rfl
theorem wd_401 : (Jvm.Cond.selects "GoneIntoItsTunnel$Hem" ({ cls := "GoneIntoItsTunnel$Hem", name := "washDraw", desc := "(I)I" } : Jvm.MethodName) ({ cls := "GoneIntoItsTunnel$Hem", name := "washDraw", desc := "(I)I" } : Jvm.MethodName)) ∈ TBg := tb_2 161 (by decide +kernel) rfl
theorem wd_402 : (Jvm.Cond.code ({ cls := "GoneIntoItsTunnel$Hem", name := "washDraw", desc := "(I)I" } : Jvm.MethodName) prog_2_method_10_code (2 : Nat) (Option.some Jvm.ClassFile.FieldType.int)) ∈ TBg := tb_2 162 (by decide +kernel) rfl
theorem wd_403 : (Jvm.Cond.methodLink "GoneIntoItsTunnel$Hem" (67 : Nat) ({ cls := "GoneIntoItsTunnel$Kind", name := "washDraw", desc := "(II)I" } : Jvm.MethodName)) ∈ TBg := tb_2 163 (by decide +kernel) rfl
theorem wd_404 : (Jvm.Cond.static ({ cls := "GoneIntoItsTunnel$Kind", name := "washDraw", desc := "(II)I" } : Jvm.MethodName)) ∈ TBg := tb_2 164 (by decide +kernel) rfl
theorem wd_405 : (Jvm.Cond.code ({ cls := "GoneIntoItsTunnel$Kind", name := "washDraw", desc := "(II)I" } : Jvm.MethodName) prog_3_method_8_code (2 : Nat) (Option.some Jvm.ClassFile.FieldType.int)) ∈ TBg := tb_2 165 (by decide +kernel) rfl
theorem wd_406 : (Jvm.Cond.methodLink "GoneIntoItsTunnel$Hem" (105 : Nat) ({ cls := "GoneIntoItsTunnel$Hem", name := "draw", desc := "(II)I" } : Jvm.MethodName)) ∈ TBg := tb_2 166 (by decide +kernel) rfl
theorem wd_407 : (Jvm.Cond.instanceMethod ({ cls := "GoneIntoItsTunnel$Hem", name := "draw", desc := "(II)I" } : Jvm.MethodName)) ∈ TBg := tb_2 167 (by decide +kernel) rfl
theorem wd_408 : (Jvm.Cond.selects "GoneIntoItsTunnel$Hem" ({ cls := "GoneIntoItsTunnel$Hem", name := "draw", desc := "(II)I" } : Jvm.MethodName) ({ cls := "GoneIntoItsTunnel$Hem", name := "draw", desc := "(II)I" } : Jvm.MethodName)) ∈ TBg := tb_2 168 (by decide +kernel) rfl
theorem wd_409 : (Jvm.Cond.code ({ cls := "GoneIntoItsTunnel$Hem", name := "draw", desc := "(II)I" } : Jvm.MethodName) prog_2_method_23_code (5 : Nat) (Option.some Jvm.ClassFile.FieldType.int)) ∈ TBg := tb_2 169 (by decide +kernel) rfl
theorem wd_410 : (Jvm.Cond.methodLink "GoneIntoItsTunnel$Hem" (93 : Nat) ({ cls := "GoneIntoItsTunnel$Hem", name := "canDraw", desc := "(II)I" } : Jvm.MethodName)) ∈ TBg := tb_2 170 (by decide +kernel) rfl
theorem wd_411 : (Jvm.Cond.instanceMethod ({ cls := "GoneIntoItsTunnel$Hem", name := "canDraw", desc := "(II)I" } : Jvm.MethodName)) ∈ TBg := tb_2 171 (by decide +kernel) rfl
theorem wd_412 : (Jvm.Cond.selects "GoneIntoItsTunnel$Hem" ({ cls := "GoneIntoItsTunnel$Hem", name := "canDraw", desc := "(II)I" } : Jvm.MethodName) ({ cls := "GoneIntoItsTunnel$Hem", name := "canDraw", desc := "(II)I" } : Jvm.MethodName)) ∈ TBg := tb_2 172 (by decide +kernel) rfl
theorem wd_413 : (Jvm.Cond.code ({ cls := "GoneIntoItsTunnel$Hem", name := "canDraw", desc := "(II)I" } : Jvm.MethodName) prog_2_method_22_code (7 : Nat) (Option.some Jvm.ClassFile.FieldType.int)) ∈ TBg := tb_2 173 (by decide +kernel) rfl
theorem wd_414 : (Jvm.Cond.methodLink "GoneIntoItsTunnel$Hem" (90 : Nat) ({ cls := "java/lang/Math", name := "max", desc := "(II)I" } : Jvm.MethodName)) ∈ TBg := tb_2 174 (by decide +kernel) rfl
theorem wd_415 : (Jvm.Cond.methodLink "GoneIntoItsTunnel$Hem" (96 : Nat) ({ cls := "GoneIntoItsTunnel$Hem", name := "place", desc := "(II)V" } : Jvm.MethodName)) ∈ TBg := tb_2 175 (by decide +kernel) rfl
theorem wd_416 : (Jvm.Cond.methodLink "GoneIntoItsTunnel" (268 : Nat) ({ cls := "GoneIntoItsTunnel$Letters", name := "lengthBehind", desc := "(I)I" } : Jvm.MethodName)) ∈ TBg := tb_2 176 (by decide +kernel) rfl
theorem wd_417 : (Jvm.Cond.instanceMethod ({ cls := "GoneIntoItsTunnel$Letters", name := "lengthBehind", desc := "(I)I" } : Jvm.MethodName)) ∈ TBg := tb_2 177 (by decide +kernel) rfl
theorem wd_418 : (Jvm.Cond.selects "GoneIntoItsTunnel$Letters" ({ cls := "GoneIntoItsTunnel$Letters", name := "lengthBehind", desc := "(I)I" } : Jvm.MethodName) ({ cls := "GoneIntoItsTunnel$Letters", name := "lengthBehind", desc := "(I)I" } : Jvm.MethodName)) ∈ TBg := tb_2 178 (by decide +kernel) rfl
theorem wd_419 : (Jvm.Cond.code ({ cls := "GoneIntoItsTunnel$Letters", name := "lengthBehind", desc := "(I)I" } : Jvm.MethodName) prog_4_method_9_code (2 : Nat) (Option.some Jvm.ClassFile.FieldType.int)) ∈ TBg := tb_2 179 (by decide +kernel) rfl
theorem wd_420 : (Jvm.Cond.methodLink "GoneIntoItsTunnel" (85 : Nat) ({ cls := "GoneIntoItsTunnel$Letters", name := "clear", desc := "()V" } : Jvm.MethodName)) ∈ TBg := tb_2 180 (by decide +kernel) rfl
theorem wd_421 : (Jvm.Cond.instanceMethod ({ cls := "GoneIntoItsTunnel$Letters", name := "clear", desc := "()V" } : Jvm.MethodName)) ∈ TBg := tb_2 181 (by decide +kernel) rfl
theorem wd_422 : (Jvm.Cond.selects "GoneIntoItsTunnel$Letters" ({ cls := "GoneIntoItsTunnel$Letters", name := "clear", desc := "()V" } : Jvm.MethodName) ({ cls := "GoneIntoItsTunnel$Letters", name := "clear", desc := "()V" } : Jvm.MethodName)) ∈ TBg := tb_2 182 (by decide +kernel) rfl
theorem wd_423 : (Jvm.Cond.code ({ cls := "GoneIntoItsTunnel$Letters", name := "clear", desc := "()V" } : Jvm.MethodName) prog_4_method_4_code (1 : Nat) (Option.none : Option Jvm.ClassFile.FieldType)) ∈ TBg := tb_2 183 (by decide +kernel) rfl
theorem wd_425 : (Jvm.Cond.methodLink "GoneIntoItsTunnelLaw" (23 : Nat) ({ cls := "GoneIntoItsTunnel", name := "inch", desc := "(II)I" } : Jvm.MethodName)) ∈ TBg := tb_2 185 (by decide +kernel) rfl
theorem wd_426 : (Jvm.Cond.instanceMethod ({ cls := "GoneIntoItsTunnel", name := "inch", desc := "(II)I" } : Jvm.MethodName)) ∈ TBg := tb_2 186 (by decide +kernel) rfl
theorem wd_427 : (Jvm.Cond.selects "GoneIntoItsTunnel" ({ cls := "GoneIntoItsTunnel", name := "inch", desc := "(II)I" } : Jvm.MethodName) ({ cls := "GoneIntoItsTunnel", name := "inch", desc := "(II)I" } : Jvm.MethodName)) ∈ TBg := tb_2 187 (by decide +kernel) rfl
theorem wd_428 : (Jvm.Cond.code ({ cls := "GoneIntoItsTunnel", name := "inch", desc := "(II)I" } : Jvm.MethodName) prog_1_method_4_code (3 : Nat) (Option.some Jvm.ClassFile.FieldType.int)) ∈ TBg := tb_2 188 (by decide +kernel) rfl
theorem wd_429 : (Jvm.Cond.methodLink "GoneIntoItsTunnel" (92 : Nat) ({ cls := "GoneIntoItsTunnel$Hem", name := "kindAt", desc := "(I)I" } : Jvm.MethodName)) ∈ TBg := tb_2 189 (by decide +kernel) rfl
theorem wd_430 : (Jvm.Cond.methodLink "GoneIntoItsTunnel" (95 : Nat) ({ cls := "GoneIntoItsTunnel$Hem", name := "figureAt", desc := "(I)I" } : Jvm.MethodName)) ∈ TBg := tb_2 190 (by decide +kernel) rfl
theorem wd_431 : (Jvm.Cond.methodLink "GoneIntoItsTunnel" (98 : Nat) ({ cls := "GoneIntoItsTunnel$Hem", name := "bunchMove", desc := "(I)I" } : Jvm.MethodName)) ∈ TBg := tb_2 191 (by decide +kernel) rfl
theorem wd_432 : (Jvm.Cond.instanceMethod ({ cls := "GoneIntoItsTunnel$Hem", name := "bunchMove", desc := "(I)I" } : Jvm.MethodName)) ∈ TBg := tb_2 192 (by decide +kernel) rfl
theorem wd_433 : (Jvm.Cond.selects "GoneIntoItsTunnel$Hem" ({ cls := "GoneIntoItsTunnel$Hem", name := "bunchMove", desc := "(I)I" } : Jvm.MethodName) ({ cls := "GoneIntoItsTunnel$Hem", name := "bunchMove", desc := "(I)I" } : Jvm.MethodName)) ∈ TBg := tb_2 193 (by decide +kernel) rfl
theorem wd_434 : (Jvm.Cond.code ({ cls := "GoneIntoItsTunnel$Hem", name := "bunchMove", desc := "(I)I" } : Jvm.MethodName) prog_2_method_7_code (2 : Nat) (Option.some Jvm.ClassFile.FieldType.int)) ∈ TBg := tb_2 194 (by decide +kernel) rfl
theorem wd_435 : (Jvm.Cond.methodLink "GoneIntoItsTunnel$Hem" (57 : Nat) ({ cls := "GoneIntoItsTunnel$Kind", name := "bunchMove", desc := "(I)I" } : Jvm.MethodName)) ∈ TBg := tb_2 195 (by decide +kernel) rfl
theorem wd_436 : (Jvm.Cond.static ({ cls := "GoneIntoItsTunnel$Kind", name := "bunchMove", desc := "(I)I" } : Jvm.MethodName)) ∈ TBg := tb_2 196 (by decide +kernel) rfl
theorem wd_437 : (Jvm.Cond.code ({ cls := "GoneIntoItsTunnel$Kind", name := "bunchMove", desc := "(I)I" } : Jvm.MethodName) prog_3_method_5_code (1 : Nat) (Option.some Jvm.ClassFile.FieldType.int)) ∈ TBg := tb_2 197 (by decide +kernel) rfl
theorem wd_438 : (Jvm.Cond.methodLink "GoneIntoItsTunnel" (101 : Nat) ({ cls := "GoneIntoItsTunnel$Hem", name := "bunchSeconds", desc := "(I)I" } : Jvm.MethodName)) ∈ TBg := tb_2 198 (by decide +kernel) rfl
theorem wd_439 : (Jvm.Cond.instanceMethod ({ cls := "GoneIntoItsTunnel$Hem", name := "bunchSeconds", desc := "(I)I" } : Jvm.MethodName)) ∈ TBg := tb_2 199 (by decide +kernel) rfl
theorem wd_440 : (Jvm.Cond.selects "GoneIntoItsTunnel$Hem" ({ cls := "GoneIntoItsTunnel$Hem", name := "bunchSeconds", desc := "(I)I" } : Jvm.MethodName) ({ cls := "GoneIntoItsTunnel$Hem", name := "bunchSeconds", desc := "(I)I" } : Jvm.MethodName)) ∈ TBg := tb_2 200 (by decide +kernel) rfl
theorem wd_441 : (Jvm.Cond.code ({ cls := "GoneIntoItsTunnel$Hem", name := "bunchSeconds", desc := "(I)I" } : Jvm.MethodName) prog_2_method_8_code (2 : Nat) (Option.some Jvm.ClassFile.FieldType.int)) ∈ TBg := tb_2 201 (by decide +kernel) rfl
theorem wd_442 : (Jvm.Cond.methodLink "GoneIntoItsTunnel$Hem" (60 : Nat) ({ cls := "GoneIntoItsTunnel$Kind", name := "bunchSeconds", desc := "(II)I" } : Jvm.MethodName)) ∈ TBg := tb_2 202 (by decide +kernel) rfl
theorem wd_443 : (Jvm.Cond.static ({ cls := "GoneIntoItsTunnel$Kind", name := "bunchSeconds", desc := "(II)I" } : Jvm.MethodName)) ∈ TBg := tb_2 203 (by decide +kernel) rfl
theorem wd_444 : (Jvm.Cond.code ({ cls := "GoneIntoItsTunnel$Kind", name := "bunchSeconds", desc := "(II)I" } : Jvm.MethodName) prog_3_method_6_code (2 : Nat) (Option.some Jvm.ClassFile.FieldType.int)) ∈ TBg := tb_2 204 (by decide +kernel) rfl
theorem wd_445 : (Jvm.Cond.methodLink "GoneIntoItsTunnel" (104 : Nat) ({ cls := "GoneIntoItsTunnel$Hem", name := "threadSeconds", desc := "(I)I" } : Jvm.MethodName)) ∈ TBg := tb_2 205 (by decide +kernel) rfl
theorem wd_446 : (Jvm.Cond.instanceMethod ({ cls := "GoneIntoItsTunnel$Hem", name := "threadSeconds", desc := "(I)I" } : Jvm.MethodName)) ∈ TBg := tb_2 206 (by decide +kernel) rfl
theorem wd_447 : (Jvm.Cond.selects "GoneIntoItsTunnel$Hem" ({ cls := "GoneIntoItsTunnel$Hem", name := "threadSeconds", desc := "(I)I" } : Jvm.MethodName) ({ cls := "GoneIntoItsTunnel$Hem", name := "threadSeconds", desc := "(I)I" } : Jvm.MethodName)) ∈ TBg := tb_2 207 (by decide +kernel) rfl
theorem wd_448 : (Jvm.Cond.code ({ cls := "GoneIntoItsTunnel$Hem", name := "threadSeconds", desc := "(I)I" } : Jvm.MethodName) prog_2_method_9_code (2 : Nat) (Option.some Jvm.ClassFile.FieldType.int)) ∈ TBg := tb_2 208 (by decide +kernel) rfl
theorem wd_449 : (Jvm.Cond.methodLink "GoneIntoItsTunnel$Hem" (64 : Nat) ({ cls := "GoneIntoItsTunnel$Kind", name := "threadSeconds", desc := "(II)I" } : Jvm.MethodName)) ∈ TBg := tb_2 209 (by decide +kernel) rfl
theorem wd_450 : (Jvm.Cond.static ({ cls := "GoneIntoItsTunnel$Kind", name := "threadSeconds", desc := "(II)I" } : Jvm.MethodName)) ∈ TBg := tb_2 210 (by decide +kernel) rfl
theorem wd_451 : (Jvm.Cond.code ({ cls := "GoneIntoItsTunnel$Kind", name := "threadSeconds", desc := "(II)I" } : Jvm.MethodName) prog_3_method_7_code (2 : Nat) (Option.some Jvm.ClassFile.FieldType.int)) ∈ TBg := tb_2 211 (by decide +kernel) rfl
theorem wd_452 : (Jvm.Cond.methodLink "GoneIntoItsTunnel" (107 : Nat) ({ cls := "GoneIntoItsTunnel$Hem", name := "washDraw", desc := "(I)I" } : Jvm.MethodName)) ∈ TBg := tb_2 212 (by decide +kernel) rfl
theorem wd_453 : (Jvm.Cond.methodLink "GoneIntoItsTunnelLaw" (28 : Nat) ({ cls := "GoneIntoItsTunnel", name := "turn", desc := "(III)I" } : Jvm.MethodName)) ∈ TBg := tb_2 213 (by decide +kernel) rfl
theorem wd_454 : (Jvm.Cond.instanceMethod ({ cls := "GoneIntoItsTunnel", name := "turn", desc := "(III)I" } : Jvm.MethodName)) ∈ TBg := tb_2 214 (by decide +kernel) rfl
theorem wd_455 : (Jvm.Cond.selects "GoneIntoItsTunnel" ({ cls := "GoneIntoItsTunnel", name := "turn", desc := "(III)I" } : Jvm.MethodName) ({ cls := "GoneIntoItsTunnel", name := "turn", desc := "(III)I" } : Jvm.MethodName)) ∈ TBg := tb_2 215 (by decide +kernel) rfl
theorem wd_456 : (Jvm.Cond.code ({ cls := "GoneIntoItsTunnel", name := "turn", desc := "(III)I" } : Jvm.MethodName) prog_1_method_5_code (6 : Nat) (Option.some Jvm.ClassFile.FieldType.int)) ∈ TBg := tb_2 216 (by decide +kernel) rfl
theorem wd_457 : (Jvm.Cond.methodLink "GoneIntoItsTunnelLaw" (33 : Nat) ({ cls := "GoneIntoItsTunnel", name := "inches", desc := "(I)I" } : Jvm.MethodName)) ∈ TBg := tb_2 217 (by decide +kernel) rfl
theorem wd_458 : (Jvm.Cond.instanceMethod ({ cls := "GoneIntoItsTunnel", name := "inches", desc := "(I)I" } : Jvm.MethodName)) ∈ TBg := tb_2 218 (by decide +kernel) rfl
theorem wd_459 : (Jvm.Cond.selects "GoneIntoItsTunnel" ({ cls := "GoneIntoItsTunnel", name := "inches", desc := "(I)I" } : Jvm.MethodName) ({ cls := "GoneIntoItsTunnel", name := "inches", desc := "(I)I" } : Jvm.MethodName)) ∈ TBg := tb_2 219 (by decide +kernel) rfl
theorem wd_460 : (Jvm.Cond.code ({ cls := "GoneIntoItsTunnel", name := "inches", desc := "(I)I" } : Jvm.MethodName) prog_1_method_6_code (4 : Nat) (Option.some Jvm.ClassFile.FieldType.int)) ∈ TBg := tb_2 220 (by decide +kernel) rfl
theorem wd_461 : (Jvm.Cond.methodLink "GoneIntoItsTunnelLaw" (37 : Nat) ({ cls := "GoneIntoItsTunnel", name := "end", desc := "(II)I" } : Jvm.MethodName)) ∈ TBg := tb_2 221 (by decide +kernel) rfl
theorem wd_462 : (Jvm.Cond.instanceMethod ({ cls := "GoneIntoItsTunnel", name := "end", desc := "(II)I" } : Jvm.MethodName)) ∈ TBg := tb_2 222 (by decide +kernel) rfl
theorem wd_463 : (Jvm.Cond.selects "GoneIntoItsTunnel" ({ cls := "GoneIntoItsTunnel", name := "end", desc := "(II)I" } : Jvm.MethodName) ({ cls := "GoneIntoItsTunnel", name := "end", desc := "(II)I" } : Jvm.MethodName)) ∈ TBg := tb_2 223 (by decide +kernel) rfl
theorem wd_464 : (Jvm.Cond.code ({ cls := "GoneIntoItsTunnel", name := "end", desc := "(II)I" } : Jvm.MethodName) prog_1_method_7_code (5 : Nat) (Option.some Jvm.ClassFile.FieldType.int)) ∈ TBg := tb_2 224 (by decide +kernel) rfl
theorem wd_465 : (Jvm.Cond.methodLink "GoneIntoItsTunnel" (122 : Nat) ({ cls := "GoneIntoItsTunnel", name := "refuseAsTold", desc := "(I)I" } : Jvm.MethodName)) ∈ TBg := tb_2 225 (by decide +kernel) rfl
theorem wd_467 : (Jvm.Cond.instanceMethod ({ cls := "GoneIntoItsTunnel", name := "refuseAsTold", desc := "(I)I" } : Jvm.MethodName)) ∈ TBg := tb_2 227 (by decide +kernel) rfl
theorem wd_468 : (Jvm.Cond.code ({ cls := "GoneIntoItsTunnel", name := "refuseAsTold", desc := "(I)I" } : Jvm.MethodName) prog_1_method_41_code (2 : Nat) (Option.some Jvm.ClassFile.FieldType.int)) ∈ TBg := tb_2 228 (by decide +kernel) rfl
theorem wd_469 : (Jvm.Cond.constant "GoneIntoItsTunnel" (261 : Nat) (1000000000 : Int32)) ∈ TBg := tb_2 229 (by decide +kernel) rfl
theorem wd_470 : (Jvm.Cond.methodLink "GoneIntoItsTunnel" (125 : Nat) ({ cls := "GoneIntoItsTunnel$Hem", name := "depth", desc := "(I)I" } : Jvm.MethodName)) ∈ TBg := tb_2 230 (by decide +kernel) rfl
theorem wd_471 : (Jvm.Cond.methodLink "GoneIntoItsTunnelLaw" (41 : Nat) ({ cls := "GoneIntoItsTunnel", name := "tie", desc := "(I)I" } : Jvm.MethodName)) ∈ TBg := tb_2 231 (by decide +kernel) rfl
theorem wd_472 : (Jvm.Cond.instanceMethod ({ cls := "GoneIntoItsTunnel", name := "tie", desc := "(I)I" } : Jvm.MethodName)) ∈ TBg := tb_2 232 (by decide +kernel) rfl
theorem wd_473 : (Jvm.Cond.selects "GoneIntoItsTunnel" ({ cls := "GoneIntoItsTunnel", name := "tie", desc := "(I)I" } : Jvm.MethodName) ({ cls := "GoneIntoItsTunnel", name := "tie", desc := "(I)I" } : Jvm.MethodName)) ∈ TBg := tb_2 233 (by decide +kernel) rfl
theorem wd_474 : (Jvm.Cond.code ({ cls := "GoneIntoItsTunnel", name := "tie", desc := "(I)I" } : Jvm.MethodName) prog_1_method_8_code (2 : Nat) (Option.some Jvm.ClassFile.FieldType.int)) ∈ TBg := tb_2 234 (by decide +kernel) rfl
theorem wd_475 : (Jvm.Cond.methodLink "GoneIntoItsTunnelLaw" (45 : Nat) ({ cls := "GoneIntoItsTunnel", name := "sew", desc := "()I" } : Jvm.MethodName)) ∈ TBg := tb_2 235 (by decide +kernel) rfl
theorem wd_476 : (Jvm.Cond.instanceMethod ({ cls := "GoneIntoItsTunnel", name := "sew", desc := "()I" } : Jvm.MethodName)) ∈ TBg := tb_2 236 (by decide +kernel) rfl
theorem wd_477 : (Jvm.Cond.selects "GoneIntoItsTunnel" ({ cls := "GoneIntoItsTunnel", name := "sew", desc := "()I" } : Jvm.MethodName) ({ cls := "GoneIntoItsTunnel", name := "sew", desc := "()I" } : Jvm.MethodName)) ∈ TBg := tb_2 237 (by decide +kernel) rfl
theorem wd_478 : (Jvm.Cond.code ({ cls := "GoneIntoItsTunnel", name := "sew", desc := "()I" } : Jvm.MethodName) prog_1_method_9_code (1 : Nat) (Option.some Jvm.ClassFile.FieldType.int)) ∈ TBg := tb_2 238 (by decide +kernel) rfl
theorem wd_479 : (Jvm.Cond.methodLink "GoneIntoItsTunnelLaw" (49 : Nat) ({ cls := "GoneIntoItsTunnel", name := "set", desc := "(II)I" } : Jvm.MethodName)) ∈ TBg := tb_2 239 (by decide +kernel) rfl
theorem wd_480 : (Jvm.Cond.instanceMethod ({ cls := "GoneIntoItsTunnel", name := "set", desc := "(II)I" } : Jvm.MethodName)) ∈ TBg := tb_3 0 (by decide +kernel) rfl
theorem wd_481 : (Jvm.Cond.selects "GoneIntoItsTunnel" ({ cls := "GoneIntoItsTunnel", name := "set", desc := "(II)I" } : Jvm.MethodName) ({ cls := "GoneIntoItsTunnel", name := "set", desc := "(II)I" } : Jvm.MethodName)) ∈ TBg := tb_3 1 (by decide +kernel) rfl
theorem wd_482 : (Jvm.Cond.code ({ cls := "GoneIntoItsTunnel", name := "set", desc := "(II)I" } : Jvm.MethodName) prog_1_method_10_code (5 : Nat) (Option.some Jvm.ClassFile.FieldType.int)) ∈ TBg := tb_3 2 (by decide +kernel) rfl
theorem wd_483 : (Jvm.Cond.methodLink "GoneIntoItsTunnelLaw" (53 : Nat) ({ cls := "GoneIntoItsTunnel", name := "pull", desc := "(II)I" } : Jvm.MethodName)) ∈ TBg := tb_3 3 (by decide +kernel) rfl
theorem wd_484 : (Jvm.Cond.instanceMethod ({ cls := "GoneIntoItsTunnel", name := "pull", desc := "(II)I" } : Jvm.MethodName)) ∈ TBg := tb_3 4 (by decide +kernel) rfl
theorem wd_485 : (Jvm.Cond.selects "GoneIntoItsTunnel" ({ cls := "GoneIntoItsTunnel", name := "pull", desc := "(II)I" } : Jvm.MethodName) ({ cls := "GoneIntoItsTunnel", name := "pull", desc := "(II)I" } : Jvm.MethodName)) ∈ TBg := tb_3 5 (by decide +kernel) rfl
theorem wd_486 : (Jvm.Cond.code ({ cls := "GoneIntoItsTunnel", name := "pull", desc := "(II)I" } : Jvm.MethodName) prog_1_method_11_code (4 : Nat) (Option.some Jvm.ClassFile.FieldType.int)) ∈ TBg := tb_3 6 (by decide +kernel) rfl
theorem wd_487 : (Jvm.Cond.methodLink "GoneIntoItsTunnel" (148 : Nat) ({ cls := "GoneIntoItsTunnel$Hem", name := "draw", desc := "(II)I" } : Jvm.MethodName)) ∈ TBg := tb_3 7 (by decide +kernel) rfl
theorem wd_488 : (Jvm.Cond.methodLink "GoneIntoItsTunnelLaw" (57 : Nat) ({ cls := "GoneIntoItsTunnel", name := "bunch", desc := "(I)I" } : Jvm.MethodName)) ∈ TBg := tb_3 8 (by decide +kernel) rfl
theorem wd_489 : (Jvm.Cond.instanceMethod ({ cls := "GoneIntoItsTunnel", name := "bunch", desc := "(I)I" } : Jvm.MethodName)) ∈ TBg := tb_3 9 (by decide +kernel) rfl
theorem wd_490 : (Jvm.Cond.selects "GoneIntoItsTunnel" ({ cls := "GoneIntoItsTunnel", name := "bunch", desc := "(I)I" } : Jvm.MethodName) ({ cls := "GoneIntoItsTunnel", name := "bunch", desc := "(I)I" } : Jvm.MethodName)) ∈ TBg := tb_3 10 (by decide +kernel) rfl
theorem wd_491 : (Jvm.Cond.code ({ cls := "GoneIntoItsTunnel", name := "bunch", desc := "(I)I" } : Jvm.MethodName) prog_1_method_12_code (3 : Nat) (Option.some Jvm.ClassFile.FieldType.int)) ∈ TBg := tb_3 11 (by decide +kernel) rfl
theorem wd_492 : (Jvm.Cond.methodLink "GoneIntoItsTunnel" (152 : Nat) ({ cls := "GoneIntoItsTunnel$Hem", name := "isLost", desc := "(I)Z" } : Jvm.MethodName)) ∈ TBg := tb_3 12 (by decide +kernel) rfl
theorem wd_493 : (Jvm.Cond.instanceMethod ({ cls := "GoneIntoItsTunnel$Hem", name := "isLost", desc := "(I)Z" } : Jvm.MethodName)) ∈ TBg := tb_3 13 (by decide +kernel) rfl
theorem wd_494 : (Jvm.Cond.selects "GoneIntoItsTunnel$Hem" ({ cls := "GoneIntoItsTunnel$Hem", name := "isLost", desc := "(I)Z" } : Jvm.MethodName) ({ cls := "GoneIntoItsTunnel$Hem", name := "isLost", desc := "(I)Z" } : Jvm.MethodName)) ∈ TBg := tb_3 14 (by decide +kernel) rfl
theorem wd_495 : (Jvm.Cond.code ({ cls := "GoneIntoItsTunnel$Hem", name := "isLost", desc := "(I)Z" } : Jvm.MethodName) prog_2_method_19_code (2 : Nat) (Option.some Jvm.ClassFile.FieldType.boolean)) ∈ TBg := tb_3 15 (by decide +kernel) rfl
theorem wd_496 : (Jvm.Cond.methodLink "GoneIntoItsTunnel" (155 : Nat) ({ cls := "GoneIntoItsTunnel$Hem", name := "inchAt", desc := "(II)I" } : Jvm.MethodName)) ∈ TBg := tb_3 16 (by decide +kernel) rfl
theorem wd_497 : (Jvm.Cond.methodLink "GoneIntoItsTunnel" (158 : Nat) ({ cls := "java/lang/Math", name := "max", desc := "(II)I" } : Jvm.MethodName)) ∈ TBg := tb_3 17 (by decide +kernel) rfl
theorem wd_498 : (Jvm.Cond.methodLink "GoneIntoItsTunnelLaw" (61 : Nat) ({ cls := "GoneIntoItsTunnel", name := "anew", desc := "()I" } : Jvm.MethodName)) ∈ TBg := tb_3 18 (by decide +kernel) rfl
theorem wd_499 : (Jvm.Cond.instanceMethod ({ cls := "GoneIntoItsTunnel", name := "anew", desc := "()I" } : Jvm.MethodName)) ∈ TBg := tb_3 19 (by decide +kernel) rfl
theorem wd_500 : (Jvm.Cond.selects "GoneIntoItsTunnel" ({ cls := "GoneIntoItsTunnel", name := "anew", desc := "()I" } : Jvm.MethodName) ({ cls := "GoneIntoItsTunnel", name := "anew", desc := "()I" } : Jvm.MethodName)) ∈ TBg := tb_3 20 (by decide +kernel) rfl
theorem wd_501 : (Jvm.Cond.code ({ cls := "GoneIntoItsTunnel", name := "anew", desc := "()I" } : Jvm.MethodName) prog_1_method_13_code (1 : Nat) (Option.some Jvm.ClassFile.FieldType.int)) ∈ TBg := tb_3 21 (by decide +kernel) rfl
theorem wd_502 : (Jvm.Cond.methodLink "GoneIntoItsTunnel" (163 : Nat) ({ cls := "GoneIntoItsTunnel$Hem", name := "threadAnew", desc := "()V" } : Jvm.MethodName)) ∈ TBg := tb_3 22 (by decide +kernel) rfl
theorem wd_503 : (Jvm.Cond.instanceMethod ({ cls := "GoneIntoItsTunnel$Hem", name := "threadAnew", desc := "()V" } : Jvm.MethodName)) ∈ TBg := tb_3 23 (by decide +kernel) rfl
theorem wd_504 : (Jvm.Cond.selects "GoneIntoItsTunnel$Hem" ({ cls := "GoneIntoItsTunnel$Hem", name := "threadAnew", desc := "()V" } : Jvm.MethodName) ({ cls := "GoneIntoItsTunnel$Hem", name := "threadAnew", desc := "()V" } : Jvm.MethodName)) ∈ TBg := tb_3 24 (by decide +kernel) rfl
theorem wd_505 : (Jvm.Cond.code ({ cls := "GoneIntoItsTunnel$Hem", name := "threadAnew", desc := "()V" } : Jvm.MethodName) prog_2_method_14_code (1 : Nat) (Option.none : Option Jvm.ClassFile.FieldType)) ∈ TBg := tb_3 25 (by decide +kernel) rfl
theorem wd_506 : (Jvm.Cond.methodLink "GoneIntoItsTunnel" (166 : Nat) ({ cls := "GoneIntoItsTunnel$Hem", name := "secondsAnew", desc := "(I)I" } : Jvm.MethodName)) ∈ TBg := tb_3 26 (by decide +kernel) rfl
theorem wd_507 : (Jvm.Cond.instanceMethod ({ cls := "GoneIntoItsTunnel$Hem", name := "secondsAnew", desc := "(I)I" } : Jvm.MethodName)) ∈ TBg := tb_3 27 (by decide +kernel) rfl
theorem wd_508 : (Jvm.Cond.selects "GoneIntoItsTunnel$Hem" ({ cls := "GoneIntoItsTunnel$Hem", name := "secondsAnew", desc := "(I)I" } : Jvm.MethodName) ({ cls := "GoneIntoItsTunnel$Hem", name := "secondsAnew", desc := "(I)I" } : Jvm.MethodName)) ∈ TBg := tb_3 28 (by decide +kernel) rfl
theorem wd_509 : (Jvm.Cond.code ({ cls := "GoneIntoItsTunnel$Hem", name := "secondsAnew", desc := "(I)I" } : Jvm.MethodName) prog_2_method_13_code (4 : Nat) (Option.some Jvm.ClassFile.FieldType.int)) ∈ TBg := tb_3 29 (by decide +kernel) rfl
theorem wd_510 : (Jvm.Cond.methodLink "GoneIntoItsTunnel$Hem" (76 : Nat) ({ cls := "GoneIntoItsTunnel$Hem", name := "secondsAnewOf", desc := "(II)I" } : Jvm.MethodName)) ∈ TBg := tb_3 30 (by decide +kernel) rfl
theorem wd_511 : (Jvm.Cond.instanceMethod ({ cls := "GoneIntoItsTunnel$Hem", name := "secondsAnewOf", desc := "(II)I" } : Jvm.MethodName)) ∈ TBg := tb_3 31 (by decide +kernel) rfl
theorem wd_512 : (Jvm.Cond.selects "GoneIntoItsTunnel$Hem" ({ cls := "GoneIntoItsTunnel$Hem", name := "secondsAnewOf", desc := "(II)I" } : Jvm.MethodName) ({ cls := "GoneIntoItsTunnel$Hem", name := "secondsAnewOf", desc := "(II)I" } : Jvm.MethodName)) ∈ TBg := tb_3 32 (by decide +kernel) rfl
theorem wd_513 : (Jvm.Cond.code ({ cls := "GoneIntoItsTunnel$Hem", name := "secondsAnewOf", desc := "(II)I" } : Jvm.MethodName) prog_2_method_12_code (3 : Nat) (Option.some Jvm.ClassFile.FieldType.int)) ∈ TBg := tb_3 33 (by decide +kernel) rfl
theorem wd_514 : (Jvm.Cond.methodLink "GoneIntoItsTunnel$Hem" (74 : Nat) ({ cls := "GoneIntoItsTunnel$Hem", name := "threadSeconds", desc := "(I)I" } : Jvm.MethodName)) ∈ TBg := tb_3 34 (by decide +kernel) rfl
theorem wd_515 : (Jvm.Cond.methodLink "GoneIntoItsTunnel$Hem" (70 : Nat) ({ cls := "GoneIntoItsTunnel$Kind", name := "isSeam", desc := "(I)Z" } : Jvm.MethodName)) ∈ TBg := tb_3 35 (by decide +kernel) rfl
theorem wd_516 : (Jvm.Cond.static ({ cls := "GoneIntoItsTunnel$Kind", name := "isSeam", desc := "(I)Z" } : Jvm.MethodName)) ∈ TBg := tb_3 36 (by decide +kernel) rfl
theorem wd_517 : (Jvm.Cond.code ({ cls := "GoneIntoItsTunnel$Kind", name := "isSeam", desc := "(I)Z" } : Jvm.MethodName) prog_3_method_4_code (1 : Nat) (Option.some Jvm.ClassFile.FieldType.boolean)) ∈ TBg := tb_3 37 (by decide +kernel) rfl
theorem wd_518 : (Jvm.Cond.methodLink "GoneIntoItsTunnelLaw" (65 : Nat) ({ cls := "GoneIntoItsTunnel", name := "wash", desc := "(I)I" } : Jvm.MethodName)) ∈ TBg := tb_3 38 (by decide +kernel) rfl
theorem wd_519 : (Jvm.Cond.instanceMethod ({ cls := "GoneIntoItsTunnel", name := "wash", desc := "(I)I" } : Jvm.MethodName)) ∈ TBg := tb_3 39 (by decide +kernel) rfl
theorem wd_520 : (Jvm.Cond.selects "GoneIntoItsTunnel" ({ cls := "GoneIntoItsTunnel", name := "wash", desc := "(I)I" } : Jvm.MethodName) ({ cls := "GoneIntoItsTunnel", name := "wash", desc := "(I)I" } : Jvm.MethodName)) ∈ TBg := tb_3 40 (by decide +kernel) rfl
theorem wd_521 : (Jvm.Cond.code ({ cls := "GoneIntoItsTunnel", name := "wash", desc := "(I)I" } : Jvm.MethodName) prog_1_method_14_code (3 : Nat) (Option.some Jvm.ClassFile.FieldType.int)) ∈ TBg := tb_3 41 (by decide +kernel) rfl
theorem wd_522 : (Jvm.Cond.methodLink "GoneIntoItsTunnel" (172 : Nat) ({ cls := "GoneIntoItsTunnel$Hem", name := "lostEnds", desc := "()I" } : Jvm.MethodName)) ∈ TBg := tb_3 42 (by decide +kernel) rfl
theorem wd_523 : (Jvm.Cond.instanceMethod ({ cls := "GoneIntoItsTunnel$Hem", name := "lostEnds", desc := "()I" } : Jvm.MethodName)) ∈ TBg := tb_3 43 (by decide +kernel) rfl
theorem wd_524 : (Jvm.Cond.selects "GoneIntoItsTunnel$Hem" ({ cls := "GoneIntoItsTunnel$Hem", name := "lostEnds", desc := "()I" } : Jvm.MethodName) ({ cls := "GoneIntoItsTunnel$Hem", name := "lostEnds", desc := "()I" } : Jvm.MethodName)) ∈ TBg := tb_3 44 (by decide +kernel) rfl
theorem wd_525 : (Jvm.Cond.code ({ cls := "GoneIntoItsTunnel$Hem", name := "lostEnds", desc := "()I" } : Jvm.MethodName) prog_2_method_20_code (1 : Nat) (Option.some Jvm.ClassFile.FieldType.int)) ∈ TBg := tb_3 45 (by decide +kernel) rfl
theorem wd_526 : (Jvm.Cond.methodLink "GoneIntoItsTunnel$Hem" (82 : Nat) ({ cls := "GoneIntoItsTunnel$Hem", name := "isLost", desc := "(I)Z" } : Jvm.MethodName)) ∈ TBg := tb_3 46 (by decide +kernel) rfl
theorem wd_527 : (Jvm.Cond.methodLink "GoneIntoItsTunnelLaw" (69 : Nat) ({ cls := "GoneIntoItsTunnel", name := "of", desc := "(II)I" } : Jvm.MethodName)) ∈ TBg := tb_3 47 (by decide +kernel) rfl
theorem wd_528 : (Jvm.Cond.instanceMethod ({ cls := "GoneIntoItsTunnel", name := "of", desc := "(II)I" } : Jvm.MethodName)) ∈ TBg := tb_3 48 (by decide +kernel) rfl
theorem wd_529 : (Jvm.Cond.selects "GoneIntoItsTunnel" ({ cls := "GoneIntoItsTunnel", name := "of", desc := "(II)I" } : Jvm.MethodName) ({ cls := "GoneIntoItsTunnel", name := "of", desc := "(II)I" } : Jvm.MethodName)) ∈ TBg := tb_3 49 (by decide +kernel) rfl
theorem wd_530 : (Jvm.Cond.code ({ cls := "GoneIntoItsTunnel", name := "of", desc := "(II)I" } : Jvm.MethodName) prog_1_method_15_code (4 : Nat) (Option.some Jvm.ClassFile.FieldType.int)) ∈ TBg := tb_3 50 (by decide +kernel) rfl
theorem wd_531 : (Jvm.Cond.methodLink "GoneIntoItsTunnelLaw" (73 : Nat) ({ cls := "GoneIntoItsTunnel", name := "out", desc := "(II)I" } : Jvm.MethodName)) ∈ TBg := tb_3 51 (by decide +kernel) rfl
theorem wd_532 : (Jvm.Cond.instanceMethod ({ cls := "GoneIntoItsTunnel", name := "out", desc := "(II)I" } : Jvm.MethodName)) ∈ TBg := tb_3 52 (by decide +kernel) rfl
theorem wd_533 : (Jvm.Cond.selects "GoneIntoItsTunnel" ({ cls := "GoneIntoItsTunnel", name := "out", desc := "(II)I" } : Jvm.MethodName) ({ cls := "GoneIntoItsTunnel", name := "out", desc := "(II)I" } : Jvm.MethodName)) ∈ TBg := tb_3 53 (by decide +kernel) rfl
theorem wd_534 : (Jvm.Cond.code ({ cls := "GoneIntoItsTunnel", name := "out", desc := "(II)I" } : Jvm.MethodName) prog_1_method_16_code (3 : Nat) (Option.some Jvm.ClassFile.FieldType.int)) ∈ TBg := tb_3 54 (by decide +kernel) rfl
theorem wd_535 : (Jvm.Cond.methodLink "GoneIntoItsTunnel" (175 : Nat) ({ cls := "GoneIntoItsTunnel$Way", name := "measure", desc := "(LGoneIntoItsTunnel$Hem;II)V" } : Jvm.MethodName)) ∈ TBg := tb_3 55 (by decide +kernel) rfl
theorem wd_536 : (Jvm.Cond.instanceMethod ({ cls := "GoneIntoItsTunnel$Way", name := "measure", desc := "(LGoneIntoItsTunnel$Hem;II)V" } : Jvm.MethodName)) ∈ TBg := tb_3 56 (by decide +kernel) rfl
theorem wd_537 : (Jvm.Cond.selects "GoneIntoItsTunnel$Way" ({ cls := "GoneIntoItsTunnel$Way", name := "measure", desc := "(LGoneIntoItsTunnel$Hem;II)V" } : Jvm.MethodName) ({ cls := "GoneIntoItsTunnel$Way", name := "measure", desc := "(LGoneIntoItsTunnel$Hem;II)V" } : Jvm.MethodName)) ∈ TBg := tb_3 57 (by decide +kernel) rfl
theorem wd_538 : (Jvm.Cond.code ({ cls := "GoneIntoItsTunnel$Way", name := "measure", desc := "(LGoneIntoItsTunnel$Hem;II)V" } : Jvm.MethodName) prog_7_method_2_code (11 : Nat) (Option.none : Option Jvm.ClassFile.FieldType)) ∈ TBg := tb_3 58 (by decide +kernel) rfl
theorem wd_539 : (Jvm.Cond.methodLink "GoneIntoItsTunnel$Way" (21 : Nat) ({ cls := "GoneIntoItsTunnel$Hem", name := "inchAt", desc := "(II)I" } : Jvm.MethodName)) ∈ TBg := tb_3 59 (by decide +kernel) rfl
theorem wd_540 : (Jvm.Cond.methodLink "GoneIntoItsTunnel$Way" (27 : Nat) ({ cls := "GoneIntoItsTunnel$Hem", name := "bunchMove", desc := "(I)I" } : Jvm.MethodName)) ∈ TBg := tb_3 60 (by decide +kernel) rfl
theorem wd_541 : (Jvm.Cond.methodLink "GoneIntoItsTunnel$Way" (31 : Nat) ({ cls := "GoneIntoItsTunnel$Way", name := "neverIsOut", desc := "()V" } : Jvm.MethodName)) ∈ TBg := tb_3 61 (by decide +kernel) rfl
theorem wd_543 : (Jvm.Cond.instanceMethod ({ cls := "GoneIntoItsTunnel$Way", name := "neverIsOut", desc := "()V" } : Jvm.MethodName)) ∈ TBg := tb_3 63 (by decide +kernel) rfl
theorem wd_544 : (Jvm.Cond.code ({ cls := "GoneIntoItsTunnel$Way", name := "neverIsOut", desc := "()V" } : Jvm.MethodName) prog_7_method_3_code (1 : Nat) (Option.none : Option Jvm.ClassFile.FieldType)) ∈ TBg := tb_3 64 (by decide +kernel) rfl
theorem wd_545 : (Jvm.Cond.methodLink "GoneIntoItsTunnel$Way" (34 : Nat) ({ cls := "GoneIntoItsTunnel$Hem", name := "bunchSeconds", desc := "(I)I" } : Jvm.MethodName)) ∈ TBg := tb_3 65 (by decide +kernel) rfl
theorem wd_546 : (Jvm.Cond.methodLink "GoneIntoItsTunnelLaw" (77 : Nat) ({ cls := "GoneIntoItsTunnel", name := "soonest", desc := "()I" } : Jvm.MethodName)) ∈ TBg := tb_3 66 (by decide +kernel) rfl
theorem wd_547 : (Jvm.Cond.instanceMethod ({ cls := "GoneIntoItsTunnel", name := "soonest", desc := "()I" } : Jvm.MethodName)) ∈ TBg := tb_3 67 (by decide +kernel) rfl
theorem wd_548 : (Jvm.Cond.selects "GoneIntoItsTunnel" ({ cls := "GoneIntoItsTunnel", name := "soonest", desc := "()I" } : Jvm.MethodName) ({ cls := "GoneIntoItsTunnel", name := "soonest", desc := "()I" } : Jvm.MethodName)) ∈ TBg := tb_3 68 (by decide +kernel) rfl
theorem wd_549 : (Jvm.Cond.code ({ cls := "GoneIntoItsTunnel", name := "soonest", desc := "()I" } : Jvm.MethodName) prog_1_method_17_code (3 : Nat) (Option.some Jvm.ClassFile.FieldType.int)) ∈ TBg := tb_3 69 (by decide +kernel) rfl
theorem wd_550 : (Jvm.Cond.methodLink "GoneIntoItsTunnel" (188 : Nat) ({ cls := "GoneIntoItsTunnel", name := "secondsIfLost", desc := "(I)I" } : Jvm.MethodName)) ∈ TBg := tb_3 70 (by decide +kernel) rfl
theorem wd_552 : (Jvm.Cond.instanceMethod ({ cls := "GoneIntoItsTunnel", name := "secondsIfLost", desc := "(I)I" } : Jvm.MethodName)) ∈ TBg := tb_3 72 (by decide +kernel) rfl
theorem wd_553 : (Jvm.Cond.code ({ cls := "GoneIntoItsTunnel", name := "secondsIfLost", desc := "(I)I" } : Jvm.MethodName) prog_1_method_46_code (2 : Nat) (Option.some Jvm.ClassFile.FieldType.int)) ∈ TBg := tb_3 73 (by decide +kernel) rfl
theorem wd_554 : (Jvm.Cond.methodLink "GoneIntoItsTunnelLaw" (81 : Nat) ({ cls := "GoneIntoItsTunnel", name := "better", desc := "(I)I" } : Jvm.MethodName)) ∈ TBg := tb_3 74 (by decide +kernel) rfl
theorem wd_555 : (Jvm.Cond.instanceMethod ({ cls := "GoneIntoItsTunnel", name := "better", desc := "(I)I" } : Jvm.MethodName)) ∈ TBg := tb_3 75 (by decide +kernel) rfl
theorem wd_556 : (Jvm.Cond.selects "GoneIntoItsTunnel" ({ cls := "GoneIntoItsTunnel", name := "better", desc := "(I)I" } : Jvm.MethodName) ({ cls := "GoneIntoItsTunnel", name := "better", desc := "(I)I" } : Jvm.MethodName)) ∈ TBg := tb_3 76 (by decide +kernel) rfl
theorem wd_557 : (Jvm.Cond.code ({ cls := "GoneIntoItsTunnel", name := "better", desc := "(I)I" } : Jvm.MethodName) prog_1_method_18_code (4 : Nat) (Option.some Jvm.ClassFile.FieldType.int)) ∈ TBg := tb_3 77 (by decide +kernel) rfl
theorem wd_558 : (Jvm.Cond.methodLink "GoneIntoItsTunnel" (191 : Nat) ({ cls := "GoneIntoItsTunnel$Way", name := "secondsOfAll", desc := "(LGoneIntoItsTunnel$Hem;)I" } : Jvm.MethodName)) ∈ TBg := tb_3 78 (by decide +kernel) rfl
theorem wd_559 : (Jvm.Cond.instanceMethod ({ cls := "GoneIntoItsTunnel$Way", name := "secondsOfAll", desc := "(LGoneIntoItsTunnel$Hem;)I" } : Jvm.MethodName)) ∈ TBg := tb_3 79 (by decide +kernel) rfl
theorem wd_560 : (Jvm.Cond.selects "GoneIntoItsTunnel$Way" ({ cls := "GoneIntoItsTunnel$Way", name := "secondsOfAll", desc := "(LGoneIntoItsTunnel$Hem;)I" } : Jvm.MethodName) ({ cls := "GoneIntoItsTunnel$Way", name := "secondsOfAll", desc := "(LGoneIntoItsTunnel$Hem;)I" } : Jvm.MethodName)) ∈ TBg := tb_3 80 (by decide +kernel) rfl
theorem wd_561 : (Jvm.Cond.code ({ cls := "GoneIntoItsTunnel$Way", name := "secondsOfAll", desc := "(LGoneIntoItsTunnel$Hem;)I" } : Jvm.MethodName) prog_7_method_6_code (4 : Nat) (Option.some Jvm.ClassFile.FieldType.int)) ∈ TBg := tb_3 81 (by decide +kernel) rfl
theorem wd_562 : (Jvm.Cond.methodLink "GoneIntoItsTunnel$Way" (42 : Nat) ({ cls := "GoneIntoItsTunnel$Hem", name := "depth", desc := "(I)I" } : Jvm.MethodName)) ∈ TBg := tb_3 82 (by decide +kernel) rfl
theorem wd_563 : (Jvm.Cond.methodLink "GoneIntoItsTunnel$Way" (45 : Nat) ({ cls := "GoneIntoItsTunnel$Way", name := "measure", desc := "(LGoneIntoItsTunnel$Hem;II)V" } : Jvm.MethodName)) ∈ TBg := tb_3 83 (by decide +kernel) rfl
theorem wd_564 : (Jvm.Cond.methodLink "GoneIntoItsTunnel$Way" (37 : Nat) ({ cls := "GoneIntoItsTunnel$Way", name := "isAWay", desc := "()Z" } : Jvm.MethodName)) ∈ TBg := tb_3 84 (by decide +kernel) rfl
theorem wd_565 : (Jvm.Cond.instanceMethod ({ cls := "GoneIntoItsTunnel$Way", name := "isAWay", desc := "()Z" } : Jvm.MethodName)) ∈ TBg := tb_3 85 (by decide +kernel) rfl
theorem wd_566 : (Jvm.Cond.selects "GoneIntoItsTunnel$Way" ({ cls := "GoneIntoItsTunnel$Way", name := "isAWay", desc := "()Z" } : Jvm.MethodName) ({ cls := "GoneIntoItsTunnel$Way", name := "isAWay", desc := "()Z" } : Jvm.MethodName)) ∈ TBg := tb_3 86 (by decide +kernel) rfl
theorem wd_567 : (Jvm.Cond.code ({ cls := "GoneIntoItsTunnel$Way", name := "isAWay", desc := "()Z" } : Jvm.MethodName) prog_7_method_4_code (1 : Nat) (Option.some Jvm.ClassFile.FieldType.boolean)) ∈ TBg := tb_3 87 (by decide +kernel) rfl
theorem wd_568 : (Jvm.Cond.methodLink "GoneIntoItsTunnelLaw" (85 : Nat) ({ cls := "GoneIntoItsTunnel", name := "inIn", desc := "(II)I" } : Jvm.MethodName)) ∈ TBg := tb_3 88 (by decide +kernel) rfl
theorem wd_569 : (Jvm.Cond.instanceMethod ({ cls := "GoneIntoItsTunnel", name := "inIn", desc := "(II)I" } : Jvm.MethodName)) ∈ TBg := tb_3 89 (by decide +kernel) rfl
theorem wd_570 : (Jvm.Cond.selects "GoneIntoItsTunnel" ({ cls := "GoneIntoItsTunnel", name := "inIn", desc := "(II)I" } : Jvm.MethodName) ({ cls := "GoneIntoItsTunnel", name := "inIn", desc := "(II)I" } : Jvm.MethodName)) ∈ TBg := tb_3 90 (by decide +kernel) rfl
theorem wd_571 : (Jvm.Cond.code ({ cls := "GoneIntoItsTunnel", name := "inIn", desc := "(II)I" } : Jvm.MethodName) prog_1_method_19_code (4 : Nat) (Option.some Jvm.ClassFile.FieldType.int)) ∈ TBg := tb_3 91 (by decide +kernel) rfl
theorem wd_572 : (Jvm.Cond.methodLink "GoneIntoItsTunnelLaw" (89 : Nat) ({ cls := "GoneIntoItsTunnel", name := "lost", desc := "(I)I" } : Jvm.MethodName)) ∈ TBg := tb_3 92 (by decide +kernel) rfl
theorem wd_573 : (Jvm.Cond.instanceMethod ({ cls := "GoneIntoItsTunnel", name := "lost", desc := "(I)I" } : Jvm.MethodName)) ∈ TBg := tb_3 93 (by decide +kernel) rfl
theorem wd_574 : (Jvm.Cond.selects "GoneIntoItsTunnel" ({ cls := "GoneIntoItsTunnel", name := "lost", desc := "(I)I" } : Jvm.MethodName) ({ cls := "GoneIntoItsTunnel", name := "lost", desc := "(I)I" } : Jvm.MethodName)) ∈ TBg := tb_3 94 (by decide +kernel) rfl
theorem wd_575 : (Jvm.Cond.code ({ cls := "GoneIntoItsTunnel", name := "lost", desc := "(I)I" } : Jvm.MethodName) prog_1_method_20_code (3 : Nat) (Option.some Jvm.ClassFile.FieldType.int)) ∈ TBg := tb_3 95 (by decide +kernel) rfl
theorem wd_576 : (Jvm.Cond.methodLink "GoneIntoItsTunnel" (199 : Nat) ({ cls := "GoneIntoItsTunnel", name := "washesTillLost", desc := "()I" } : Jvm.MethodName)) ∈ TBg := tb_3 96 (by decide +kernel) rfl
theorem wd_578 : (Jvm.Cond.instanceMethod ({ cls := "GoneIntoItsTunnel", name := "washesTillLost", desc := "()I" } : Jvm.MethodName)) ∈ TBg := tb_3 98 (by decide +kernel) rfl
theorem wd_579 : (Jvm.Cond.code ({ cls := "GoneIntoItsTunnel", name := "washesTillLost", desc := "()I" } : Jvm.MethodName) prog_1_method_47_code (2 : Nat) (Option.some Jvm.ClassFile.FieldType.int)) ∈ TBg := tb_3 99 (by decide +kernel) rfl
theorem wd_580 : (Jvm.Cond.methodLink "GoneIntoItsTunnel" (202 : Nat) ({ cls := "GoneIntoItsTunnel$Hem", name := "washOnce", desc := "()I" } : Jvm.MethodName)) ∈ TBg := tb_3 100 (by decide +kernel) rfl
theorem wd_581 : (Jvm.Cond.methodLink "GoneIntoItsTunnelLaw" (93 : Nat) ({ cls := "GoneIntoItsTunnel", name := "still", desc := "()I" } : Jvm.MethodName)) ∈ TBg := tb_3 101 (by decide +kernel) rfl
theorem wd_582 : (Jvm.Cond.instanceMethod ({ cls := "GoneIntoItsTunnel", name := "still", desc := "()I" } : Jvm.MethodName)) ∈ TBg := tb_3 102 (by decide +kernel) rfl
theorem wd_583 : (Jvm.Cond.selects "GoneIntoItsTunnel" ({ cls := "GoneIntoItsTunnel", name := "still", desc := "()I" } : Jvm.MethodName) ({ cls := "GoneIntoItsTunnel", name := "still", desc := "()I" } : Jvm.MethodName)) ∈ TBg := tb_3 103 (by decide +kernel) rfl
theorem wd_584 : (Jvm.Cond.code ({ cls := "GoneIntoItsTunnel", name := "still", desc := "()I" } : Jvm.MethodName) prog_1_method_21_code (2 : Nat) (Option.some Jvm.ClassFile.FieldType.int)) ∈ TBg := tb_3 104 (by decide +kernel) rfl
theorem wd_585 : (Jvm.Cond.methodLink "GoneIntoItsTunnelLaw" (97 : Nat) ({ cls := "GoneIntoItsTunnel", name := "keep", desc := "(I)I" } : Jvm.MethodName)) ∈ TBg := tb_3 105 (by decide +kernel) rfl
theorem wd_586 : (Jvm.Cond.instanceMethod ({ cls := "GoneIntoItsTunnel", name := "keep", desc := "(I)I" } : Jvm.MethodName)) ∈ TBg := tb_3 106 (by decide +kernel) rfl
theorem wd_587 : (Jvm.Cond.selects "GoneIntoItsTunnel" ({ cls := "GoneIntoItsTunnel", name := "keep", desc := "(I)I" } : Jvm.MethodName) ({ cls := "GoneIntoItsTunnel", name := "keep", desc := "(I)I" } : Jvm.MethodName)) ∈ TBg := tb_3 107 (by decide +kernel) rfl
theorem wd_588 : (Jvm.Cond.code ({ cls := "GoneIntoItsTunnel", name := "keep", desc := "(I)I" } : Jvm.MethodName) prog_1_method_22_code (5 : Nat) (Option.some Jvm.ClassFile.FieldType.int)) ∈ TBg := tb_3 108 (by decide +kernel) rfl
theorem wd_589 : (Jvm.Cond.methodLink "GoneIntoItsTunnelLaw" (101 : Nat) ({ cls := "GoneIntoItsTunnel", name := "deep", desc := "(II)I" } : Jvm.MethodName)) ∈ TBg := tb_3 109 (by decide +kernel) rfl
theorem wd_590 : (Jvm.Cond.instanceMethod ({ cls := "GoneIntoItsTunnel", name := "deep", desc := "(II)I" } : Jvm.MethodName)) ∈ TBg := tb_3 110 (by decide +kernel) rfl
theorem wd_591 : (Jvm.Cond.selects "GoneIntoItsTunnel" ({ cls := "GoneIntoItsTunnel", name := "deep", desc := "(II)I" } : Jvm.MethodName) ({ cls := "GoneIntoItsTunnel", name := "deep", desc := "(II)I" } : Jvm.MethodName)) ∈ TBg := tb_3 111 (by decide +kernel) rfl
theorem wd_592 : (Jvm.Cond.code ({ cls := "GoneIntoItsTunnel", name := "deep", desc := "(II)I" } : Jvm.MethodName) prog_1_method_23_code (5 : Nat) (Option.some Jvm.ClassFile.FieldType.int)) ∈ TBg := tb_3 112 (by decide +kernel) rfl
theorem wd_593 : (Jvm.Cond.methodLink "GoneIntoItsTunnel" (205 : Nat) ({ cls := "GoneIntoItsTunnel$Way", name := "isAWay", desc := "()Z" } : Jvm.MethodName)) ∈ TBg := tb_3 113 (by decide +kernel) rfl
theorem wd_594 : (Jvm.Cond.methodLink "GoneIntoItsTunnelLaw" (105 : Nat) ({ cls := "GoneIntoItsTunnel", name := "stops", desc := "(II)I" } : Jvm.MethodName)) ∈ TBg := tb_3 114 (by decide +kernel) rfl
theorem wd_595 : (Jvm.Cond.instanceMethod ({ cls := "GoneIntoItsTunnel", name := "stops", desc := "(II)I" } : Jvm.MethodName)) ∈ TBg := tb_3 115 (by decide +kernel) rfl
theorem wd_596 : (Jvm.Cond.selects "GoneIntoItsTunnel" ({ cls := "GoneIntoItsTunnel", name := "stops", desc := "(II)I" } : Jvm.MethodName) ({ cls := "GoneIntoItsTunnel", name := "stops", desc := "(II)I" } : Jvm.MethodName)) ∈ TBg := tb_3 116 (by decide +kernel) rfl
theorem wd_597 : (Jvm.Cond.code ({ cls := "GoneIntoItsTunnel", name := "stops", desc := "(II)I" } : Jvm.MethodName) prog_1_method_24_code (8 : Nat) (Option.some Jvm.ClassFile.FieldType.int)) ∈ TBg := tb_3 117 (by decide +kernel) rfl
theorem wd_598 : (Jvm.Cond.methodLink "GoneIntoItsTunnel" (208 : Nat) ({ cls := "GoneIntoItsTunnel", name := "secondsWithStop", desc := "(II)I" } : Jvm.MethodName)) ∈ TBg := tb_3 118 (by decide +kernel) rfl
theorem wd_600 : (Jvm.Cond.instanceMethod ({ cls := "GoneIntoItsTunnel", name := "secondsWithStop", desc := "(II)I" } : Jvm.MethodName)) ∈ TBg := tb_3 120 (by decide +kernel) rfl
theorem wd_601 : (Jvm.Cond.code ({ cls := "GoneIntoItsTunnel", name := "secondsWithStop", desc := "(II)I" } : Jvm.MethodName) prog_1_method_48_code (4 : Nat) (Option.some Jvm.ClassFile.FieldType.int)) ∈ TBg := tb_3 121 (by decide +kernel) rfl
theorem wd_602 : (Jvm.Cond.methodLink "GoneIntoItsTunnel" (211 : Nat) ({ cls := "GoneIntoItsTunnel$Mending", name := "goOn", desc := "(LGoneIntoItsTunnel$Hem;LGoneIntoItsTunnel$Way;I)V" } : Jvm.MethodName)) ∈ TBg := tb_3 122 (by decide +kernel) rfl
theorem wd_603 : (Jvm.Cond.instanceMethod ({ cls := "GoneIntoItsTunnel$Mending", name := "goOn", desc := "(LGoneIntoItsTunnel$Hem;LGoneIntoItsTunnel$Way;I)V" } : Jvm.MethodName)) ∈ TBg := tb_3 123 (by decide +kernel) rfl
theorem wd_604 : (Jvm.Cond.selects "GoneIntoItsTunnel$Mending" ({ cls := "GoneIntoItsTunnel$Mending", name := "goOn", desc := "(LGoneIntoItsTunnel$Hem;LGoneIntoItsTunnel$Way;I)V" } : Jvm.MethodName) ({ cls := "GoneIntoItsTunnel$Mending", name := "goOn", desc := "(LGoneIntoItsTunnel$Hem;LGoneIntoItsTunnel$Way;I)V" } : Jvm.MethodName)) ∈ TBg := tb_3 124 (by decide +kernel) rfl
theorem wd_605 : (Jvm.Cond.code ({ cls := "GoneIntoItsTunnel$Mending", name := "goOn", desc := "(LGoneIntoItsTunnel$Hem;LGoneIntoItsTunnel$Way;I)V" } : Jvm.MethodName) prog_5_method_2_code (8 : Nat) (Option.none : Option Jvm.ClassFile.FieldType)) ∈ TBg := tb_3 125 (by decide +kernel) rfl
theorem wd_606 : (Jvm.Cond.methodLink "GoneIntoItsTunnel$Mending" (21 : Nat) ({ cls := "GoneIntoItsTunnel$Hem", name := "secondsAnew", desc := "(I)I" } : Jvm.MethodName)) ∈ TBg := tb_3 126 (by decide +kernel) rfl
theorem wd_607 : (Jvm.Cond.methodLink "GoneIntoItsTunnel$Mending" (25 : Nat) ({ cls := "GoneIntoItsTunnel$Hem", name := "washOnce", desc := "()I" } : Jvm.MethodName)) ∈ TBg := tb_3 127 (by decide +kernel) rfl
theorem wd_608 : (Jvm.Cond.methodLink "GoneIntoItsTunnel$Mending" (29 : Nat) ({ cls := "GoneIntoItsTunnel$Mending", name := "mend", desc := "(LGoneIntoItsTunnel$Hem;LGoneIntoItsTunnel$Way;II)V" } : Jvm.MethodName)) ∈ TBg := tb_3 128 (by decide +kernel) rfl
theorem wd_610 : (Jvm.Cond.instanceMethod ({ cls := "GoneIntoItsTunnel$Mending", name := "mend", desc := "(LGoneIntoItsTunnel$Hem;LGoneIntoItsTunnel$Way;II)V" } : Jvm.MethodName)) ∈ TBg := tb_3 130 (by decide +kernel) rfl
theorem wd_611 : (Jvm.Cond.code ({ cls := "GoneIntoItsTunnel$Mending", name := "mend", desc := "(LGoneIntoItsTunnel$Hem;LGoneIntoItsTunnel$Way;II)V" } : Jvm.MethodName) prog_5_method_3_code (5 : Nat) (Option.none : Option Jvm.ClassFile.FieldType)) ∈ TBg := tb_3 131 (by decide +kernel) rfl
theorem wd_612 : (Jvm.Cond.methodLink "GoneIntoItsTunnel$Mending" (33 : Nat) ({ cls := "GoneIntoItsTunnel$Hem", name := "isLost", desc := "(I)Z" } : Jvm.MethodName)) ∈ TBg := tb_3 132 (by decide +kernel) rfl
theorem wd_613 : (Jvm.Cond.methodLink "GoneIntoItsTunnel$Mending" (37 : Nat) ({ cls := "GoneIntoItsTunnel$Hem", name := "depth", desc := "(I)I" } : Jvm.MethodName)) ∈ TBg := tb_3 133 (by decide +kernel) rfl
theorem wd_614 : (Jvm.Cond.methodLink "GoneIntoItsTunnel$Mending" (40 : Nat) ({ cls := "GoneIntoItsTunnel$Way", name := "measure", desc := "(LGoneIntoItsTunnel$Hem;II)V" } : Jvm.MethodName)) ∈ TBg := tb_3 134 (by decide +kernel) rfl
theorem wd_615 : (Jvm.Cond.methodLink "GoneIntoItsTunnel$Mending" (46 : Nat) ({ cls := "GoneIntoItsTunnel$Way", name := "isAWay", desc := "()Z" } : Jvm.MethodName)) ∈ TBg := tb_3 135 (by decide +kernel) rfl
theorem wd_616 : (Jvm.Cond.methodLink "GoneIntoItsTunnel$Mending" (51 : Nat) ({ cls := "GoneIntoItsTunnel$Hem", name := "threadAnew", desc := "()V" } : Jvm.MethodName)) ∈ TBg := tb_3 136 (by decide +kernel) rfl
theorem wd_617 : (Jvm.Cond.methodLink "GoneIntoItsTunnel$Mending" (54 : Nat) ({ cls := "GoneIntoItsTunnel$Hem", name := "place", desc := "(II)V" } : Jvm.MethodName)) ∈ TBg := tb_3 137 (by decide +kernel) rfl
theorem wd_618 : (Jvm.Cond.methodLink "GoneIntoItsTunnelLaw" (109 : Nat) ({ cls := "GoneIntoItsTunnel", name := "care", desc := "(I)I" } : Jvm.MethodName)) ∈ TBg := tb_3 138 (by decide +kernel) rfl
theorem wd_619 : (Jvm.Cond.instanceMethod ({ cls := "GoneIntoItsTunnel", name := "care", desc := "(I)I" } : Jvm.MethodName)) ∈ TBg := tb_3 139 (by decide +kernel) rfl
theorem wd_620 : (Jvm.Cond.selects "GoneIntoItsTunnel" ({ cls := "GoneIntoItsTunnel", name := "care", desc := "(I)I" } : Jvm.MethodName) ({ cls := "GoneIntoItsTunnel", name := "care", desc := "(I)I" } : Jvm.MethodName)) ∈ TBg := tb_3 140 (by decide +kernel) rfl
theorem wd_621 : (Jvm.Cond.code ({ cls := "GoneIntoItsTunnel", name := "care", desc := "(I)I" } : Jvm.MethodName) prog_1_method_25_code (3 : Nat) (Option.some Jvm.ClassFile.FieldType.int)) ∈ TBg := tb_3 141 (by decide +kernel) rfl
theorem wd_622 : (Jvm.Cond.methodLink "GoneIntoItsTunnelLaw" (113 : Nat) ({ cls := "GoneIntoItsTunnel", name := "holdsUp", desc := "(I)I" } : Jvm.MethodName)) ∈ TBg := tb_3 142 (by decide +kernel) rfl
theorem wd_623 : (Jvm.Cond.instanceMethod ({ cls := "GoneIntoItsTunnel", name := "holdsUp", desc := "(I)I" } : Jvm.MethodName)) ∈ TBg := tb_3 143 (by decide +kernel) rfl
theorem wd_624 : (Jvm.Cond.selects "GoneIntoItsTunnel" ({ cls := "GoneIntoItsTunnel", name := "holdsUp", desc := "(I)I" } : Jvm.MethodName) ({ cls := "GoneIntoItsTunnel", name := "holdsUp", desc := "(I)I" } : Jvm.MethodName)) ∈ TBg := tb_3 144 (by decide +kernel) rfl
theorem wd_625 : (Jvm.Cond.code ({ cls := "GoneIntoItsTunnel", name := "holdsUp", desc := "(I)I" } : Jvm.MethodName) prog_1_method_26_code (6 : Nat) (Option.some Jvm.ClassFile.FieldType.int)) ∈ TBg := tb_3 145 (by decide +kernel) rfl
theorem wd_626 : (Jvm.Cond.methodLink "GoneIntoItsTunnel" (218 : Nat) ({ cls := "GoneIntoItsTunnel$Way", name := "rank", desc := "()I" } : Jvm.MethodName)) ∈ TBg := tb_3 146 (by decide +kernel) rfl
theorem wd_627 : (Jvm.Cond.instanceMethod ({ cls := "GoneIntoItsTunnel$Way", name := "rank", desc := "()I" } : Jvm.MethodName)) ∈ TBg := tb_3 147 (by decide +kernel) rfl
theorem wd_628 : (Jvm.Cond.selects "GoneIntoItsTunnel$Way" ({ cls := "GoneIntoItsTunnel$Way", name := "rank", desc := "()I" } : Jvm.MethodName) ({ cls := "GoneIntoItsTunnel$Way", name := "rank", desc := "()I" } : Jvm.MethodName)) ∈ TBg := tb_3 148 (by decide +kernel) rfl
theorem wd_629 : (Jvm.Cond.code ({ cls := "GoneIntoItsTunnel$Way", name := "rank", desc := "()I" } : Jvm.MethodName) prog_7_method_5_code (1 : Nat) (Option.some Jvm.ClassFile.FieldType.int)) ∈ TBg := tb_3 149 (by decide +kernel) rfl
theorem wd_630 : (Jvm.Cond.constant "GoneIntoItsTunnel$Way" (41 : Nat) (1000000 : Int32)) ∈ TBg := tb_3 150 (by decide +kernel) rfl
theorem wd_631 : (Jvm.Cond.methodLink "GoneIntoItsTunnel" (221 : Nat) ({ cls := "GoneIntoItsTunnel", name := "rankWithCloth", desc := "(II)I" } : Jvm.MethodName)) ∈ TBg := tb_3 151 (by decide +kernel) rfl
theorem wd_633 : (Jvm.Cond.instanceMethod ({ cls := "GoneIntoItsTunnel", name := "rankWithCloth", desc := "(II)I" } : Jvm.MethodName)) ∈ TBg := tb_3 153 (by decide +kernel) rfl
theorem wd_634 : (Jvm.Cond.code ({ cls := "GoneIntoItsTunnel", name := "rankWithCloth", desc := "(II)I" } : Jvm.MethodName) prog_1_method_49_code (3 : Nat) (Option.some Jvm.ClassFile.FieldType.int)) ∈ TBg := tb_3 154 (by decide +kernel) rfl
theorem wd_635 : (Jvm.Cond.methodLink "GoneIntoItsTunnelLaw" (117 : Nat) ({ cls := "GoneIntoItsTunnel", name := "middle", desc := "()I" } : Jvm.MethodName)) ∈ TBg := tb_3 155 (by decide +kernel) rfl
theorem wd_636 : (Jvm.Cond.instanceMethod ({ cls := "GoneIntoItsTunnel", name := "middle", desc := "()I" } : Jvm.MethodName)) ∈ TBg := tb_3 156 (by decide +kernel) rfl
theorem wd_637 : (Jvm.Cond.selects "GoneIntoItsTunnel" ({ cls := "GoneIntoItsTunnel", name := "middle", desc := "()I" } : Jvm.MethodName) ({ cls := "GoneIntoItsTunnel", name := "middle", desc := "()I" } : Jvm.MethodName)) ∈ TBg := tb_3 157 (by decide +kernel) rfl
theorem wd_638 : (Jvm.Cond.code ({ cls := "GoneIntoItsTunnel", name := "middle", desc := "()I" } : Jvm.MethodName) prog_1_method_27_code (4 : Nat) (Option.some Jvm.ClassFile.FieldType.int)) ∈ TBg := tb_3 158 (by decide +kernel) rfl
theorem wd_639 : (Jvm.Cond.methodLink "GoneIntoItsTunnel" (224 : Nat) ({ cls := "java/lang/Math", name := "abs", desc := "(I)I" } : Jvm.MethodName)) ∈ TBg := tb_3 159 (by decide +kernel) rfl
theorem wd_640 : (Jvm.Cond.static ({ cls := "java/lang/Math", name := "abs", desc := "(I)I" } : Jvm.MethodName)) ∈ TBg := tb_3 160 (by decide +kernel) rfl
theorem wd_642 : (Jvm.Cond.methodLink "GoneIntoItsTunnel" (227 : Nat) ({ cls := "GoneIntoItsTunnel$Hem", name := "canDraw", desc := "(II)I" } : Jvm.MethodName)) ∈ TBg := tb_3 162 (by decide +kernel) rfl
theorem wd_643 : (Jvm.Cond.methodLink "GoneIntoItsTunnelLaw" (121 : Nat) ({ cls := "GoneIntoItsTunnel", name := "cutOff", desc := "()I" } : Jvm.MethodName)) ∈ TBg := tb_3 163 (by decide +kernel) rfl
theorem wd_644 : (Jvm.Cond.instanceMethod ({ cls := "GoneIntoItsTunnel", name := "cutOff", desc := "()I" } : Jvm.MethodName)) ∈ TBg := tb_3 164 (by decide +kernel) rfl
theorem wd_645 : (Jvm.Cond.selects "GoneIntoItsTunnel" ({ cls := "GoneIntoItsTunnel", name := "cutOff", desc := "()I" } : Jvm.MethodName) ({ cls := "GoneIntoItsTunnel", name := "cutOff", desc := "()I" } : Jvm.MethodName)) ∈ TBg := tb_3 165 (by decide +kernel) rfl
theorem wd_646 : (Jvm.Cond.code ({ cls := "GoneIntoItsTunnel", name := "cutOff", desc := "()I" } : Jvm.MethodName) prog_1_method_28_code (1 : Nat) (Option.some Jvm.ClassFile.FieldType.int)) ∈ TBg := tb_3 166 (by decide +kernel) rfl
theorem wd_647 : (Jvm.Cond.methodLink "GoneIntoItsTunnelLaw" (125 : Nat) ({ cls := "GoneIntoItsTunnel", name := "bestPin", desc := "(I)I" } : Jvm.MethodName)) ∈ TBg := tb_3 167 (by decide +kernel) rfl
theorem wd_648 : (Jvm.Cond.instanceMethod ({ cls := "GoneIntoItsTunnel", name := "bestPin", desc := "(I)I" } : Jvm.MethodName)) ∈ TBg := tb_3 168 (by decide +kernel) rfl
theorem wd_649 : (Jvm.Cond.selects "GoneIntoItsTunnel" ({ cls := "GoneIntoItsTunnel", name := "bestPin", desc := "(I)I" } : Jvm.MethodName) ({ cls := "GoneIntoItsTunnel", name := "bestPin", desc := "(I)I" } : Jvm.MethodName)) ∈ TBg := tb_3 169 (by decide +kernel) rfl
theorem wd_650 : (Jvm.Cond.code ({ cls := "GoneIntoItsTunnel", name := "bestPin", desc := "(I)I" } : Jvm.MethodName) prog_1_method_29_code (4 : Nat) (Option.some Jvm.ClassFile.FieldType.int)) ∈ TBg := tb_3 170 (by decide +kernel) rfl
theorem wd_651 : (Jvm.Cond.methodLink "GoneIntoItsTunnelLaw" (129 : Nat) ({ cls := "GoneIntoItsTunnel", name := "worst", desc := "()I" } : Jvm.MethodName)) ∈ TBg := tb_3 171 (by decide +kernel) rfl
theorem wd_652 : (Jvm.Cond.instanceMethod ({ cls := "GoneIntoItsTunnel", name := "worst", desc := "()I" } : Jvm.MethodName)) ∈ TBg := tb_3 172 (by decide +kernel) rfl
theorem wd_653 : (Jvm.Cond.selects "GoneIntoItsTunnel" ({ cls := "GoneIntoItsTunnel", name := "worst", desc := "()I" } : Jvm.MethodName) ({ cls := "GoneIntoItsTunnel", name := "worst", desc := "()I" } : Jvm.MethodName)) ∈ TBg := tb_3 173 (by decide +kernel) rfl
theorem wd_654 : (Jvm.Cond.code ({ cls := "GoneIntoItsTunnel", name := "worst", desc := "()I" } : Jvm.MethodName) prog_1_method_30_code (3 : Nat) (Option.some Jvm.ClassFile.FieldType.int)) ∈ TBg := tb_3 174 (by decide +kernel) rfl
theorem wd_655 : (Jvm.Cond.methodLink "GoneIntoItsTunnel" (230 : Nat) ({ cls := "GoneIntoItsTunnel$Hem", name := "secondsAnewOf", desc := "(II)I" } : Jvm.MethodName)) ∈ TBg := tb_3 175 (by decide +kernel) rfl
theorem wd_656 : (Jvm.Cond.methodLink "GoneIntoItsTunnelLaw" (133 : Nat) ({ cls := "GoneIntoItsTunnel", name := "which", desc := "(II)I" } : Jvm.MethodName)) ∈ TBg := tb_3 176 (by decide +kernel) rfl
theorem wd_657 : (Jvm.Cond.instanceMethod ({ cls := "GoneIntoItsTunnel", name := "which", desc := "(II)I" } : Jvm.MethodName)) ∈ TBg := tb_3 177 (by decide +kernel) rfl
theorem wd_658 : (Jvm.Cond.selects "GoneIntoItsTunnel" ({ cls := "GoneIntoItsTunnel", name := "which", desc := "(II)I" } : Jvm.MethodName) ({ cls := "GoneIntoItsTunnel", name := "which", desc := "(II)I" } : Jvm.MethodName)) ∈ TBg := tb_3 178 (by decide +kernel) rfl
theorem wd_659 : (Jvm.Cond.code ({ cls := "GoneIntoItsTunnel", name := "which", desc := "(II)I" } : Jvm.MethodName) prog_1_method_31_code (3 : Nat) (Option.some Jvm.ClassFile.FieldType.int)) ∈ TBg := tb_3 179 (by decide +kernel) rfl
theorem wd_660 : (Jvm.Cond.methodLink "GoneIntoItsTunnel" (233 : Nat) ({ cls := "GoneIntoItsTunnel", name := "kindsByRow", desc := "(I)I" } : Jvm.MethodName)) ∈ TBg := tb_3 180 (by decide +kernel) rfl
theorem wd_662 : (Jvm.Cond.instanceMethod ({ cls := "GoneIntoItsTunnel", name := "kindsByRow", desc := "(I)I" } : Jvm.MethodName)) ∈ TBg := tb_3 182 (by decide +kernel) rfl
theorem wd_663 : (Jvm.Cond.code ({ cls := "GoneIntoItsTunnel", name := "kindsByRow", desc := "(I)I" } : Jvm.MethodName) prog_1_method_50_code (4 : Nat) (Option.some Jvm.ClassFile.FieldType.int)) ∈ TBg := tb_3 183 (by decide +kernel) rfl
theorem wd_664 : (Jvm.Cond.methodLink "GoneIntoItsTunnel" (242 : Nat) ({ cls := "GoneIntoItsTunnel$Row", name := "firstNotSo", desc := "(LGoneIntoItsTunnel$Hem;I)I" } : Jvm.MethodName)) ∈ TBg := tb_3 184 (by decide +kernel) rfl
theorem wd_665 : (Jvm.Cond.instanceMethod ({ cls := "GoneIntoItsTunnel$Row", name := "firstNotSo", desc := "(LGoneIntoItsTunnel$Hem;I)I" } : Jvm.MethodName)) ∈ TBg := tb_3 185 (by decide +kernel) rfl
theorem wd_666 : (Jvm.Cond.selects "GoneIntoItsTunnel$Row" ({ cls := "GoneIntoItsTunnel$Row", name := "firstNotSo", desc := "(LGoneIntoItsTunnel$Hem;I)I" } : Jvm.MethodName) ({ cls := "GoneIntoItsTunnel$Row", name := "firstNotSo", desc := "(LGoneIntoItsTunnel$Hem;I)I" } : Jvm.MethodName)) ∈ TBg := tb_3 186 (by decide +kernel) rfl
theorem wd_667 : (Jvm.Cond.code ({ cls := "GoneIntoItsTunnel$Row", name := "firstNotSo", desc := "(LGoneIntoItsTunnel$Hem;I)I" } : Jvm.MethodName) prog_6_method_5_code (4 : Nat) (Option.some Jvm.ClassFile.FieldType.int)) ∈ TBg := tb_3 187 (by decide +kernel) rfl
theorem wd_668 : (Jvm.Cond.methodLink "GoneIntoItsTunnel$Row" (19 : Nat) ({ cls := "GoneIntoItsTunnel$Hem", name := "depth", desc := "(I)I" } : Jvm.MethodName)) ∈ TBg := tb_3 188 (by decide +kernel) rfl
theorem wd_669 : (Jvm.Cond.methodLink "GoneIntoItsTunnel$Row" (25 : Nat) ({ cls := "GoneIntoItsTunnel$Hem", name := "washOnce", desc := "()I" } : Jvm.MethodName)) ∈ TBg := tb_3 189 (by decide +kernel) rfl
theorem wd_670 : (Jvm.Cond.methodLink "GoneIntoItsTunnel" (236 : Nat) ({ cls := "GoneIntoItsTunnel", name := "strengthsByRow", desc := "()I" } : Jvm.MethodName)) ∈ TBg := tb_3 190 (by decide +kernel) rfl
theorem wd_672 : (Jvm.Cond.instanceMethod ({ cls := "GoneIntoItsTunnel", name := "strengthsByRow", desc := "()I" } : Jvm.MethodName)) ∈ TBg := tb_3 192 (by decide +kernel) rfl
theorem wd_673 : (Jvm.Cond.code ({ cls := "GoneIntoItsTunnel", name := "strengthsByRow", desc := "()I" } : Jvm.MethodName) prog_1_method_51_code (3 : Nat) (Option.some Jvm.ClassFile.FieldType.int)) ∈ TBg := tb_3 193 (by decide +kernel) rfl
theorem wd_674 : (Jvm.Cond.methodLink "GoneIntoItsTunnelLaw" (137 : Nat) ({ cls := "GoneIntoItsTunnel", name := "row", desc := "(I)I" } : Jvm.MethodName)) ∈ TBg := tb_3 194 (by decide +kernel) rfl
theorem wd_675 : (Jvm.Cond.instanceMethod ({ cls := "GoneIntoItsTunnel", name := "row", desc := "(I)I" } : Jvm.MethodName)) ∈ TBg := tb_3 195 (by decide +kernel) rfl
theorem wd_676 : (Jvm.Cond.selects "GoneIntoItsTunnel" ({ cls := "GoneIntoItsTunnel", name := "row", desc := "(I)I" } : Jvm.MethodName) ({ cls := "GoneIntoItsTunnel", name := "row", desc := "(I)I" } : Jvm.MethodName)) ∈ TBg := tb_3 196 (by decide +kernel) rfl
theorem wd_677 : (Jvm.Cond.code ({ cls := "GoneIntoItsTunnel", name := "row", desc := "(I)I" } : Jvm.MethodName) prog_1_method_32_code (3 : Nat) (Option.some Jvm.ClassFile.FieldType.int)) ∈ TBg := tb_3 197 (by decide +kernel) rfl
theorem wd_678 : (Jvm.Cond.methodLink "GoneIntoItsTunnel" (239 : Nat) ({ cls := "GoneIntoItsTunnel$Row", name := "isFull", desc := "()Z" } : Jvm.MethodName)) ∈ TBg := tb_3 198 (by decide +kernel) rfl
theorem wd_679 : (Jvm.Cond.instanceMethod ({ cls := "GoneIntoItsTunnel$Row", name := "isFull", desc := "()Z" } : Jvm.MethodName)) ∈ TBg := tb_3 199 (by decide +kernel) rfl
theorem wd_680 : (Jvm.Cond.selects "GoneIntoItsTunnel$Row" ({ cls := "GoneIntoItsTunnel$Row", name := "isFull", desc := "()Z" } : Jvm.MethodName) ({ cls := "GoneIntoItsTunnel$Row", name := "isFull", desc := "()Z" } : Jvm.MethodName)) ∈ TBg := tb_3 200 (by decide +kernel) rfl
theorem wd_681 : (Jvm.Cond.code ({ cls := "GoneIntoItsTunnel$Row", name := "isFull", desc := "()Z" } : Jvm.MethodName) prog_6_method_2_code (1 : Nat) (Option.some Jvm.ClassFile.FieldType.boolean)) ∈ TBg := tb_3 201 (by decide +kernel) rfl
theorem wd_682 : (Jvm.Cond.methodLink "GoneIntoItsTunnel" (240 : Nat) ({ cls := "GoneIntoItsTunnel$Row", name := "add", desc := "(I)V" } : Jvm.MethodName)) ∈ TBg := tb_3 202 (by decide +kernel) rfl
theorem wd_683 : (Jvm.Cond.instanceMethod ({ cls := "GoneIntoItsTunnel$Row", name := "add", desc := "(I)V" } : Jvm.MethodName)) ∈ TBg := tb_3 203 (by decide +kernel) rfl
theorem wd_684 : (Jvm.Cond.selects "GoneIntoItsTunnel$Row" ({ cls := "GoneIntoItsTunnel$Row", name := "add", desc := "(I)V" } : Jvm.MethodName) ({ cls := "GoneIntoItsTunnel$Row", name := "add", desc := "(I)V" } : Jvm.MethodName)) ∈ TBg := tb_3 204 (by decide +kernel) rfl
theorem wd_685 : (Jvm.Cond.code ({ cls := "GoneIntoItsTunnel$Row", name := "add", desc := "(I)V" } : Jvm.MethodName) prog_6_method_3_code (2 : Nat) (Option.none : Option Jvm.ClassFile.FieldType)) ∈ TBg := tb_3 205 (by decide +kernel) rfl
theorem wd_686 : (Jvm.Cond.methodLink "GoneIntoItsTunnelLaw" (141 : Nat) ({ cls := "GoneIntoItsTunnel", name := "judge", desc := "(I)I" } : Jvm.MethodName)) ∈ TBg := tb_3 206 (by decide +kernel) rfl
theorem wd_687 : (Jvm.Cond.instanceMethod ({ cls := "GoneIntoItsTunnel", name := "judge", desc := "(I)I" } : Jvm.MethodName)) ∈ TBg := tb_3 207 (by decide +kernel) rfl
theorem wd_688 : (Jvm.Cond.selects "GoneIntoItsTunnel" ({ cls := "GoneIntoItsTunnel", name := "judge", desc := "(I)I" } : Jvm.MethodName) ({ cls := "GoneIntoItsTunnel", name := "judge", desc := "(I)I" } : Jvm.MethodName)) ∈ TBg := tb_3 208 (by decide +kernel) rfl
theorem wd_689 : (Jvm.Cond.code ({ cls := "GoneIntoItsTunnel", name := "judge", desc := "(I)I" } : Jvm.MethodName) prog_1_method_33_code (3 : Nat) (Option.some Jvm.ClassFile.FieldType.int)) ∈ TBg := tb_3 209 (by decide +kernel) rfl
theorem wd_690 : (Jvm.Cond.methodLink "GoneIntoItsTunnel" (246 : Nat) ({ cls := "GoneIntoItsTunnel$Row", name := "clear", desc := "()V" } : Jvm.MethodName)) ∈ TBg := tb_3 210 (by decide +kernel) rfl
theorem wd_691 : (Jvm.Cond.instanceMethod ({ cls := "GoneIntoItsTunnel$Row", name := "clear", desc := "()V" } : Jvm.MethodName)) ∈ TBg := tb_3 211 (by decide +kernel) rfl
theorem wd_692 : (Jvm.Cond.selects "GoneIntoItsTunnel$Row" ({ cls := "GoneIntoItsTunnel$Row", name := "clear", desc := "()V" } : Jvm.MethodName) ({ cls := "GoneIntoItsTunnel$Row", name := "clear", desc := "()V" } : Jvm.MethodName)) ∈ TBg := tb_3 212 (by decide +kernel) rfl
theorem wd_693 : (Jvm.Cond.code ({ cls := "GoneIntoItsTunnel$Row", name := "clear", desc := "()V" } : Jvm.MethodName) prog_6_method_4_code (1 : Nat) (Option.none : Option Jvm.ClassFile.FieldType)) ∈ TBg := tb_3 213 (by decide +kernel) rfl
theorem wd_694 : (Jvm.Cond.methodLink "GoneIntoItsTunnelLaw" (145 : Nat) ({ cls := "GoneIntoItsTunnel", name := "lots", desc := "(III)I" } : Jvm.MethodName)) ∈ TBg := tb_3 214 (by decide +kernel) rfl
theorem wd_695 : (Jvm.Cond.instanceMethod ({ cls := "GoneIntoItsTunnel", name := "lots", desc := "(III)I" } : Jvm.MethodName)) ∈ TBg := tb_3 215 (by decide +kernel) rfl
theorem wd_696 : (Jvm.Cond.selects "GoneIntoItsTunnel" ({ cls := "GoneIntoItsTunnel", name := "lots", desc := "(III)I" } : Jvm.MethodName) ({ cls := "GoneIntoItsTunnel", name := "lots", desc := "(III)I" } : Jvm.MethodName)) ∈ TBg := tb_3 216 (by decide +kernel) rfl
theorem wd_697 : (Jvm.Cond.code ({ cls := "GoneIntoItsTunnel", name := "lots", desc := "(III)I" } : Jvm.MethodName) prog_1_method_34_code (9 : Nat) (Option.some Jvm.ClassFile.FieldType.int)) ∈ TBg := tb_3 217 (by decide +kernel) rfl
theorem wd_698 : (Jvm.Cond.constant "GoneIntoItsTunnel" (247 : Nat) (1664525 : Int32)) ∈ TBg := tb_3 218 (by decide +kernel) rfl
theorem wd_699 : (Jvm.Cond.constant "GoneIntoItsTunnel" (248 : Nat) (1013904223 : Int32)) ∈ TBg := tb_3 219 (by decide +kernel) rfl
theorem wd_700 : (Jvm.Cond.constant "GoneIntoItsTunnel" (251 : Nat) (2147483647 : Int32)) ∈ TBg := tb_3 220 (by decide +kernel) rfl
theorem wd_701 : (Jvm.Cond.methodLink "GoneIntoItsTunnel" (252 : Nat) ({ cls := "GoneIntoItsTunnel", name := "lotSeconds", desc := "(I)I" } : Jvm.MethodName)) ∈ TBg := tb_3 221 (by decide +kernel) rfl
theorem wd_703 : (Jvm.Cond.instanceMethod ({ cls := "GoneIntoItsTunnel", name := "lotSeconds", desc := "(I)I" } : Jvm.MethodName)) ∈ TBg := tb_3 223 (by decide +kernel) rfl
theorem wd_704 : (Jvm.Cond.code ({ cls := "GoneIntoItsTunnel", name := "lotSeconds", desc := "(I)I" } : Jvm.MethodName) prog_1_method_52_code (2 : Nat) (Option.some Jvm.ClassFile.FieldType.int)) ∈ TBg := tb_3 224 (by decide +kernel) rfl
theorem wd_705 : (Jvm.Cond.methodLink "GoneIntoItsTunnelLaw" (149 : Nat) ({ cls := "GoneIntoItsTunnel", name := "image", desc := "()I" } : Jvm.MethodName)) ∈ TBg := tb_3 225 (by decide +kernel) rfl
theorem wd_706 : (Jvm.Cond.instanceMethod ({ cls := "GoneIntoItsTunnel", name := "image", desc := "()I" } : Jvm.MethodName)) ∈ TBg := tb_3 226 (by decide +kernel) rfl
theorem wd_707 : (Jvm.Cond.selects "GoneIntoItsTunnel" ({ cls := "GoneIntoItsTunnel", name := "image", desc := "()I" } : Jvm.MethodName) ({ cls := "GoneIntoItsTunnel", name := "image", desc := "()I" } : Jvm.MethodName)) ∈ TBg := tb_3 227 (by decide +kernel) rfl
theorem wd_708 : (Jvm.Cond.code ({ cls := "GoneIntoItsTunnel", name := "image", desc := "()I" } : Jvm.MethodName) prog_1_method_35_code (1 : Nat) (Option.some Jvm.ClassFile.FieldType.int)) ∈ TBg := tb_3 228 (by decide +kernel) rfl
theorem wd_709 : (Jvm.Cond.methodLink "GoneIntoItsTunnelLaw" (153 : Nat) ({ cls := "GoneIntoItsTunnel", name := "on", desc := "()I" } : Jvm.MethodName)) ∈ TBg := tb_3 229 (by decide +kernel) rfl
theorem wd_710 : (Jvm.Cond.instanceMethod ({ cls := "GoneIntoItsTunnel", name := "on", desc := "()I" } : Jvm.MethodName)) ∈ TBg := tb_3 230 (by decide +kernel) rfl
theorem wd_711 : (Jvm.Cond.selects "GoneIntoItsTunnel" ({ cls := "GoneIntoItsTunnel", name := "on", desc := "()I" } : Jvm.MethodName) ({ cls := "GoneIntoItsTunnel", name := "on", desc := "()I" } : Jvm.MethodName)) ∈ TBg := tb_3 231 (by decide +kernel) rfl
theorem wd_712 : (Jvm.Cond.code ({ cls := "GoneIntoItsTunnel", name := "on", desc := "()I" } : Jvm.MethodName) prog_1_method_36_code (1 : Nat) (Option.some Jvm.ClassFile.FieldType.int)) ∈ TBg := tb_3 232 (by decide +kernel) rfl
theorem wd_713 : (Jvm.Cond.methodLink "GoneIntoItsTunnelLaw" (157 : Nat) ({ cls := "GoneIntoItsTunnel", name := "count", desc := "(I)I" } : Jvm.MethodName)) ∈ TBg := tb_3 233 (by decide +kernel) rfl
theorem wd_714 : (Jvm.Cond.instanceMethod ({ cls := "GoneIntoItsTunnel", name := "count", desc := "(I)I" } : Jvm.MethodName)) ∈ TBg := tb_3 234 (by decide +kernel) rfl
theorem wd_715 : (Jvm.Cond.selects "GoneIntoItsTunnel" ({ cls := "GoneIntoItsTunnel", name := "count", desc := "(I)I" } : Jvm.MethodName) ({ cls := "GoneIntoItsTunnel", name := "count", desc := "(I)I" } : Jvm.MethodName)) ∈ TBg := tb_3 235 (by decide +kernel) rfl
theorem wd_716 : (Jvm.Cond.code ({ cls := "GoneIntoItsTunnel", name := "count", desc := "(I)I" } : Jvm.MethodName) prog_1_method_37_code (2 : Nat) (Option.some Jvm.ClassFile.FieldType.int)) ∈ TBg := tb_3 236 (by decide +kernel) rfl
theorem wd_717 : (Jvm.Cond.methodLink "GoneIntoItsTunnel" (255 : Nat) ({ cls := "GoneIntoItsTunnel$Hem", name := "seams", desc := "()I" } : Jvm.MethodName)) ∈ TBg := tb_3 237 (by decide +kernel) rfl
theorem wd_718 : (Jvm.Cond.instanceMethod ({ cls := "GoneIntoItsTunnel$Hem", name := "seams", desc := "()I" } : Jvm.MethodName)) ∈ TBg := tb_3 238 (by decide +kernel) rfl
theorem wd_719 : (Jvm.Cond.selects "GoneIntoItsTunnel$Hem" ({ cls := "GoneIntoItsTunnel$Hem", name := "seams", desc := "()I" } : Jvm.MethodName) ({ cls := "GoneIntoItsTunnel$Hem", name := "seams", desc := "()I" } : Jvm.MethodName)) ∈ TBg := tb_3 239 (by decide +kernel) rfl
theorem wd_720 : (Jvm.Cond.code ({ cls := "GoneIntoItsTunnel$Hem", name := "seams", desc := "()I" } : Jvm.MethodName) prog_2_method_11_code (3 : Nat) (Option.some Jvm.ClassFile.FieldType.int)) ∈ TBg := tb_4 0 (by decide +kernel) rfl
theorem wd_721 : (Jvm.Cond.methodLink "GoneIntoItsTunnel" (258 : Nat) ({ cls := "GoneIntoItsTunnel", name := "refusalsAt", desc := "(I)I" } : Jvm.MethodName)) ∈ TBg := tb_4 1 (by decide +kernel) rfl
theorem wd_723 : (Jvm.Cond.instanceMethod ({ cls := "GoneIntoItsTunnel", name := "refusalsAt", desc := "(I)I" } : Jvm.MethodName)) ∈ TBg := tb_4 3 (by decide +kernel) rfl
theorem wd_724 : (Jvm.Cond.code ({ cls := "GoneIntoItsTunnel", name := "refusalsAt", desc := "(I)I" } : Jvm.MethodName) prog_1_method_42_code (2 : Nat) (Option.some Jvm.ClassFile.FieldType.int)) ∈ TBg := tb_4 4 (by decide +kernel) rfl
theorem wd_731 : (Jvm.Cond.fieldLink "GoneIntoItsTunnelModel" (9 : Nat) "GoneIntoItsTunnelModel" "s" "[I") ∈ TBg := tb_4 11 (by decide +kernel) rfl
theorem wd_732 : (Jvm.Cond.fieldLink "GoneIntoItsTunnelModel" (13 : Nat) "GoneIntoItsTunnelModel" "m" "[I") ∈ TBg := tb_4 12 (by decide +kernel) rfl
theorem wd_733 : (Jvm.Cond.fieldLink "GoneIntoItsTunnelModel" (16 : Nat) "GoneIntoItsTunnelModel" "image" "[I") ∈ TBg := tb_4 13 (by decide +kernel) rfl
theorem wd_734 : (Jvm.Cond.fieldLink "GoneIntoItsTunnelModel" (19 : Nat) "GoneIntoItsTunnelModel" "was" "[I") ∈ TBg := tb_4 14 (by decide +kernel) rfl
theorem wd_735 : (Jvm.Cond.fieldLink "GoneIntoItsTunnelModel" (197 : Nat) "GoneIntoItsTunnelModel" "hasImage" "Z") ∈ TBg := tb_4 15 (by decide +kernel) rfl
theorem wd_736 : (Jvm.Cond.fieldLink "GoneIntoItsTunnelModel" (22 : Nat) "GoneIntoItsTunnelModel" "letters" "[I") ∈ TBg := tb_4 16 (by decide +kernel) rfl
theorem wd_737 : (Jvm.Cond.fieldLink "GoneIntoItsTunnelModel" (25 : Nat) "GoneIntoItsTunnelModel" "row" "[I") ∈ TBg := tb_4 17 (by decide +kernel) rfl
theorem wd_738 : (Jvm.Cond.fieldLink "GoneIntoItsTunnelModel" (28 : Nat) "GoneIntoItsTunnelModel" "refused" "[I") ∈ TBg := tb_4 18 (by decide +kernel) rfl
theorem wd_739 : (Jvm.Cond.fieldLink "GoneIntoItsTunnelModel" (108 : Nat) "GoneIntoItsTunnelModel" "letterMany" "I") ∈ TBg := tb_4 19 (by decide +kernel) rfl
theorem wd_740 : (Jvm.Cond.fieldLink "GoneIntoItsTunnelModel" (182 : Nat) "GoneIntoItsTunnelModel" "rowMany" "I") ∈ TBg := tb_4 20 (by decide +kernel) rfl
theorem wd_741 : (Jvm.Cond.fieldLink "GoneIntoItsTunnelModel" (31 : Nat) "GoneIntoItsTunnelModel" "costs" "[I") ∈ TBg := tb_4 21 (by decide +kernel) rfl
theorem wd_742 : (Jvm.Cond.fieldLink "GoneIntoItsTunnelModel" (90 : Nat) "GoneIntoItsTunnelModel" "bunchesMany" "I") ∈ TBg := tb_4 22 (by decide +kernel) rfl
theorem wd_743 : (Jvm.Cond.fieldLink "GoneIntoItsTunnelModel" (111 : Nat) "GoneIntoItsTunnelModel" "place" "I") ∈ TBg := tb_4 23 (by decide +kernel) rfl
theorem wd_744 : (Jvm.Cond.fieldLink "GoneIntoItsTunnelModel" (34 : Nat) "GoneIntoItsTunnelModel" "numbers" "[I") ∈ TBg := tb_4 24 (by decide +kernel) rfl
theorem wd_745 : (Jvm.Cond.fieldLink "GoneIntoItsTunnelModel" (176 : Nat) "GoneIntoItsTunnelModel" "mends" "I") ∈ TBg := tb_4 25 (by decide +kernel) rfl
theorem wd_746 : (Jvm.Cond.fieldLink "GoneIntoItsTunnelModel" (188 : Nat) "GoneIntoItsTunnelModel" "seed" "I") ∈ TBg := tb_4 26 (by decide +kernel) rfl
theorem wd_780 : (Jvm.Cond.methodLink "GoneIntoItsTunnelLaw" (17 : Nat) ({ cls := "GoneIntoItsTunnelModel", name := "letter", desc := "(I)I" } : Jvm.MethodName)) ∈ TBg := tb_4 60 (by decide +kernel) rfl
theorem wd_781 : (Jvm.Cond.instanceMethod ({ cls := "GoneIntoItsTunnelModel", name := "letter", desc := "(I)I" } : Jvm.MethodName)) ∈ TBg := tb_4 61 (by decide +kernel) rfl
theorem wd_782 : (Jvm.Cond.selects "GoneIntoItsTunnelModel" ({ cls := "GoneIntoItsTunnelModel", name := "letter", desc := "(I)I" } : Jvm.MethodName) ({ cls := "GoneIntoItsTunnelModel", name := "letter", desc := "(I)I" } : Jvm.MethodName)) ∈ TBg := tb_4 62 (by decide +kernel) rfl
theorem wd_783 : (Jvm.Cond.code ({ cls := "GoneIntoItsTunnelModel", name := "letter", desc := "(I)I" } : Jvm.MethodName) prog_9_method_30_code (2 : Nat) (Option.some Jvm.ClassFile.FieldType.int)) ∈ TBg := tb_4 63 (by decide +kernel) rfl
theorem wd_784 : (Jvm.Cond.methodLink "GoneIntoItsTunnelModel" (38 : Nat) ({ cls := "GoneIntoItsTunnelModel", name := "no", desc := "(I)I" } : Jvm.MethodName)) ∈ TBg := tb_4 64 (by decide +kernel) rfl
theorem wd_786 : (Jvm.Cond.instanceMethod ({ cls := "GoneIntoItsTunnelModel", name := "no", desc := "(I)I" } : Jvm.MethodName)) ∈ TBg := tb_4 66 (by decide +kernel) rfl
theorem wd_787 : (Jvm.Cond.code ({ cls := "GoneIntoItsTunnelModel", name := "no", desc := "(I)I" } : Jvm.MethodName) prog_9_method_6_code (2 : Nat) (Option.some Jvm.ClassFile.FieldType.int)) ∈ TBg := tb_4 67 (by decide +kernel) rfl
theorem wd_788 : (Jvm.Cond.methodLink "GoneIntoItsTunnelLaw" (22 : Nat) ({ cls := "GoneIntoItsTunnelModel", name := "hem", desc := "()I" } : Jvm.MethodName)) ∈ TBg := tb_4 68 (by decide +kernel) rfl
theorem wd_789 : (Jvm.Cond.instanceMethod ({ cls := "GoneIntoItsTunnelModel", name := "hem", desc := "()I" } : Jvm.MethodName)) ∈ TBg := tb_4 69 (by decide +kernel) rfl
theorem wd_790 : (Jvm.Cond.selects "GoneIntoItsTunnelModel" ({ cls := "GoneIntoItsTunnelModel", name := "hem", desc := "()I" } : Jvm.MethodName) ({ cls := "GoneIntoItsTunnelModel", name := "hem", desc := "()I" } : Jvm.MethodName)) ∈ TBg := tb_4 70 (by decide +kernel) rfl
theorem wd_791 : (Jvm.Cond.code ({ cls := "GoneIntoItsTunnelModel", name := "hem", desc := "()I" } : Jvm.MethodName) prog_9_method_38_code (6 : Nat) (Option.some Jvm.ClassFile.FieldType.int)) ∈ TBg := tb_4 71 (by decide +kernel) rfl
theorem wd_792 : (Jvm.Cond.methodLink "GoneIntoItsTunnelModel" (141 : Nat) ({ cls := "GoneIntoItsTunnelModel", name := "readsStatement", desc := "()Z" } : Jvm.MethodName)) ∈ TBg := tb_4 72 (by decide +kernel) rfl
theorem wd_794 : (Jvm.Cond.instanceMethod ({ cls := "GoneIntoItsTunnelModel", name := "readsStatement", desc := "()Z" } : Jvm.MethodName)) ∈ TBg := tb_4 74 (by decide +kernel) rfl
theorem wd_795 : (Jvm.Cond.code ({ cls := "GoneIntoItsTunnelModel", name := "readsStatement", desc := "()Z" } : Jvm.MethodName) prog_9_method_36_code (3 : Nat) (Option.some Jvm.ClassFile.FieldType.boolean)) ∈ TBg := tb_4 75 (by decide +kernel) rfl
theorem wd_796 : (Jvm.Cond.methodLink "GoneIntoItsTunnelModel" (114 : Nat) ({ cls := "GoneIntoItsTunnelModel", name := "here", desc := "()I" } : Jvm.MethodName)) ∈ TBg := tb_4 76 (by decide +kernel) rfl
theorem wd_798 : (Jvm.Cond.instanceMethod ({ cls := "GoneIntoItsTunnelModel", name := "here", desc := "()I" } : Jvm.MethodName)) ∈ TBg := tb_4 78 (by decide +kernel) rfl
theorem wd_799 : (Jvm.Cond.code ({ cls := "GoneIntoItsTunnelModel", name := "here", desc := "()I" } : Jvm.MethodName) prog_9_method_31_code (1 : Nat) (Option.some Jvm.ClassFile.FieldType.int)) ∈ TBg := tb_4 79 (by decide +kernel) rfl
theorem wd_800 : (Jvm.Cond.methodLink "GoneIntoItsTunnelModel" (121 : Nat) ({ cls := "GoneIntoItsTunnelModel", name := "readsNumber", desc := "(II)Z" } : Jvm.MethodName)) ∈ TBg := tb_4 80 (by decide +kernel) rfl
theorem wd_802 : (Jvm.Cond.instanceMethod ({ cls := "GoneIntoItsTunnelModel", name := "readsNumber", desc := "(II)Z" } : Jvm.MethodName)) ∈ TBg := tb_4 82 (by decide +kernel) rfl
theorem wd_803 : (Jvm.Cond.code ({ cls := "GoneIntoItsTunnelModel", name := "readsNumber", desc := "(II)Z" } : Jvm.MethodName) prog_9_method_32_code (4 : Nat) (Option.some Jvm.ClassFile.FieldType.boolean)) ∈ TBg := tb_4 83 (by decide +kernel) rfl
theorem wd_804 : (Jvm.Cond.methodLink "GoneIntoItsTunnelModel" (42 : Nat) ({ cls := "GoneIntoItsTunnelModel", name := "isIn", desc := "(III)Z" } : Jvm.MethodName)) ∈ TBg := tb_4 84 (by decide +kernel) rfl
theorem wd_805 : (Jvm.Cond.static ({ cls := "GoneIntoItsTunnelModel", name := "isIn", desc := "(III)Z" } : Jvm.MethodName)) ∈ TBg := tb_4 85 (by decide +kernel) rfl
theorem wd_806 : (Jvm.Cond.code ({ cls := "GoneIntoItsTunnelModel", name := "isIn", desc := "(III)Z" } : Jvm.MethodName) prog_9_method_2_code (3 : Nat) (Option.some Jvm.ClassFile.FieldType.boolean)) ∈ TBg := tb_4 86 (by decide +kernel) rfl
theorem wd_807 : (Jvm.Cond.methodLink "GoneIntoItsTunnelModel" (125 : Nat) ({ cls := "GoneIntoItsTunnelModel", name := "readsKind", desc := "()Z" } : Jvm.MethodName)) ∈ TBg := tb_4 87 (by decide +kernel) rfl
theorem wd_809 : (Jvm.Cond.instanceMethod ({ cls := "GoneIntoItsTunnelModel", name := "readsKind", desc := "()Z" } : Jvm.MethodName)) ∈ TBg := tb_4 89 (by decide +kernel) rfl
theorem wd_810 : (Jvm.Cond.code ({ cls := "GoneIntoItsTunnelModel", name := "readsKind", desc := "()Z" } : Jvm.MethodName) prog_9_method_34_code (1 : Nat) (Option.some Jvm.ClassFile.FieldType.boolean)) ∈ TBg := tb_4 90 (by decide +kernel) rfl
theorem wd_811 : (Jvm.Cond.methodLink "GoneIntoItsTunnelModel" (118 : Nat) ({ cls := "GoneIntoItsTunnelModel", name := "kindBy", desc := "(I)I" } : Jvm.MethodName)) ∈ TBg := tb_4 91 (by decide +kernel) rfl
theorem wd_812 : (Jvm.Cond.static ({ cls := "GoneIntoItsTunnelModel", name := "kindBy", desc := "(I)I" } : Jvm.MethodName)) ∈ TBg := tb_4 92 (by decide +kernel) rfl
theorem wd_813 : (Jvm.Cond.code ({ cls := "GoneIntoItsTunnelModel", name := "kindBy", desc := "(I)I" } : Jvm.MethodName) prog_9_method_33_code (1 : Nat) (Option.some Jvm.ClassFile.FieldType.int)) ∈ TBg := tb_4 93 (by decide +kernel) rfl
theorem wd_814 : (Jvm.Cond.methodLink "GoneIntoItsTunnelModel" (129 : Nat) ({ cls := "GoneIntoItsTunnelModel", name := "readsSigned", desc := "()Z" } : Jvm.MethodName)) ∈ TBg := tb_4 94 (by decide +kernel) rfl
theorem wd_816 : (Jvm.Cond.instanceMethod ({ cls := "GoneIntoItsTunnelModel", name := "readsSigned", desc := "()Z" } : Jvm.MethodName)) ∈ TBg := tb_4 96 (by decide +kernel) rfl
theorem wd_817 : (Jvm.Cond.code ({ cls := "GoneIntoItsTunnelModel", name := "readsSigned", desc := "()Z" } : Jvm.MethodName) prog_9_method_35_code (3 : Nat) (Option.some Jvm.ClassFile.FieldType.boolean)) ∈ TBg := tb_4 97 (by decide +kernel) rfl
theorem wd_818 : (Jvm.Cond.methodLink "GoneIntoItsTunnelModel" (144 : Nat) ({ cls := "GoneIntoItsTunnelModel", name := "lays", desc := "([I[I)V" } : Jvm.MethodName)) ∈ TBg := tb_4 98 (by decide +kernel) rfl
theorem wd_819 : (Jvm.Cond.static ({ cls := "GoneIntoItsTunnelModel", name := "lays", desc := "([I[I)V" } : Jvm.MethodName)) ∈ TBg := tb_4 99 (by decide +kernel) rfl
theorem wd_820 : (Jvm.Cond.code ({ cls := "GoneIntoItsTunnelModel", name := "lays", desc := "([I[I)V" } : Jvm.MethodName) prog_9_method_5_code (3 : Nat) (Option.none : Option Jvm.ClassFile.FieldType)) ∈ TBg := tb_4 100 (by decide +kernel) rfl
theorem wd_821 : (Jvm.Cond.methodLink "GoneIntoItsTunnelModel" (148 : Nat) ({ cls := "GoneIntoItsTunnelModel", name := "isDone", desc := "(I)Z" } : Jvm.MethodName)) ∈ TBg := tb_4 101 (by decide +kernel) rfl
theorem wd_823 : (Jvm.Cond.instanceMethod ({ cls := "GoneIntoItsTunnelModel", name := "isDone", desc := "(I)Z" } : Jvm.MethodName)) ∈ TBg := tb_4 103 (by decide +kernel) rfl
theorem wd_824 : (Jvm.Cond.code ({ cls := "GoneIntoItsTunnelModel", name := "isDone", desc := "(I)Z" } : Jvm.MethodName) prog_9_method_37_code (4 : Nat) (Option.some Jvm.ClassFile.FieldType.boolean)) ∈ TBg := tb_4 104 (by decide +kernel) rfl
theorem wd_825 : (Jvm.Cond.methodLink "GoneIntoItsTunnelModel" (132 : Nat) ({ cls := "GoneIntoItsTunnelModel", name := "isInch", desc := "(I)Z" } : Jvm.MethodName)) ∈ TBg := tb_4 105 (by decide +kernel) rfl
theorem wd_827 : (Jvm.Cond.instanceMethod ({ cls := "GoneIntoItsTunnelModel", name := "isInch", desc := "(I)Z" } : Jvm.MethodName)) ∈ TBg := tb_4 107 (by decide +kernel) rfl
theorem wd_828 : (Jvm.Cond.code ({ cls := "GoneIntoItsTunnelModel", name := "isInch", desc := "(I)Z" } : Jvm.MethodName) prog_9_method_8_code (2 : Nat) (Option.some Jvm.ClassFile.FieldType.boolean)) ∈ TBg := tb_4 108 (by decide +kernel) rfl
theorem wd_829 : (Jvm.Cond.methodLink "GoneIntoItsTunnelModel" (135 : Nat) ({ cls := "GoneIntoItsTunnelModel", name := "isEnd", desc := "(I)Z" } : Jvm.MethodName)) ∈ TBg := tb_4 109 (by decide +kernel) rfl
theorem wd_830 : (Jvm.Cond.static ({ cls := "GoneIntoItsTunnelModel", name := "isEnd", desc := "(I)Z" } : Jvm.MethodName)) ∈ TBg := tb_4 110 (by decide +kernel) rfl
theorem wd_831 : (Jvm.Cond.code ({ cls := "GoneIntoItsTunnelModel", name := "isEnd", desc := "(I)Z" } : Jvm.MethodName) prog_9_method_9_code (1 : Nat) (Option.some Jvm.ClassFile.FieldType.boolean)) ∈ TBg := tb_4 111 (by decide +kernel) rfl
theorem wd_832 : (Jvm.Cond.methodLink "GoneIntoItsTunnelModel" (138 : Nat) ({ cls := "GoneIntoItsTunnelModel", name := "washesOn", desc := "([II)V" } : Jvm.MethodName)) ∈ TBg := tb_4 112 (by decide +kernel) rfl
theorem wd_833 : (Jvm.Cond.static ({ cls := "GoneIntoItsTunnelModel", name := "washesOn", desc := "([II)V" } : Jvm.MethodName)) ∈ TBg := tb_4 113 (by decide +kernel) rfl
theorem wd_834 : (Jvm.Cond.code ({ cls := "GoneIntoItsTunnelModel", name := "washesOn", desc := "([II)V" } : Jvm.MethodName) prog_9_method_22_code (4 : Nat) (Option.none : Option Jvm.ClassFile.FieldType)) ∈ TBg := tb_4 114 (by decide +kernel) rfl
theorem wd_835 : (Jvm.Cond.methodLink "GoneIntoItsTunnelModel" (77 : Nat) ({ cls := "GoneIntoItsTunnelModel", name := "washes", desc := "([I)I" } : Jvm.MethodName)) ∈ TBg := tb_4 115 (by decide +kernel) rfl
theorem wd_836 : (Jvm.Cond.static ({ cls := "GoneIntoItsTunnelModel", name := "washes", desc := "([I)I" } : Jvm.MethodName)) ∈ TBg := tb_4 116 (by decide +kernel) rfl
theorem wd_837 : (Jvm.Cond.code ({ cls := "GoneIntoItsTunnelModel", name := "washes", desc := "([I)I" } : Jvm.MethodName) prog_9_method_21_code (2 : Nat) (Option.some Jvm.ClassFile.FieldType.int)) ∈ TBg := tb_4 117 (by decide +kernel) rfl
theorem wd_838 : (Jvm.Cond.methodLink "GoneIntoItsTunnelModel" (68 : Nat) ({ cls := "GoneIntoItsTunnelModel", name := "inchOf", desc := "([II)I" } : Jvm.MethodName)) ∈ TBg := tb_4 118 (by decide +kernel) rfl
theorem wd_839 : (Jvm.Cond.static ({ cls := "GoneIntoItsTunnelModel", name := "inchOf", desc := "([II)I" } : Jvm.MethodName)) ∈ TBg := tb_4 119 (by decide +kernel) rfl
theorem wd_840 : (Jvm.Cond.code ({ cls := "GoneIntoItsTunnelModel", name := "inchOf", desc := "([II)I" } : Jvm.MethodName) prog_9_method_17_code (3 : Nat) (Option.some Jvm.ClassFile.FieldType.int)) ∈ TBg := tb_4 120 (by decide +kernel) rfl
theorem wd_841 : (Jvm.Cond.methodLink "GoneIntoItsTunnelModel" (57 : Nat) ({ cls := "GoneIntoItsTunnelModel", name := "least", desc := "(II)I" } : Jvm.MethodName)) ∈ TBg := tb_4 121 (by decide +kernel) rfl
theorem wd_842 : (Jvm.Cond.static ({ cls := "GoneIntoItsTunnelModel", name := "least", desc := "(II)I" } : Jvm.MethodName)) ∈ TBg := tb_4 122 (by decide +kernel) rfl
theorem wd_843 : (Jvm.Cond.code ({ cls := "GoneIntoItsTunnelModel", name := "least", desc := "(II)I" } : Jvm.MethodName) prog_9_method_3_code (2 : Nat) (Option.some Jvm.ClassFile.FieldType.int)) ∈ TBg := tb_4 123 (by decide +kernel) rfl
theorem wd_844 : (Jvm.Cond.methodLink "GoneIntoItsTunnelModel" (71 : Nat) ({ cls := "GoneIntoItsTunnelModel", name := "drawsAt", desc := "([II)I" } : Jvm.MethodName)) ∈ TBg := tb_4 124 (by decide +kernel) rfl
theorem wd_845 : (Jvm.Cond.static ({ cls := "GoneIntoItsTunnelModel", name := "drawsAt", desc := "([II)I" } : Jvm.MethodName)) ∈ TBg := tb_4 125 (by decide +kernel) rfl
theorem wd_846 : (Jvm.Cond.code ({ cls := "GoneIntoItsTunnelModel", name := "drawsAt", desc := "([II)I" } : Jvm.MethodName) prog_9_method_16_code (3 : Nat) (Option.some Jvm.ClassFile.FieldType.int)) ∈ TBg := tb_4 126 (by decide +kernel) rfl
theorem wd_847 : (Jvm.Cond.methodLink "GoneIntoItsTunnelModel" (46 : Nat) ({ cls := "GoneIntoItsTunnelModel", name := "kindOf", desc := "([II)I" } : Jvm.MethodName)) ∈ TBg := tb_4 127 (by decide +kernel) rfl
theorem wd_848 : (Jvm.Cond.static ({ cls := "GoneIntoItsTunnelModel", name := "kindOf", desc := "([II)I" } : Jvm.MethodName)) ∈ TBg := tb_4 128 (by decide +kernel) rfl
theorem wd_849 : (Jvm.Cond.code ({ cls := "GoneIntoItsTunnelModel", name := "kindOf", desc := "([II)I" } : Jvm.MethodName) prog_9_method_10_code (2 : Nat) (Option.some Jvm.ClassFile.FieldType.int)) ∈ TBg := tb_4 129 (by decide +kernel) rfl
theorem wd_850 : (Jvm.Cond.methodLink "GoneIntoItsTunnelModel" (50 : Nat) ({ cls := "GoneIntoItsTunnelModel", name := "isSeam", desc := "(I)Z" } : Jvm.MethodName)) ∈ TBg := tb_4 130 (by decide +kernel) rfl
theorem wd_851 : (Jvm.Cond.static ({ cls := "GoneIntoItsTunnelModel", name := "isSeam", desc := "(I)Z" } : Jvm.MethodName)) ∈ TBg := tb_4 131 (by decide +kernel) rfl
theorem wd_852 : (Jvm.Cond.code ({ cls := "GoneIntoItsTunnelModel", name := "isSeam", desc := "(I)Z" } : Jvm.MethodName) prog_9_method_12_code (1 : Nat) (Option.some Jvm.ClassFile.FieldType.boolean)) ∈ TBg := tb_4 132 (by decide +kernel) rfl
theorem wd_853 : (Jvm.Cond.methodLink "GoneIntoItsTunnelModel" (74 : Nat) ({ cls := "GoneIntoItsTunnelModel", name := "pulls", desc := "([III)I" } : Jvm.MethodName)) ∈ TBg := tb_4 133 (by decide +kernel) rfl
theorem wd_854 : (Jvm.Cond.static ({ cls := "GoneIntoItsTunnelModel", name := "pulls", desc := "([III)I" } : Jvm.MethodName)) ∈ TBg := tb_4 134 (by decide +kernel) rfl
theorem wd_855 : (Jvm.Cond.code ({ cls := "GoneIntoItsTunnelModel", name := "pulls", desc := "([III)I" } : Jvm.MethodName) prog_9_method_20_code (4 : Nat) (Option.some Jvm.ClassFile.FieldType.int)) ∈ TBg := tb_4 135 (by decide +kernel) rfl
theorem wd_856 : (Jvm.Cond.methodLink "GoneIntoItsTunnelModel" (64 : Nat) ({ cls := "GoneIntoItsTunnelModel", name := "canPull", desc := "([III)I" } : Jvm.MethodName)) ∈ TBg := tb_4 136 (by decide +kernel) rfl
theorem wd_857 : (Jvm.Cond.static ({ cls := "GoneIntoItsTunnelModel", name := "canPull", desc := "([III)I" } : Jvm.MethodName)) ∈ TBg := tb_4 137 (by decide +kernel) rfl
theorem wd_858 : (Jvm.Cond.code ({ cls := "GoneIntoItsTunnelModel", name := "canPull", desc := "([III)I" } : Jvm.MethodName) prog_9_method_19_code (5 : Nat) (Option.some Jvm.ClassFile.FieldType.int)) ∈ TBg := tb_4 138 (by decide +kernel) rfl
theorem wd_859 : (Jvm.Cond.methodLink "GoneIntoItsTunnelModel" (61 : Nat) ({ cls := "GoneIntoItsTunnelModel", name := "most", desc := "(II)I" } : Jvm.MethodName)) ∈ TBg := tb_4 139 (by decide +kernel) rfl
theorem wd_860 : (Jvm.Cond.static ({ cls := "GoneIntoItsTunnelModel", name := "most", desc := "(II)I" } : Jvm.MethodName)) ∈ TBg := tb_4 140 (by decide +kernel) rfl
theorem wd_861 : (Jvm.Cond.code ({ cls := "GoneIntoItsTunnelModel", name := "most", desc := "(II)I" } : Jvm.MethodName) prog_9_method_4_code (2 : Nat) (Option.some Jvm.ClassFile.FieldType.int)) ∈ TBg := tb_4 141 (by decide +kernel) rfl
theorem wd_862 : (Jvm.Cond.methodLink "GoneIntoItsTunnelLaw" (27 : Nat) ({ cls := "GoneIntoItsTunnelModel", name := "inch", desc := "(II)I" } : Jvm.MethodName)) ∈ TBg := tb_4 142 (by decide +kernel) rfl
theorem wd_863 : (Jvm.Cond.instanceMethod ({ cls := "GoneIntoItsTunnelModel", name := "inch", desc := "(II)I" } : Jvm.MethodName)) ∈ TBg := tb_4 143 (by decide +kernel) rfl
theorem wd_864 : (Jvm.Cond.selects "GoneIntoItsTunnelModel" ({ cls := "GoneIntoItsTunnelModel", name := "inch", desc := "(II)I" } : Jvm.MethodName) ({ cls := "GoneIntoItsTunnelModel", name := "inch", desc := "(II)I" } : Jvm.MethodName)) ∈ TBg := tb_4 144 (by decide +kernel) rfl
theorem wd_865 : (Jvm.Cond.code ({ cls := "GoneIntoItsTunnelModel", name := "inch", desc := "(II)I" } : Jvm.MethodName) prog_9_method_39_code (3 : Nat) (Option.some Jvm.ClassFile.FieldType.int)) ∈ TBg := tb_4 145 (by decide +kernel) rfl
theorem wd_866 : (Jvm.Cond.methodLink "GoneIntoItsTunnelModel" (54 : Nat) ({ cls := "GoneIntoItsTunnelModel", name := "figureOf", desc := "([II)I" } : Jvm.MethodName)) ∈ TBg := tb_4 146 (by decide +kernel) rfl
theorem wd_867 : (Jvm.Cond.static ({ cls := "GoneIntoItsTunnelModel", name := "figureOf", desc := "([II)I" } : Jvm.MethodName)) ∈ TBg := tb_4 147 (by decide +kernel) rfl
theorem wd_868 : (Jvm.Cond.code ({ cls := "GoneIntoItsTunnelModel", name := "figureOf", desc := "([II)I" } : Jvm.MethodName) prog_9_method_11_code (2 : Nat) (Option.some Jvm.ClassFile.FieldType.int)) ∈ TBg := tb_4 148 (by decide +kernel) rfl
theorem wd_869 : (Jvm.Cond.methodLink "GoneIntoItsTunnelModel" (81 : Nat) ({ cls := "GoneIntoItsTunnelModel", name := "movesAt", desc := "([II)I" } : Jvm.MethodName)) ∈ TBg := tb_4 149 (by decide +kernel) rfl
theorem wd_870 : (Jvm.Cond.static ({ cls := "GoneIntoItsTunnelModel", name := "movesAt", desc := "([II)I" } : Jvm.MethodName)) ∈ TBg := tb_4 150 (by decide +kernel) rfl
theorem wd_871 : (Jvm.Cond.code ({ cls := "GoneIntoItsTunnelModel", name := "movesAt", desc := "([II)I" } : Jvm.MethodName) prog_9_method_13_code (3 : Nat) (Option.some Jvm.ClassFile.FieldType.int)) ∈ TBg := tb_4 151 (by decide +kernel) rfl
theorem wd_872 : (Jvm.Cond.methodLink "GoneIntoItsTunnelModel" (98 : Nat) ({ cls := "GoneIntoItsTunnelModel", name := "bunchAt", desc := "([II)I" } : Jvm.MethodName)) ∈ TBg := tb_4 152 (by decide +kernel) rfl
theorem wd_873 : (Jvm.Cond.static ({ cls := "GoneIntoItsTunnelModel", name := "bunchAt", desc := "([II)I" } : Jvm.MethodName)) ∈ TBg := tb_4 153 (by decide +kernel) rfl
theorem wd_874 : (Jvm.Cond.code ({ cls := "GoneIntoItsTunnelModel", name := "bunchAt", desc := "([II)I" } : Jvm.MethodName) prog_9_method_14_code (3 : Nat) (Option.some Jvm.ClassFile.FieldType.int)) ∈ TBg := tb_4 154 (by decide +kernel) rfl
theorem wd_875 : (Jvm.Cond.methodLink "GoneIntoItsTunnelModel" (87 : Nat) ({ cls := "GoneIntoItsTunnelModel", name := "threadAt", desc := "([II)I" } : Jvm.MethodName)) ∈ TBg := tb_4 155 (by decide +kernel) rfl
theorem wd_876 : (Jvm.Cond.static ({ cls := "GoneIntoItsTunnelModel", name := "threadAt", desc := "([II)I" } : Jvm.MethodName)) ∈ TBg := tb_4 156 (by decide +kernel) rfl
theorem wd_877 : (Jvm.Cond.code ({ cls := "GoneIntoItsTunnelModel", name := "threadAt", desc := "([II)I" } : Jvm.MethodName) prog_9_method_15_code (3 : Nat) (Option.some Jvm.ClassFile.FieldType.int)) ∈ TBg := tb_4 157 (by decide +kernel) rfl
theorem wd_878 : (Jvm.Cond.methodLink "GoneIntoItsTunnelLaw" (32 : Nat) ({ cls := "GoneIntoItsTunnelModel", name := "turn", desc := "(III)I" } : Jvm.MethodName)) ∈ TBg := tb_4 158 (by decide +kernel) rfl
theorem wd_879 : (Jvm.Cond.instanceMethod ({ cls := "GoneIntoItsTunnelModel", name := "turn", desc := "(III)I" } : Jvm.MethodName)) ∈ TBg := tb_4 159 (by decide +kernel) rfl
theorem wd_880 : (Jvm.Cond.selects "GoneIntoItsTunnelModel" ({ cls := "GoneIntoItsTunnelModel", name := "turn", desc := "(III)I" } : Jvm.MethodName) ({ cls := "GoneIntoItsTunnelModel", name := "turn", desc := "(III)I" } : Jvm.MethodName)) ∈ TBg := tb_4 160 (by decide +kernel) rfl
theorem wd_881 : (Jvm.Cond.code ({ cls := "GoneIntoItsTunnelModel", name := "turn", desc := "(III)I" } : Jvm.MethodName) prog_9_method_40_code (5 : Nat) (Option.some Jvm.ClassFile.FieldType.int)) ∈ TBg := tb_4 161 (by decide +kernel) rfl
theorem wd_882 : (Jvm.Cond.methodLink "GoneIntoItsTunnelLaw" (36 : Nat) ({ cls := "GoneIntoItsTunnelModel", name := "inches", desc := "(I)I" } : Jvm.MethodName)) ∈ TBg := tb_4 162 (by decide +kernel) rfl
theorem wd_883 : (Jvm.Cond.instanceMethod ({ cls := "GoneIntoItsTunnelModel", name := "inches", desc := "(I)I" } : Jvm.MethodName)) ∈ TBg := tb_4 163 (by decide +kernel) rfl
theorem wd_884 : (Jvm.Cond.selects "GoneIntoItsTunnelModel" ({ cls := "GoneIntoItsTunnelModel", name := "inches", desc := "(I)I" } : Jvm.MethodName) ({ cls := "GoneIntoItsTunnelModel", name := "inches", desc := "(I)I" } : Jvm.MethodName)) ∈ TBg := tb_4 164 (by decide +kernel) rfl
theorem wd_885 : (Jvm.Cond.code ({ cls := "GoneIntoItsTunnelModel", name := "inches", desc := "(I)I" } : Jvm.MethodName) prog_9_method_41_code (3 : Nat) (Option.some Jvm.ClassFile.FieldType.int)) ∈ TBg := tb_4 165 (by decide +kernel) rfl
theorem wd_886 : (Jvm.Cond.methodLink "GoneIntoItsTunnelLaw" (40 : Nat) ({ cls := "GoneIntoItsTunnelModel", name := "end", desc := "(II)I" } : Jvm.MethodName)) ∈ TBg := tb_4 166 (by decide +kernel) rfl
theorem wd_887 : (Jvm.Cond.instanceMethod ({ cls := "GoneIntoItsTunnelModel", name := "end", desc := "(II)I" } : Jvm.MethodName)) ∈ TBg := tb_4 167 (by decide +kernel) rfl
theorem wd_888 : (Jvm.Cond.selects "GoneIntoItsTunnelModel" ({ cls := "GoneIntoItsTunnelModel", name := "end", desc := "(II)I" } : Jvm.MethodName) ({ cls := "GoneIntoItsTunnelModel", name := "end", desc := "(II)I" } : Jvm.MethodName)) ∈ TBg := tb_4 168 (by decide +kernel) rfl
theorem wd_889 : (Jvm.Cond.code ({ cls := "GoneIntoItsTunnelModel", name := "end", desc := "(II)I" } : Jvm.MethodName) prog_9_method_42_code (4 : Nat) (Option.some Jvm.ClassFile.FieldType.int)) ∈ TBg := tb_4 169 (by decide +kernel) rfl
theorem wd_890 : (Jvm.Cond.methodLink "GoneIntoItsTunnelModel" (151 : Nat) ({ cls := "GoneIntoItsTunnelModel", name := "noFar", desc := "(I)I" } : Jvm.MethodName)) ∈ TBg := tb_4 170 (by decide +kernel) rfl
theorem wd_892 : (Jvm.Cond.instanceMethod ({ cls := "GoneIntoItsTunnelModel", name := "noFar", desc := "(I)I" } : Jvm.MethodName)) ∈ TBg := tb_4 172 (by decide +kernel) rfl
theorem wd_893 : (Jvm.Cond.code ({ cls := "GoneIntoItsTunnelModel", name := "noFar", desc := "(I)I" } : Jvm.MethodName) prog_9_method_7_code (2 : Nat) (Option.some Jvm.ClassFile.FieldType.int)) ∈ TBg := tb_4 173 (by decide +kernel) rfl
theorem wd_894 : (Jvm.Cond.constant "GoneIntoItsTunnelModel" (37 : Nat) (1000000000 : Int32)) ∈ TBg := tb_4 174 (by decide +kernel) rfl
theorem wd_895 : (Jvm.Cond.methodLink "GoneIntoItsTunnelLaw" (44 : Nat) ({ cls := "GoneIntoItsTunnelModel", name := "tie", desc := "(I)I" } : Jvm.MethodName)) ∈ TBg := tb_4 175 (by decide +kernel) rfl
theorem wd_896 : (Jvm.Cond.instanceMethod ({ cls := "GoneIntoItsTunnelModel", name := "tie", desc := "(I)I" } : Jvm.MethodName)) ∈ TBg := tb_4 176 (by decide +kernel) rfl
theorem wd_897 : (Jvm.Cond.selects "GoneIntoItsTunnelModel" ({ cls := "GoneIntoItsTunnelModel", name := "tie", desc := "(I)I" } : Jvm.MethodName) ({ cls := "GoneIntoItsTunnelModel", name := "tie", desc := "(I)I" } : Jvm.MethodName)) ∈ TBg := tb_4 177 (by decide +kernel) rfl
theorem wd_898 : (Jvm.Cond.code ({ cls := "GoneIntoItsTunnelModel", name := "tie", desc := "(I)I" } : Jvm.MethodName) prog_9_method_43_code (2 : Nat) (Option.some Jvm.ClassFile.FieldType.int)) ∈ TBg := tb_4 178 (by decide +kernel) rfl
theorem wd_899 : (Jvm.Cond.methodLink "GoneIntoItsTunnelLaw" (48 : Nat) ({ cls := "GoneIntoItsTunnelModel", name := "sew", desc := "()I" } : Jvm.MethodName)) ∈ TBg := tb_4 179 (by decide +kernel) rfl
theorem wd_900 : (Jvm.Cond.instanceMethod ({ cls := "GoneIntoItsTunnelModel", name := "sew", desc := "()I" } : Jvm.MethodName)) ∈ TBg := tb_4 180 (by decide +kernel) rfl
theorem wd_901 : (Jvm.Cond.selects "GoneIntoItsTunnelModel" ({ cls := "GoneIntoItsTunnelModel", name := "sew", desc := "()I" } : Jvm.MethodName) ({ cls := "GoneIntoItsTunnelModel", name := "sew", desc := "()I" } : Jvm.MethodName)) ∈ TBg := tb_4 181 (by decide +kernel) rfl
theorem wd_902 : (Jvm.Cond.code ({ cls := "GoneIntoItsTunnelModel", name := "sew", desc := "()I" } : Jvm.MethodName) prog_9_method_44_code (1 : Nat) (Option.some Jvm.ClassFile.FieldType.int)) ∈ TBg := tb_4 182 (by decide +kernel) rfl
theorem wd_903 : (Jvm.Cond.methodLink "GoneIntoItsTunnelLaw" (52 : Nat) ({ cls := "GoneIntoItsTunnelModel", name := "set", desc := "(II)I" } : Jvm.MethodName)) ∈ TBg := tb_4 183 (by decide +kernel) rfl
theorem wd_904 : (Jvm.Cond.instanceMethod ({ cls := "GoneIntoItsTunnelModel", name := "set", desc := "(II)I" } : Jvm.MethodName)) ∈ TBg := tb_4 184 (by decide +kernel) rfl
theorem wd_905 : (Jvm.Cond.selects "GoneIntoItsTunnelModel" ({ cls := "GoneIntoItsTunnelModel", name := "set", desc := "(II)I" } : Jvm.MethodName) ({ cls := "GoneIntoItsTunnelModel", name := "set", desc := "(II)I" } : Jvm.MethodName)) ∈ TBg := tb_4 185 (by decide +kernel) rfl
theorem wd_906 : (Jvm.Cond.code ({ cls := "GoneIntoItsTunnelModel", name := "set", desc := "(II)I" } : Jvm.MethodName) prog_9_method_45_code (4 : Nat) (Option.some Jvm.ClassFile.FieldType.int)) ∈ TBg := tb_4 186 (by decide +kernel) rfl
theorem wd_907 : (Jvm.Cond.methodLink "GoneIntoItsTunnelLaw" (56 : Nat) ({ cls := "GoneIntoItsTunnelModel", name := "pull", desc := "(II)I" } : Jvm.MethodName)) ∈ TBg := tb_4 187 (by decide +kernel) rfl
theorem wd_908 : (Jvm.Cond.instanceMethod ({ cls := "GoneIntoItsTunnelModel", name := "pull", desc := "(II)I" } : Jvm.MethodName)) ∈ TBg := tb_4 188 (by decide +kernel) rfl
theorem wd_909 : (Jvm.Cond.selects "GoneIntoItsTunnelModel" ({ cls := "GoneIntoItsTunnelModel", name := "pull", desc := "(II)I" } : Jvm.MethodName) ({ cls := "GoneIntoItsTunnelModel", name := "pull", desc := "(II)I" } : Jvm.MethodName)) ∈ TBg := tb_4 189 (by decide +kernel) rfl
theorem wd_910 : (Jvm.Cond.code ({ cls := "GoneIntoItsTunnelModel", name := "pull", desc := "(II)I" } : Jvm.MethodName) prog_9_method_46_code (4 : Nat) (Option.some Jvm.ClassFile.FieldType.int)) ∈ TBg := tb_4 190 (by decide +kernel) rfl
theorem wd_911 : (Jvm.Cond.methodLink "GoneIntoItsTunnelLaw" (60 : Nat) ({ cls := "GoneIntoItsTunnelModel", name := "bunch", desc := "(I)I" } : Jvm.MethodName)) ∈ TBg := tb_4 191 (by decide +kernel) rfl
theorem wd_912 : (Jvm.Cond.instanceMethod ({ cls := "GoneIntoItsTunnelModel", name := "bunch", desc := "(I)I" } : Jvm.MethodName)) ∈ TBg := tb_4 192 (by decide +kernel) rfl
theorem wd_913 : (Jvm.Cond.selects "GoneIntoItsTunnelModel" ({ cls := "GoneIntoItsTunnelModel", name := "bunch", desc := "(I)I" } : Jvm.MethodName) ({ cls := "GoneIntoItsTunnelModel", name := "bunch", desc := "(I)I" } : Jvm.MethodName)) ∈ TBg := tb_4 193 (by decide +kernel) rfl
theorem wd_914 : (Jvm.Cond.code ({ cls := "GoneIntoItsTunnelModel", name := "bunch", desc := "(I)I" } : Jvm.MethodName) prog_9_method_47_code (2 : Nat) (Option.some Jvm.ClassFile.FieldType.int)) ∈ TBg := tb_4 194 (by decide +kernel) rfl
theorem wd_915 : (Jvm.Cond.methodLink "GoneIntoItsTunnelModel" (94 : Nat) ({ cls := "GoneIntoItsTunnelModel", name := "isLost", desc := "([II)Z" } : Jvm.MethodName)) ∈ TBg := tb_4 195 (by decide +kernel) rfl
theorem wd_916 : (Jvm.Cond.static ({ cls := "GoneIntoItsTunnelModel", name := "isLost", desc := "([II)Z" } : Jvm.MethodName)) ∈ TBg := tb_4 196 (by decide +kernel) rfl
theorem wd_917 : (Jvm.Cond.code ({ cls := "GoneIntoItsTunnelModel", name := "isLost", desc := "([II)Z" } : Jvm.MethodName) prog_9_method_18_code (2 : Nat) (Option.some Jvm.ClassFile.FieldType.boolean)) ∈ TBg := tb_4 197 (by decide +kernel) rfl
theorem wd_918 : (Jvm.Cond.methodLink "GoneIntoItsTunnelModel" (101 : Nat) ({ cls := "GoneIntoItsTunnelModel", name := "bunches", desc := "([II)V" } : Jvm.MethodName)) ∈ TBg := tb_4 198 (by decide +kernel) rfl
theorem wd_919 : (Jvm.Cond.static ({ cls := "GoneIntoItsTunnelModel", name := "bunches", desc := "([II)V" } : Jvm.MethodName)) ∈ TBg := tb_4 199 (by decide +kernel) rfl
theorem wd_920 : (Jvm.Cond.code ({ cls := "GoneIntoItsTunnelModel", name := "bunches", desc := "([II)V" } : Jvm.MethodName) prog_9_method_23_code (2 : Nat) (Option.none : Option Jvm.ClassFile.FieldType)) ∈ TBg := tb_4 200 (by decide +kernel) rfl
theorem wd_921 : (Jvm.Cond.methodLink "GoneIntoItsTunnelLaw" (64 : Nat) ({ cls := "GoneIntoItsTunnelModel", name := "anew", desc := "()I" } : Jvm.MethodName)) ∈ TBg := tb_4 201 (by decide +kernel) rfl
theorem wd_922 : (Jvm.Cond.instanceMethod ({ cls := "GoneIntoItsTunnelModel", name := "anew", desc := "()I" } : Jvm.MethodName)) ∈ TBg := tb_4 202 (by decide +kernel) rfl
theorem wd_923 : (Jvm.Cond.selects "GoneIntoItsTunnelModel" ({ cls := "GoneIntoItsTunnelModel", name := "anew", desc := "()I" } : Jvm.MethodName) ({ cls := "GoneIntoItsTunnelModel", name := "anew", desc := "()I" } : Jvm.MethodName)) ∈ TBg := tb_4 203 (by decide +kernel) rfl
theorem wd_924 : (Jvm.Cond.code ({ cls := "GoneIntoItsTunnelModel", name := "anew", desc := "()I" } : Jvm.MethodName) prog_9_method_48_code (1 : Nat) (Option.some Jvm.ClassFile.FieldType.int)) ∈ TBg := tb_4 204 (by decide +kernel) rfl
theorem wd_925 : (Jvm.Cond.methodLink "GoneIntoItsTunnelModel" (154 : Nat) ({ cls := "GoneIntoItsTunnelModel", name := "threads", desc := "([I)V" } : Jvm.MethodName)) ∈ TBg := tb_4 205 (by decide +kernel) rfl
theorem wd_926 : (Jvm.Cond.static ({ cls := "GoneIntoItsTunnelModel", name := "threads", desc := "([I)V" } : Jvm.MethodName)) ∈ TBg := tb_4 206 (by decide +kernel) rfl
theorem wd_927 : (Jvm.Cond.code ({ cls := "GoneIntoItsTunnelModel", name := "threads", desc := "([I)V" } : Jvm.MethodName) prog_9_method_26_code (1 : Nat) (Option.none : Option Jvm.ClassFile.FieldType)) ∈ TBg := tb_4 207 (by decide +kernel) rfl
theorem wd_928 : (Jvm.Cond.methodLink "GoneIntoItsTunnelModel" (158 : Nat) ({ cls := "GoneIntoItsTunnelModel", name := "anewSeconds", desc := "([I)I" } : Jvm.MethodName)) ∈ TBg := tb_4 208 (by decide +kernel) rfl
theorem wd_929 : (Jvm.Cond.static ({ cls := "GoneIntoItsTunnelModel", name := "anewSeconds", desc := "([I)I" } : Jvm.MethodName)) ∈ TBg := tb_4 209 (by decide +kernel) rfl
theorem wd_930 : (Jvm.Cond.code ({ cls := "GoneIntoItsTunnelModel", name := "anewSeconds", desc := "([I)I" } : Jvm.MethodName) prog_9_method_24_code (3 : Nat) (Option.some Jvm.ClassFile.FieldType.int)) ∈ TBg := tb_4 210 (by decide +kernel) rfl
theorem wd_931 : (Jvm.Cond.methodLink "GoneIntoItsTunnelModel" (84 : Nat) ({ cls := "GoneIntoItsTunnelModel", name := "threadBy", desc := "([II)I" } : Jvm.MethodName)) ∈ TBg := tb_4 211 (by decide +kernel) rfl
theorem wd_932 : (Jvm.Cond.static ({ cls := "GoneIntoItsTunnelModel", name := "threadBy", desc := "([II)I" } : Jvm.MethodName)) ∈ TBg := tb_4 212 (by decide +kernel) rfl
theorem wd_933 : (Jvm.Cond.code ({ cls := "GoneIntoItsTunnelModel", name := "threadBy", desc := "([II)I" } : Jvm.MethodName) prog_9_method_25_code (2 : Nat) (Option.some Jvm.ClassFile.FieldType.int)) ∈ TBg := tb_4 213 (by decide +kernel) rfl
theorem wd_934 : (Jvm.Cond.methodLink "GoneIntoItsTunnelLaw" (68 : Nat) ({ cls := "GoneIntoItsTunnelModel", name := "wash", desc := "(I)I" } : Jvm.MethodName)) ∈ TBg := tb_4 214 (by decide +kernel) rfl
theorem wd_935 : (Jvm.Cond.instanceMethod ({ cls := "GoneIntoItsTunnelModel", name := "wash", desc := "(I)I" } : Jvm.MethodName)) ∈ TBg := tb_4 215 (by decide +kernel) rfl
theorem wd_936 : (Jvm.Cond.selects "GoneIntoItsTunnelModel" ({ cls := "GoneIntoItsTunnelModel", name := "wash", desc := "(I)I" } : Jvm.MethodName) ({ cls := "GoneIntoItsTunnelModel", name := "wash", desc := "(I)I" } : Jvm.MethodName)) ∈ TBg := tb_4 216 (by decide +kernel) rfl
theorem wd_937 : (Jvm.Cond.code ({ cls := "GoneIntoItsTunnelModel", name := "wash", desc := "(I)I" } : Jvm.MethodName) prog_9_method_49_code (2 : Nat) (Option.some Jvm.ClassFile.FieldType.int)) ∈ TBg := tb_4 217 (by decide +kernel) rfl
theorem wd_938 : (Jvm.Cond.methodLink "GoneIntoItsTunnelModel" (161 : Nat) ({ cls := "GoneIntoItsTunnelModel", name := "lostMany", desc := "([I)I" } : Jvm.MethodName)) ∈ TBg := tb_4 218 (by decide +kernel) rfl
theorem wd_939 : (Jvm.Cond.static ({ cls := "GoneIntoItsTunnelModel", name := "lostMany", desc := "([I)I" } : Jvm.MethodName)) ∈ TBg := tb_4 219 (by decide +kernel) rfl
theorem wd_940 : (Jvm.Cond.code ({ cls := "GoneIntoItsTunnelModel", name := "lostMany", desc := "([I)I" } : Jvm.MethodName) prog_9_method_29_code (1 : Nat) (Option.some Jvm.ClassFile.FieldType.int)) ∈ TBg := tb_4 220 (by decide +kernel) rfl
theorem wd_941 : (Jvm.Cond.methodLink "GoneIntoItsTunnelLaw" (72 : Nat) ({ cls := "GoneIntoItsTunnelModel", name := "of", desc := "(II)I" } : Jvm.MethodName)) ∈ TBg := tb_4 221 (by decide +kernel) rfl
theorem wd_942 : (Jvm.Cond.instanceMethod ({ cls := "GoneIntoItsTunnelModel", name := "of", desc := "(II)I" } : Jvm.MethodName)) ∈ TBg := tb_4 222 (by decide +kernel) rfl
theorem wd_943 : (Jvm.Cond.selects "GoneIntoItsTunnelModel" ({ cls := "GoneIntoItsTunnelModel", name := "of", desc := "(II)I" } : Jvm.MethodName) ({ cls := "GoneIntoItsTunnelModel", name := "of", desc := "(II)I" } : Jvm.MethodName)) ∈ TBg := tb_4 223 (by decide +kernel) rfl
theorem wd_944 : (Jvm.Cond.code ({ cls := "GoneIntoItsTunnelModel", name := "of", desc := "(II)I" } : Jvm.MethodName) prog_9_method_50_code (4 : Nat) (Option.some Jvm.ClassFile.FieldType.int)) ∈ TBg := tb_4 224 (by decide +kernel) rfl
theorem wd_945 : (Jvm.Cond.methodLink "GoneIntoItsTunnelLaw" (76 : Nat) ({ cls := "GoneIntoItsTunnelModel", name := "out", desc := "(II)I" } : Jvm.MethodName)) ∈ TBg := tb_4 225 (by decide +kernel) rfl
theorem wd_946 : (Jvm.Cond.instanceMethod ({ cls := "GoneIntoItsTunnelModel", name := "out", desc := "(II)I" } : Jvm.MethodName)) ∈ TBg := tb_4 226 (by decide +kernel) rfl
theorem wd_947 : (Jvm.Cond.selects "GoneIntoItsTunnelModel" ({ cls := "GoneIntoItsTunnelModel", name := "out", desc := "(II)I" } : Jvm.MethodName) ({ cls := "GoneIntoItsTunnelModel", name := "out", desc := "(II)I" } : Jvm.MethodName)) ∈ TBg := tb_4 227 (by decide +kernel) rfl
theorem wd_948 : (Jvm.Cond.code ({ cls := "GoneIntoItsTunnelModel", name := "out", desc := "(II)I" } : Jvm.MethodName) prog_9_method_52_code (4 : Nat) (Option.some Jvm.ClassFile.FieldType.int)) ∈ TBg := tb_4 228 (by decide +kernel) rfl
theorem wd_949 : (Jvm.Cond.methodLink "GoneIntoItsTunnelModel" (105 : Nat) ({ cls := "GoneIntoItsTunnelModel", name := "outSeconds", desc := "([II)I" } : Jvm.MethodName)) ∈ TBg := tb_4 229 (by decide +kernel) rfl
theorem wd_951 : (Jvm.Cond.instanceMethod ({ cls := "GoneIntoItsTunnelModel", name := "outSeconds", desc := "([II)I" } : Jvm.MethodName)) ∈ TBg := tb_4 231 (by decide +kernel) rfl
theorem wd_952 : (Jvm.Cond.code ({ cls := "GoneIntoItsTunnelModel", name := "outSeconds", desc := "([II)I" } : Jvm.MethodName) prog_9_method_27_code (6 : Nat) (Option.some Jvm.ClassFile.FieldType.int)) ∈ TBg := tb_4 232 (by decide +kernel) rfl
theorem wd_953 : (Jvm.Cond.methodLink "GoneIntoItsTunnelModel" (164 : Nat) ({ cls := "GoneIntoItsTunnelModel", name := "costliest", desc := "(I)I" } : Jvm.MethodName)) ∈ TBg := tb_4 233 (by decide +kernel) rfl
theorem wd_955 : (Jvm.Cond.instanceMethod ({ cls := "GoneIntoItsTunnelModel", name := "costliest", desc := "(I)I" } : Jvm.MethodName)) ∈ TBg := tb_4 235 (by decide +kernel) rfl
theorem wd_956 : (Jvm.Cond.code ({ cls := "GoneIntoItsTunnelModel", name := "costliest", desc := "(I)I" } : Jvm.MethodName) prog_9_method_51_code (5 : Nat) (Option.some Jvm.ClassFile.FieldType.int)) ∈ TBg := tb_4 236 (by decide +kernel) rfl
theorem wd_957 : (Jvm.Cond.methodLink "GoneIntoItsTunnelLaw" (80 : Nat) ({ cls := "GoneIntoItsTunnelModel", name := "soonest", desc := "()I" } : Jvm.MethodName)) ∈ TBg := tb_4 237 (by decide +kernel) rfl
theorem wd_958 : (Jvm.Cond.instanceMethod ({ cls := "GoneIntoItsTunnelModel", name := "soonest", desc := "()I" } : Jvm.MethodName)) ∈ TBg := tb_4 238 (by decide +kernel) rfl
theorem wd_959 : (Jvm.Cond.selects "GoneIntoItsTunnelModel" ({ cls := "GoneIntoItsTunnelModel", name := "soonest", desc := "()I" } : Jvm.MethodName) ({ cls := "GoneIntoItsTunnelModel", name := "soonest", desc := "()I" } : Jvm.MethodName)) ∈ TBg := tb_4 239 (by decide +kernel) rfl
theorem wd_960 : (Jvm.Cond.code ({ cls := "GoneIntoItsTunnelModel", name := "soonest", desc := "()I" } : Jvm.MethodName) prog_9_method_53_code (3 : Nat) (Option.some Jvm.ClassFile.FieldType.int)) ∈ TBg := tb_5 0 (by decide +kernel) rfl
theorem wd_961 : (Jvm.Cond.methodLink "GoneIntoItsTunnelLaw" (84 : Nat) ({ cls := "GoneIntoItsTunnelModel", name := "better", desc := "(I)I" } : Jvm.MethodName)) ∈ TBg := tb_5 1 (by decide +kernel) rfl
theorem wd_962 : (Jvm.Cond.instanceMethod ({ cls := "GoneIntoItsTunnelModel", name := "better", desc := "(I)I" } : Jvm.MethodName)) ∈ TBg := tb_5 2 (by decide +kernel) rfl
theorem wd_963 : (Jvm.Cond.selects "GoneIntoItsTunnelModel" ({ cls := "GoneIntoItsTunnelModel", name := "better", desc := "(I)I" } : Jvm.MethodName) ({ cls := "GoneIntoItsTunnelModel", name := "better", desc := "(I)I" } : Jvm.MethodName)) ∈ TBg := tb_5 3 (by decide +kernel) rfl
theorem wd_964 : (Jvm.Cond.code ({ cls := "GoneIntoItsTunnelModel", name := "better", desc := "(I)I" } : Jvm.MethodName) prog_9_method_54_code (4 : Nat) (Option.some Jvm.ClassFile.FieldType.int)) ∈ TBg := tb_5 4 (by decide +kernel) rfl
theorem wd_965 : (Jvm.Cond.methodLink "GoneIntoItsTunnelModel" (167 : Nat) ({ cls := "GoneIntoItsTunnelModel", name := "allSeconds", desc := "([I)I" } : Jvm.MethodName)) ∈ TBg := tb_5 5 (by decide +kernel) rfl
theorem wd_967 : (Jvm.Cond.instanceMethod ({ cls := "GoneIntoItsTunnelModel", name := "allSeconds", desc := "([I)I" } : Jvm.MethodName)) ∈ TBg := tb_5 7 (by decide +kernel) rfl
theorem wd_968 : (Jvm.Cond.code ({ cls := "GoneIntoItsTunnelModel", name := "allSeconds", desc := "([I)I" } : Jvm.MethodName) prog_9_method_28_code (4 : Nat) (Option.some Jvm.ClassFile.FieldType.int)) ∈ TBg := tb_5 8 (by decide +kernel) rfl
theorem wd_969 : (Jvm.Cond.methodLink "GoneIntoItsTunnelLaw" (88 : Nat) ({ cls := "GoneIntoItsTunnelModel", name := "inIn", desc := "(II)I" } : Jvm.MethodName)) ∈ TBg := tb_5 9 (by decide +kernel) rfl
theorem wd_970 : (Jvm.Cond.instanceMethod ({ cls := "GoneIntoItsTunnelModel", name := "inIn", desc := "(II)I" } : Jvm.MethodName)) ∈ TBg := tb_5 10 (by decide +kernel) rfl
theorem wd_971 : (Jvm.Cond.selects "GoneIntoItsTunnelModel" ({ cls := "GoneIntoItsTunnelModel", name := "inIn", desc := "(II)I" } : Jvm.MethodName) ({ cls := "GoneIntoItsTunnelModel", name := "inIn", desc := "(II)I" } : Jvm.MethodName)) ∈ TBg := tb_5 11 (by decide +kernel) rfl
theorem wd_972 : (Jvm.Cond.code ({ cls := "GoneIntoItsTunnelModel", name := "inIn", desc := "(II)I" } : Jvm.MethodName) prog_9_method_56_code (4 : Nat) (Option.some Jvm.ClassFile.FieldType.int)) ∈ TBg := tb_5 12 (by decide +kernel) rfl
theorem wd_973 : (Jvm.Cond.methodLink "GoneIntoItsTunnelModel" (170 : Nat) ({ cls := "GoneIntoItsTunnelModel", name := "wrongWashes", desc := "(I)I" } : Jvm.MethodName)) ∈ TBg := tb_5 13 (by decide +kernel) rfl
theorem wd_974 : (Jvm.Cond.static ({ cls := "GoneIntoItsTunnelModel", name := "wrongWashes", desc := "(I)I" } : Jvm.MethodName)) ∈ TBg := tb_5 14 (by decide +kernel) rfl
theorem wd_975 : (Jvm.Cond.code ({ cls := "GoneIntoItsTunnelModel", name := "wrongWashes", desc := "(I)I" } : Jvm.MethodName) prog_9_method_55_code (1 : Nat) (Option.some Jvm.ClassFile.FieldType.int)) ∈ TBg := tb_5 15 (by decide +kernel) rfl
theorem wd_976 : (Jvm.Cond.methodLink "GoneIntoItsTunnelLaw" (92 : Nat) ({ cls := "GoneIntoItsTunnelModel", name := "lost", desc := "(I)I" } : Jvm.MethodName)) ∈ TBg := tb_5 16 (by decide +kernel) rfl
theorem wd_977 : (Jvm.Cond.instanceMethod ({ cls := "GoneIntoItsTunnelModel", name := "lost", desc := "(I)I" } : Jvm.MethodName)) ∈ TBg := tb_5 17 (by decide +kernel) rfl
theorem wd_978 : (Jvm.Cond.selects "GoneIntoItsTunnelModel" ({ cls := "GoneIntoItsTunnelModel", name := "lost", desc := "(I)I" } : Jvm.MethodName) ({ cls := "GoneIntoItsTunnelModel", name := "lost", desc := "(I)I" } : Jvm.MethodName)) ∈ TBg := tb_5 18 (by decide +kernel) rfl
theorem wd_979 : (Jvm.Cond.code ({ cls := "GoneIntoItsTunnelModel", name := "lost", desc := "(I)I" } : Jvm.MethodName) prog_9_method_57_code (4 : Nat) (Option.some Jvm.ClassFile.FieldType.int)) ∈ TBg := tb_5 19 (by decide +kernel) rfl
theorem wd_980 : (Jvm.Cond.methodLink "GoneIntoItsTunnelLaw" (96 : Nat) ({ cls := "GoneIntoItsTunnelModel", name := "still", desc := "()I" } : Jvm.MethodName)) ∈ TBg := tb_5 20 (by decide +kernel) rfl
theorem wd_981 : (Jvm.Cond.instanceMethod ({ cls := "GoneIntoItsTunnelModel", name := "still", desc := "()I" } : Jvm.MethodName)) ∈ TBg := tb_5 21 (by decide +kernel) rfl
theorem wd_982 : (Jvm.Cond.selects "GoneIntoItsTunnelModel" ({ cls := "GoneIntoItsTunnelModel", name := "still", desc := "()I" } : Jvm.MethodName) ({ cls := "GoneIntoItsTunnelModel", name := "still", desc := "()I" } : Jvm.MethodName)) ∈ TBg := tb_5 22 (by decide +kernel) rfl
theorem wd_983 : (Jvm.Cond.code ({ cls := "GoneIntoItsTunnelModel", name := "still", desc := "()I" } : Jvm.MethodName) prog_9_method_58_code (2 : Nat) (Option.some Jvm.ClassFile.FieldType.int)) ∈ TBg := tb_5 23 (by decide +kernel) rfl
theorem wd_984 : (Jvm.Cond.methodLink "GoneIntoItsTunnelLaw" (100 : Nat) ({ cls := "GoneIntoItsTunnelModel", name := "keep", desc := "(I)I" } : Jvm.MethodName)) ∈ TBg := tb_5 24 (by decide +kernel) rfl
theorem wd_985 : (Jvm.Cond.instanceMethod ({ cls := "GoneIntoItsTunnelModel", name := "keep", desc := "(I)I" } : Jvm.MethodName)) ∈ TBg := tb_5 25 (by decide +kernel) rfl
theorem wd_986 : (Jvm.Cond.selects "GoneIntoItsTunnelModel" ({ cls := "GoneIntoItsTunnelModel", name := "keep", desc := "(I)I" } : Jvm.MethodName) ({ cls := "GoneIntoItsTunnelModel", name := "keep", desc := "(I)I" } : Jvm.MethodName)) ∈ TBg := tb_5 26 (by decide +kernel) rfl
theorem wd_987 : (Jvm.Cond.code ({ cls := "GoneIntoItsTunnelModel", name := "keep", desc := "(I)I" } : Jvm.MethodName) prog_9_method_60_code (6 : Nat) (Option.some Jvm.ClassFile.FieldType.int)) ∈ TBg := tb_5 27 (by decide +kernel) rfl
theorem wd_988 : (Jvm.Cond.methodLink "GoneIntoItsTunnelModel" (173 : Nat) ({ cls := "GoneIntoItsTunnelModel", name := "wrongSeconds", desc := "(I)I" } : Jvm.MethodName)) ∈ TBg := tb_5 28 (by decide +kernel) rfl
theorem wd_989 : (Jvm.Cond.static ({ cls := "GoneIntoItsTunnelModel", name := "wrongSeconds", desc := "(I)I" } : Jvm.MethodName)) ∈ TBg := tb_5 29 (by decide +kernel) rfl
theorem wd_990 : (Jvm.Cond.code ({ cls := "GoneIntoItsTunnelModel", name := "wrongSeconds", desc := "(I)I" } : Jvm.MethodName) prog_9_method_59_code (1 : Nat) (Option.some Jvm.ClassFile.FieldType.int)) ∈ TBg := tb_5 30 (by decide +kernel) rfl
theorem wd_991 : (Jvm.Cond.methodLink "GoneIntoItsTunnelLaw" (104 : Nat) ({ cls := "GoneIntoItsTunnelModel", name := "deep", desc := "(II)I" } : Jvm.MethodName)) ∈ TBg := tb_5 31 (by decide +kernel) rfl
theorem wd_992 : (Jvm.Cond.instanceMethod ({ cls := "GoneIntoItsTunnelModel", name := "deep", desc := "(II)I" } : Jvm.MethodName)) ∈ TBg := tb_5 32 (by decide +kernel) rfl
theorem wd_993 : (Jvm.Cond.selects "GoneIntoItsTunnelModel" ({ cls := "GoneIntoItsTunnelModel", name := "deep", desc := "(II)I" } : Jvm.MethodName) ({ cls := "GoneIntoItsTunnelModel", name := "deep", desc := "(II)I" } : Jvm.MethodName)) ∈ TBg := tb_5 33 (by decide +kernel) rfl
theorem wd_994 : (Jvm.Cond.code ({ cls := "GoneIntoItsTunnelModel", name := "deep", desc := "(II)I" } : Jvm.MethodName) prog_9_method_61_code (6 : Nat) (Option.some Jvm.ClassFile.FieldType.int)) ∈ TBg := tb_5 34 (by decide +kernel) rfl
theorem wd_995 : (Jvm.Cond.methodLink "GoneIntoItsTunnelLaw" (108 : Nat) ({ cls := "GoneIntoItsTunnelModel", name := "stops", desc := "(II)I" } : Jvm.MethodName)) ∈ TBg := tb_5 35 (by decide +kernel) rfl
theorem wd_996 : (Jvm.Cond.instanceMethod ({ cls := "GoneIntoItsTunnelModel", name := "stops", desc := "(II)I" } : Jvm.MethodName)) ∈ TBg := tb_5 36 (by decide +kernel) rfl
theorem wd_997 : (Jvm.Cond.selects "GoneIntoItsTunnelModel" ({ cls := "GoneIntoItsTunnelModel", name := "stops", desc := "(II)I" } : Jvm.MethodName) ({ cls := "GoneIntoItsTunnelModel", name := "stops", desc := "(II)I" } : Jvm.MethodName)) ∈ TBg := tb_5 37 (by decide +kernel) rfl
theorem wd_998 : (Jvm.Cond.code ({ cls := "GoneIntoItsTunnelModel", name := "stops", desc := "(II)I" } : Jvm.MethodName) prog_9_method_63_code (8 : Nat) (Option.some Jvm.ClassFile.FieldType.int)) ∈ TBg := tb_5 38 (by decide +kernel) rfl
theorem wd_999 : (Jvm.Cond.methodLink "GoneIntoItsTunnelModel" (179 : Nat) ({ cls := "GoneIntoItsTunnelModel", name := "mended", desc := "(I)I" } : Jvm.MethodName)) ∈ TBg := tb_5 39 (by decide +kernel) rfl
theorem wd_1001 : (Jvm.Cond.instanceMethod ({ cls := "GoneIntoItsTunnelModel", name := "mended", desc := "(I)I" } : Jvm.MethodName)) ∈ TBg := tb_5 41 (by decide +kernel) rfl
theorem wd_1002 : (Jvm.Cond.code ({ cls := "GoneIntoItsTunnelModel", name := "mended", desc := "(I)I" } : Jvm.MethodName) prog_9_method_62_code (7 : Nat) (Option.some Jvm.ClassFile.FieldType.int)) ∈ TBg := tb_5 42 (by decide +kernel) rfl
theorem wd_1003 : (Jvm.Cond.methodLink "GoneIntoItsTunnelLaw" (112 : Nat) ({ cls := "GoneIntoItsTunnelModel", name := "care", desc := "(I)I" } : Jvm.MethodName)) ∈ TBg := tb_5 43 (by decide +kernel) rfl
theorem wd_1004 : (Jvm.Cond.instanceMethod ({ cls := "GoneIntoItsTunnelModel", name := "care", desc := "(I)I" } : Jvm.MethodName)) ∈ TBg := tb_5 44 (by decide +kernel) rfl
theorem wd_1005 : (Jvm.Cond.selects "GoneIntoItsTunnelModel" ({ cls := "GoneIntoItsTunnelModel", name := "care", desc := "(I)I" } : Jvm.MethodName) ({ cls := "GoneIntoItsTunnelModel", name := "care", desc := "(I)I" } : Jvm.MethodName)) ∈ TBg := tb_5 45 (by decide +kernel) rfl
theorem wd_1006 : (Jvm.Cond.code ({ cls := "GoneIntoItsTunnelModel", name := "care", desc := "(I)I" } : Jvm.MethodName) prog_9_method_64_code (4 : Nat) (Option.some Jvm.ClassFile.FieldType.int)) ∈ TBg := tb_5 46 (by decide +kernel) rfl
theorem wd_1007 : (Jvm.Cond.methodLink "GoneIntoItsTunnelLaw" (116 : Nat) ({ cls := "GoneIntoItsTunnelModel", name := "holdsUp", desc := "(I)I" } : Jvm.MethodName)) ∈ TBg := tb_5 47 (by decide +kernel) rfl
theorem wd_1008 : (Jvm.Cond.instanceMethod ({ cls := "GoneIntoItsTunnelModel", name := "holdsUp", desc := "(I)I" } : Jvm.MethodName)) ∈ TBg := tb_5 48 (by decide +kernel) rfl
theorem wd_1009 : (Jvm.Cond.selects "GoneIntoItsTunnelModel" ({ cls := "GoneIntoItsTunnelModel", name := "holdsUp", desc := "(I)I" } : Jvm.MethodName) ({ cls := "GoneIntoItsTunnelModel", name := "holdsUp", desc := "(I)I" } : Jvm.MethodName)) ∈ TBg := tb_5 49 (by decide +kernel) rfl
theorem wd_1010 : (Jvm.Cond.code ({ cls := "GoneIntoItsTunnelModel", name := "holdsUp", desc := "(I)I" } : Jvm.MethodName) prog_9_method_65_code (6 : Nat) (Option.some Jvm.ClassFile.FieldType.int)) ∈ TBg := tb_5 50 (by decide +kernel) rfl
theorem wd_1011 : (Jvm.Cond.methodLink "GoneIntoItsTunnelLaw" (120 : Nat) ({ cls := "GoneIntoItsTunnelModel", name := "middle", desc := "()I" } : Jvm.MethodName)) ∈ TBg := tb_5 51 (by decide +kernel) rfl
theorem wd_1012 : (Jvm.Cond.instanceMethod ({ cls := "GoneIntoItsTunnelModel", name := "middle", desc := "()I" } : Jvm.MethodName)) ∈ TBg := tb_5 52 (by decide +kernel) rfl
theorem wd_1013 : (Jvm.Cond.selects "GoneIntoItsTunnelModel" ({ cls := "GoneIntoItsTunnelModel", name := "middle", desc := "()I" } : Jvm.MethodName) ({ cls := "GoneIntoItsTunnelModel", name := "middle", desc := "()I" } : Jvm.MethodName)) ∈ TBg := tb_5 53 (by decide +kernel) rfl
theorem wd_1014 : (Jvm.Cond.code ({ cls := "GoneIntoItsTunnelModel", name := "middle", desc := "()I" } : Jvm.MethodName) prog_9_method_66_code (3 : Nat) (Option.some Jvm.ClassFile.FieldType.int)) ∈ TBg := tb_5 54 (by decide +kernel) rfl
theorem wd_1015 : (Jvm.Cond.methodLink "GoneIntoItsTunnelLaw" (124 : Nat) ({ cls := "GoneIntoItsTunnelModel", name := "cutOff", desc := "()I" } : Jvm.MethodName)) ∈ TBg := tb_5 55 (by decide +kernel) rfl
theorem wd_1016 : (Jvm.Cond.instanceMethod ({ cls := "GoneIntoItsTunnelModel", name := "cutOff", desc := "()I" } : Jvm.MethodName)) ∈ TBg := tb_5 56 (by decide +kernel) rfl
theorem wd_1017 : (Jvm.Cond.selects "GoneIntoItsTunnelModel" ({ cls := "GoneIntoItsTunnelModel", name := "cutOff", desc := "()I" } : Jvm.MethodName) ({ cls := "GoneIntoItsTunnelModel", name := "cutOff", desc := "()I" } : Jvm.MethodName)) ∈ TBg := tb_5 57 (by decide +kernel) rfl
theorem wd_1018 : (Jvm.Cond.code ({ cls := "GoneIntoItsTunnelModel", name := "cutOff", desc := "()I" } : Jvm.MethodName) prog_9_method_67_code (1 : Nat) (Option.some Jvm.ClassFile.FieldType.int)) ∈ TBg := tb_5 58 (by decide +kernel) rfl
theorem wd_1019 : (Jvm.Cond.methodLink "GoneIntoItsTunnelLaw" (128 : Nat) ({ cls := "GoneIntoItsTunnelModel", name := "bestPin", desc := "(I)I" } : Jvm.MethodName)) ∈ TBg := tb_5 59 (by decide +kernel) rfl
theorem wd_1020 : (Jvm.Cond.instanceMethod ({ cls := "GoneIntoItsTunnelModel", name := "bestPin", desc := "(I)I" } : Jvm.MethodName)) ∈ TBg := tb_5 60 (by decide +kernel) rfl
theorem wd_1021 : (Jvm.Cond.selects "GoneIntoItsTunnelModel" ({ cls := "GoneIntoItsTunnelModel", name := "bestPin", desc := "(I)I" } : Jvm.MethodName) ({ cls := "GoneIntoItsTunnelModel", name := "bestPin", desc := "(I)I" } : Jvm.MethodName)) ∈ TBg := tb_5 61 (by decide +kernel) rfl
theorem wd_1022 : (Jvm.Cond.code ({ cls := "GoneIntoItsTunnelModel", name := "bestPin", desc := "(I)I" } : Jvm.MethodName) prog_9_method_68_code (4 : Nat) (Option.some Jvm.ClassFile.FieldType.int)) ∈ TBg := tb_5 62 (by decide +kernel) rfl
theorem wd_1023 : (Jvm.Cond.methodLink "GoneIntoItsTunnelLaw" (132 : Nat) ({ cls := "GoneIntoItsTunnelModel", name := "worst", desc := "()I" } : Jvm.MethodName)) ∈ TBg := tb_5 63 (by decide +kernel) rfl
theorem wd_1024 : (Jvm.Cond.instanceMethod ({ cls := "GoneIntoItsTunnelModel", name := "worst", desc := "()I" } : Jvm.MethodName)) ∈ TBg := tb_5 64 (by decide +kernel) rfl
theorem wd_1025 : (Jvm.Cond.selects "GoneIntoItsTunnelModel" ({ cls := "GoneIntoItsTunnelModel", name := "worst", desc := "()I" } : Jvm.MethodName) ({ cls := "GoneIntoItsTunnelModel", name := "worst", desc := "()I" } : Jvm.MethodName)) ∈ TBg := tb_5 65 (by decide +kernel) rfl
theorem wd_1026 : (Jvm.Cond.code ({ cls := "GoneIntoItsTunnelModel", name := "worst", desc := "()I" } : Jvm.MethodName) prog_9_method_69_code (3 : Nat) (Option.some Jvm.ClassFile.FieldType.int)) ∈ TBg := tb_5 66 (by decide +kernel) rfl
theorem wd_1027 : (Jvm.Cond.methodLink "GoneIntoItsTunnelLaw" (140 : Nat) ({ cls := "GoneIntoItsTunnelModel", name := "row", desc := "(I)I" } : Jvm.MethodName)) ∈ TBg := tb_5 67 (by decide +kernel) rfl
theorem wd_1028 : (Jvm.Cond.instanceMethod ({ cls := "GoneIntoItsTunnelModel", name := "row", desc := "(I)I" } : Jvm.MethodName)) ∈ TBg := tb_5 68 (by decide +kernel) rfl
theorem wd_1029 : (Jvm.Cond.selects "GoneIntoItsTunnelModel" ({ cls := "GoneIntoItsTunnelModel", name := "row", desc := "(I)I" } : Jvm.MethodName) ({ cls := "GoneIntoItsTunnelModel", name := "row", desc := "(I)I" } : Jvm.MethodName)) ∈ TBg := tb_5 69 (by decide +kernel) rfl
theorem wd_1030 : (Jvm.Cond.code ({ cls := "GoneIntoItsTunnelModel", name := "row", desc := "(I)I" } : Jvm.MethodName) prog_9_method_70_code (2 : Nat) (Option.some Jvm.ClassFile.FieldType.int)) ∈ TBg := tb_5 70 (by decide +kernel) rfl
theorem wd_1031 : (Jvm.Cond.methodLink "GoneIntoItsTunnelLaw" (136 : Nat) ({ cls := "GoneIntoItsTunnelModel", name := "which", desc := "(II)I" } : Jvm.MethodName)) ∈ TBg := tb_5 71 (by decide +kernel) rfl
theorem wd_1032 : (Jvm.Cond.instanceMethod ({ cls := "GoneIntoItsTunnelModel", name := "which", desc := "(II)I" } : Jvm.MethodName)) ∈ TBg := tb_5 72 (by decide +kernel) rfl
theorem wd_1033 : (Jvm.Cond.selects "GoneIntoItsTunnelModel" ({ cls := "GoneIntoItsTunnelModel", name := "which", desc := "(II)I" } : Jvm.MethodName) ({ cls := "GoneIntoItsTunnelModel", name := "which", desc := "(II)I" } : Jvm.MethodName)) ∈ TBg := tb_5 73 (by decide +kernel) rfl
theorem wd_1034 : (Jvm.Cond.code ({ cls := "GoneIntoItsTunnelModel", name := "which", desc := "(II)I" } : Jvm.MethodName) prog_9_method_72_code (5 : Nat) (Option.some Jvm.ClassFile.FieldType.int)) ∈ TBg := tb_5 74 (by decide +kernel) rfl
theorem wd_1035 : (Jvm.Cond.methodLink "GoneIntoItsTunnelModel" (185 : Nat) ({ cls := "GoneIntoItsTunnelModel", name := "firstWrong", desc := "(II)I" } : Jvm.MethodName)) ∈ TBg := tb_5 75 (by decide +kernel) rfl
theorem wd_1037 : (Jvm.Cond.instanceMethod ({ cls := "GoneIntoItsTunnelModel", name := "firstWrong", desc := "(II)I" } : Jvm.MethodName)) ∈ TBg := tb_5 77 (by decide +kernel) rfl
theorem wd_1038 : (Jvm.Cond.code ({ cls := "GoneIntoItsTunnelModel", name := "firstWrong", desc := "(II)I" } : Jvm.MethodName) prog_9_method_71_code (5 : Nat) (Option.some Jvm.ClassFile.FieldType.int)) ∈ TBg := tb_5 78 (by decide +kernel) rfl
theorem wd_1039 : (Jvm.Cond.methodLink "GoneIntoItsTunnelLaw" (144 : Nat) ({ cls := "GoneIntoItsTunnelModel", name := "judge", desc := "(I)I" } : Jvm.MethodName)) ∈ TBg := tb_5 79 (by decide +kernel) rfl
theorem wd_1040 : (Jvm.Cond.instanceMethod ({ cls := "GoneIntoItsTunnelModel", name := "judge", desc := "(I)I" } : Jvm.MethodName)) ∈ TBg := tb_5 80 (by decide +kernel) rfl
theorem wd_1041 : (Jvm.Cond.selects "GoneIntoItsTunnelModel" ({ cls := "GoneIntoItsTunnelModel", name := "judge", desc := "(I)I" } : Jvm.MethodName) ({ cls := "GoneIntoItsTunnelModel", name := "judge", desc := "(I)I" } : Jvm.MethodName)) ∈ TBg := tb_5 81 (by decide +kernel) rfl
theorem wd_1042 : (Jvm.Cond.code ({ cls := "GoneIntoItsTunnelModel", name := "judge", desc := "(I)I" } : Jvm.MethodName) prog_9_method_73_code (3 : Nat) (Option.some Jvm.ClassFile.FieldType.int)) ∈ TBg := tb_5 82 (by decide +kernel) rfl
theorem wd_1043 : (Jvm.Cond.methodLink "GoneIntoItsTunnelLaw" (148 : Nat) ({ cls := "GoneIntoItsTunnelModel", name := "lots", desc := "(III)I" } : Jvm.MethodName)) ∈ TBg := tb_5 83 (by decide +kernel) rfl
theorem wd_1044 : (Jvm.Cond.instanceMethod ({ cls := "GoneIntoItsTunnelModel", name := "lots", desc := "(III)I" } : Jvm.MethodName)) ∈ TBg := tb_5 84 (by decide +kernel) rfl
theorem wd_1045 : (Jvm.Cond.selects "GoneIntoItsTunnelModel" ({ cls := "GoneIntoItsTunnelModel", name := "lots", desc := "(III)I" } : Jvm.MethodName) ({ cls := "GoneIntoItsTunnelModel", name := "lots", desc := "(III)I" } : Jvm.MethodName)) ∈ TBg := tb_5 85 (by decide +kernel) rfl
theorem wd_1046 : (Jvm.Cond.code ({ cls := "GoneIntoItsTunnelModel", name := "lots", desc := "(III)I" } : Jvm.MethodName) prog_9_method_75_code (7 : Nat) (Option.some Jvm.ClassFile.FieldType.int)) ∈ TBg := tb_5 86 (by decide +kernel) rfl
theorem wd_1047 : (Jvm.Cond.methodLink "GoneIntoItsTunnelModel" (194 : Nat) ({ cls := "GoneIntoItsTunnelModel", name := "drawn", desc := "(I)I" } : Jvm.MethodName)) ∈ TBg := tb_5 87 (by decide +kernel) rfl
theorem wd_1049 : (Jvm.Cond.instanceMethod ({ cls := "GoneIntoItsTunnelModel", name := "drawn", desc := "(I)I" } : Jvm.MethodName)) ∈ TBg := tb_5 89 (by decide +kernel) rfl
theorem wd_1050 : (Jvm.Cond.code ({ cls := "GoneIntoItsTunnelModel", name := "drawn", desc := "(I)I" } : Jvm.MethodName) prog_9_method_74_code (2 : Nat) (Option.some Jvm.ClassFile.FieldType.int)) ∈ TBg := tb_5 90 (by decide +kernel) rfl
theorem wd_1051 : (Jvm.Cond.constant "GoneIntoItsTunnelModel" (191 : Nat) (1664525 : Int32)) ∈ TBg := tb_5 91 (by decide +kernel) rfl
theorem wd_1052 : (Jvm.Cond.constant "GoneIntoItsTunnelModel" (192 : Nat) (1013904223 : Int32)) ∈ TBg := tb_5 92 (by decide +kernel) rfl
theorem wd_1053 : (Jvm.Cond.constant "GoneIntoItsTunnelModel" (193 : Nat) (2147483647 : Int32)) ∈ TBg := tb_5 93 (by decide +kernel) rfl
theorem wd_1054 : (Jvm.Cond.methodLink "GoneIntoItsTunnelLaw" (152 : Nat) ({ cls := "GoneIntoItsTunnelModel", name := "image", desc := "()I" } : Jvm.MethodName)) ∈ TBg := tb_5 94 (by decide +kernel) rfl
theorem wd_1055 : (Jvm.Cond.instanceMethod ({ cls := "GoneIntoItsTunnelModel", name := "image", desc := "()I" } : Jvm.MethodName)) ∈ TBg := tb_5 95 (by decide +kernel) rfl
theorem wd_1056 : (Jvm.Cond.selects "GoneIntoItsTunnelModel" ({ cls := "GoneIntoItsTunnelModel", name := "image", desc := "()I" } : Jvm.MethodName) ({ cls := "GoneIntoItsTunnelModel", name := "image", desc := "()I" } : Jvm.MethodName)) ∈ TBg := tb_5 96 (by decide +kernel) rfl
theorem wd_1057 : (Jvm.Cond.code ({ cls := "GoneIntoItsTunnelModel", name := "image", desc := "()I" } : Jvm.MethodName) prog_9_method_76_code (1 : Nat) (Option.some Jvm.ClassFile.FieldType.int)) ∈ TBg := tb_5 97 (by decide +kernel) rfl
theorem wd_1058 : (Jvm.Cond.methodLink "GoneIntoItsTunnelLaw" (156 : Nat) ({ cls := "GoneIntoItsTunnelModel", name := "on", desc := "()I" } : Jvm.MethodName)) ∈ TBg := tb_5 98 (by decide +kernel) rfl
theorem wd_1059 : (Jvm.Cond.instanceMethod ({ cls := "GoneIntoItsTunnelModel", name := "on", desc := "()I" } : Jvm.MethodName)) ∈ TBg := tb_5 99 (by decide +kernel) rfl
theorem wd_1060 : (Jvm.Cond.selects "GoneIntoItsTunnelModel" ({ cls := "GoneIntoItsTunnelModel", name := "on", desc := "()I" } : Jvm.MethodName) ({ cls := "GoneIntoItsTunnelModel", name := "on", desc := "()I" } : Jvm.MethodName)) ∈ TBg := tb_5 100 (by decide +kernel) rfl
theorem wd_1061 : (Jvm.Cond.code ({ cls := "GoneIntoItsTunnelModel", name := "on", desc := "()I" } : Jvm.MethodName) prog_9_method_77_code (1 : Nat) (Option.some Jvm.ClassFile.FieldType.int)) ∈ TBg := tb_5 101 (by decide +kernel) rfl
theorem wd_1062 : (Jvm.Cond.methodLink "GoneIntoItsTunnelLaw" (160 : Nat) ({ cls := "GoneIntoItsTunnelModel", name := "count", desc := "(I)I" } : Jvm.MethodName)) ∈ TBg := tb_5 102 (by decide +kernel) rfl
theorem wd_1063 : (Jvm.Cond.instanceMethod ({ cls := "GoneIntoItsTunnelModel", name := "count", desc := "(I)I" } : Jvm.MethodName)) ∈ TBg := tb_5 103 (by decide +kernel) rfl
theorem wd_1064 : (Jvm.Cond.selects "GoneIntoItsTunnelModel" ({ cls := "GoneIntoItsTunnelModel", name := "count", desc := "(I)I" } : Jvm.MethodName) ({ cls := "GoneIntoItsTunnelModel", name := "count", desc := "(I)I" } : Jvm.MethodName)) ∈ TBg := tb_5 104 (by decide +kernel) rfl
theorem wd_1065 : (Jvm.Cond.code ({ cls := "GoneIntoItsTunnelModel", name := "count", desc := "(I)I" } : Jvm.MethodName) prog_9_method_78_code (4 : Nat) (Option.some Jvm.ClassFile.FieldType.int)) ∈ TBg := tb_5 105 (by decide +kernel) rfl
theorem wd_1066 : (Jvm.Cond.fieldLink "java/lang/String" (9 : Nat) "java/lang/String" "value" "[B") ∈ TBg := tb_5 106 (by decide +kernel) rfl
theorem wd_1067 : (Jvm.Cond.fieldLink "java/lang/String" (15 : Nat) "java/lang/String" "coder" "B") ∈ TBg := tb_5 107 (by decide +kernel) rfl
theorem sl_0 : Cond.selects "GoneIntoItsTunnel" ⟨"GoneIntoItsTunnel", "refuse", "(I)I"⟩ ⟨"GoneIntoItsTunnel", "refuse", "(I)I"⟩ ∈ TBg := tb_at 0 (by decide +kernel) (by decide +kernel)
theorem sl_1 : Cond.selects "GoneIntoItsTunnel" ⟨"GoneIntoItsTunnel", "statementsCome", "()I"⟩ ⟨"GoneIntoItsTunnel", "statementsCome", "()I"⟩ ∈ TBg := tb_at 1 (by decide +kernel) (by decide +kernel)
theorem sl_2 : Cond.selects "GoneIntoItsTunnel" ⟨"GoneIntoItsTunnel", "isAsItMustBe", "(I)Z"⟩ ⟨"GoneIntoItsTunnel", "isAsItMustBe", "(I)Z"⟩ ∈ TBg := tb_at 2 (by decide +kernel) (by decide +kernel)
theorem sl_3 : Cond.selects "GoneIntoItsTunnel" ⟨"GoneIntoItsTunnel", "comes", "(I)V"⟩ ⟨"GoneIntoItsTunnel", "comes", "(I)V"⟩ ∈ TBg := tb_at 3 (by decide +kernel) (by decide +kernel)
theorem sl_4 : Cond.selects "GoneIntoItsTunnel" ⟨"GoneIntoItsTunnel", "refuseAsTold", "(I)I"⟩ ⟨"GoneIntoItsTunnel", "refuseAsTold", "(I)I"⟩ ∈ TBg := tb_at 4 (by decide +kernel) (by decide +kernel)
theorem sl_5 : Cond.selects "GoneIntoItsTunnel$Way" ⟨"GoneIntoItsTunnel$Way", "neverIsOut", "()V"⟩ ⟨"GoneIntoItsTunnel$Way", "neverIsOut", "()V"⟩ ∈ TBg := tb_at 5 (by decide +kernel) (by decide +kernel)
theorem sl_6 : Cond.selects "GoneIntoItsTunnel" ⟨"GoneIntoItsTunnel", "secondsIfLost", "(I)I"⟩ ⟨"GoneIntoItsTunnel", "secondsIfLost", "(I)I"⟩ ∈ TBg := tb_at 6 (by decide +kernel) (by decide +kernel)
theorem sl_7 : Cond.selects "GoneIntoItsTunnel" ⟨"GoneIntoItsTunnel", "washesTillLost", "()I"⟩ ⟨"GoneIntoItsTunnel", "washesTillLost", "()I"⟩ ∈ TBg := tb_at 7 (by decide +kernel) (by decide +kernel)
theorem sl_8 : Cond.selects "GoneIntoItsTunnel" ⟨"GoneIntoItsTunnel", "secondsWithStop", "(II)I"⟩ ⟨"GoneIntoItsTunnel", "secondsWithStop", "(II)I"⟩ ∈ TBg := tb_at 8 (by decide +kernel) (by decide +kernel)
theorem sl_9 : Cond.selects "GoneIntoItsTunnel$Mending" ⟨"GoneIntoItsTunnel$Mending", "mend", "(LGoneIntoItsTunnel$Hem;LGoneIntoItsTunnel$Way;II)V"⟩ ⟨"GoneIntoItsTunnel$Mending", "mend", "(LGoneIntoItsTunnel$Hem;LGoneIntoItsTunnel$Way;II)V"⟩ ∈ TBg := tb_at 9 (by decide +kernel) (by decide +kernel)
theorem sl_10 : Cond.selects "GoneIntoItsTunnel" ⟨"GoneIntoItsTunnel", "rankWithCloth", "(II)I"⟩ ⟨"GoneIntoItsTunnel", "rankWithCloth", "(II)I"⟩ ∈ TBg := tb_at 10 (by decide +kernel) (by decide +kernel)
theorem sl_11 : Cond.selects "GoneIntoItsTunnel" ⟨"GoneIntoItsTunnel", "kindsByRow", "(I)I"⟩ ⟨"GoneIntoItsTunnel", "kindsByRow", "(I)I"⟩ ∈ TBg := tb_at 11 (by decide +kernel) (by decide +kernel)
theorem sl_12 : Cond.selects "GoneIntoItsTunnel" ⟨"GoneIntoItsTunnel", "strengthsByRow", "()I"⟩ ⟨"GoneIntoItsTunnel", "strengthsByRow", "()I"⟩ ∈ TBg := tb_at 12 (by decide +kernel) (by decide +kernel)
theorem sl_13 : Cond.selects "GoneIntoItsTunnel" ⟨"GoneIntoItsTunnel", "lotSeconds", "(I)I"⟩ ⟨"GoneIntoItsTunnel", "lotSeconds", "(I)I"⟩ ∈ TBg := tb_at 13 (by decide +kernel) (by decide +kernel)
theorem sl_14 : Cond.selects "GoneIntoItsTunnel" ⟨"GoneIntoItsTunnel", "refusalsAt", "(I)I"⟩ ⟨"GoneIntoItsTunnel", "refusalsAt", "(I)I"⟩ ∈ TBg := tb_at 14 (by decide +kernel) (by decide +kernel)
theorem sl_15 : Cond.selects "GoneIntoItsTunnelModel" ⟨"GoneIntoItsTunnelModel", "no", "(I)I"⟩ ⟨"GoneIntoItsTunnelModel", "no", "(I)I"⟩ ∈ TBg := tb_at 15 (by decide +kernel) (by decide +kernel)
theorem sl_16 : Cond.selects "GoneIntoItsTunnelModel" ⟨"GoneIntoItsTunnelModel", "readsStatement", "()Z"⟩ ⟨"GoneIntoItsTunnelModel", "readsStatement", "()Z"⟩ ∈ TBg := tb_at 16 (by decide +kernel) (by decide +kernel)
theorem sl_17 : Cond.selects "GoneIntoItsTunnelModel" ⟨"GoneIntoItsTunnelModel", "here", "()I"⟩ ⟨"GoneIntoItsTunnelModel", "here", "()I"⟩ ∈ TBg := tb_at 17 (by decide +kernel) (by decide +kernel)
theorem sl_18 : Cond.selects "GoneIntoItsTunnelModel" ⟨"GoneIntoItsTunnelModel", "readsNumber", "(II)Z"⟩ ⟨"GoneIntoItsTunnelModel", "readsNumber", "(II)Z"⟩ ∈ TBg := tb_at 18 (by decide +kernel) (by decide +kernel)
theorem sl_19 : Cond.selects "GoneIntoItsTunnelModel" ⟨"GoneIntoItsTunnelModel", "readsKind", "()Z"⟩ ⟨"GoneIntoItsTunnelModel", "readsKind", "()Z"⟩ ∈ TBg := tb_at 19 (by decide +kernel) (by decide +kernel)
theorem sl_20 : Cond.selects "GoneIntoItsTunnelModel" ⟨"GoneIntoItsTunnelModel", "readsSigned", "()Z"⟩ ⟨"GoneIntoItsTunnelModel", "readsSigned", "()Z"⟩ ∈ TBg := tb_at 20 (by decide +kernel) (by decide +kernel)
theorem sl_21 : Cond.selects "GoneIntoItsTunnelModel" ⟨"GoneIntoItsTunnelModel", "isDone", "(I)Z"⟩ ⟨"GoneIntoItsTunnelModel", "isDone", "(I)Z"⟩ ∈ TBg := tb_at 21 (by decide +kernel) (by decide +kernel)
theorem sl_22 : Cond.selects "GoneIntoItsTunnelModel" ⟨"GoneIntoItsTunnelModel", "isInch", "(I)Z"⟩ ⟨"GoneIntoItsTunnelModel", "isInch", "(I)Z"⟩ ∈ TBg := tb_at 22 (by decide +kernel) (by decide +kernel)
theorem sl_23 : Cond.selects "GoneIntoItsTunnelModel" ⟨"GoneIntoItsTunnelModel", "noFar", "(I)I"⟩ ⟨"GoneIntoItsTunnelModel", "noFar", "(I)I"⟩ ∈ TBg := tb_at 23 (by decide +kernel) (by decide +kernel)
theorem sl_24 : Cond.selects "GoneIntoItsTunnelModel" ⟨"GoneIntoItsTunnelModel", "outSeconds", "([II)I"⟩ ⟨"GoneIntoItsTunnelModel", "outSeconds", "([II)I"⟩ ∈ TBg := tb_at 24 (by decide +kernel) (by decide +kernel)
theorem sl_25 : Cond.selects "GoneIntoItsTunnelModel" ⟨"GoneIntoItsTunnelModel", "costliest", "(I)I"⟩ ⟨"GoneIntoItsTunnelModel", "costliest", "(I)I"⟩ ∈ TBg := tb_at 25 (by decide +kernel) (by decide +kernel)
theorem sl_26 : Cond.selects "GoneIntoItsTunnelModel" ⟨"GoneIntoItsTunnelModel", "allSeconds", "([I)I"⟩ ⟨"GoneIntoItsTunnelModel", "allSeconds", "([I)I"⟩ ∈ TBg := tb_at 26 (by decide +kernel) (by decide +kernel)
theorem sl_27 : Cond.selects "GoneIntoItsTunnelModel" ⟨"GoneIntoItsTunnelModel", "mended", "(I)I"⟩ ⟨"GoneIntoItsTunnelModel", "mended", "(I)I"⟩ ∈ TBg := tb_at 27 (by decide +kernel) (by decide +kernel)
theorem sl_28 : Cond.selects "GoneIntoItsTunnelModel" ⟨"GoneIntoItsTunnelModel", "firstWrong", "(II)I"⟩ ⟨"GoneIntoItsTunnelModel", "firstWrong", "(II)I"⟩ ∈ TBg := tb_at 28 (by decide +kernel) (by decide +kernel)
theorem sl_29 : Cond.selects "GoneIntoItsTunnelModel" ⟨"GoneIntoItsTunnelModel", "drawn", "(I)I"⟩ ⟨"GoneIntoItsTunnelModel", "drawn", "(I)I"⟩ ∈ TBg := tb_at 29 (by decide +kernel) (by decide +kernel)
end
section
/-- fields of our objects: own class, pool entry, the object's class, slot -/
def FTB : List (Nat × Nat × Nat × Nat) := [(0, 9, 0, 0), (0, 15, 0, 1), (0, 18, 0, 2), (0, 22, 0, 3), (0, 25, 0, 4), (0, 28, 0, 5), (0, 32, 0, 6), (0, 35, 0, 7), (0, 38, 0, 8), (0, 41, 0, 9), (1, 11, 1, 0), (1, 15, 1, 1), (2, 7, 2, 0), (2, 13, 2, 1), (2, 16, 0, 8), (2, 50, 4, 1), (3, 11, 3, 0), (3, 15, 3, 1), (4, 9, 4, 0), (4, 15, 4, 1), (4, 18, 4, 2), (5, 10, 5, 0), (5, 16, 5, 1), (5, 19, 5, 2), (5, 22, 5, 3), (5, 29, 5, 4), (5, 36, 5, 5), (5, 43, 5, 6), (5, 50, 5, 7), (5, 54, 5, 8), (5, 74, 1, 1), (5, 116, 0, 2), (5, 139, 0, 7), (5, 142, 0, 8), (5, 145, 0, 9), (5, 179, 4, 0), (5, 182, 4, 1), (5, 185, 4, 2), (5, 215, 2, 0), (5, 241, 3, 1), (5, 286, 2, 1), (6, 9, 6, 0), (6, 13, 6, 1), (6, 16, 6, 2), (6, 19, 6, 3), (6, 22, 6, 5), (6, 25, 6, 6), (6, 28, 6, 7), (6, 31, 6, 10), (6, 34, 6, 13), (6, 90, 6, 11), (6, 108, 6, 8), (6, 111, 6, 12), (6, 176, 6, 14), (6, 182, 6, 9), (6, 188, 6, 15), (6, 197, 6, 4)]
def NWs : List Cond := [(Jvm.Cond.fieldLinkNest "GoneIntoItsTunnel" (116 : Nat) "GoneIntoItsTunnel$Hem" "length" "I" "GoneIntoItsTunnel"), (Jvm.Cond.fieldLinkNest "GoneIntoItsTunnel" (139 : Nat) "GoneIntoItsTunnel$Hem" "sewn" "Z" "GoneIntoItsTunnel"), (Jvm.Cond.fieldLinkNest "GoneIntoItsTunnel$Mending" (16 : Nat) "GoneIntoItsTunnel$Hem" "pin" "I" "GoneIntoItsTunnel"), (Jvm.Cond.fieldLinkNest "GoneIntoItsTunnel" (142 : Nat) "GoneIntoItsTunnel$Hem" "pin" "I" "GoneIntoItsTunnel"), (Jvm.Cond.fieldLinkNest "GoneIntoItsTunnel" (145 : Nat) "GoneIntoItsTunnel$Hem" "strength" "I" "GoneIntoItsTunnel"), (Jvm.Cond.fieldLinkNest "GoneIntoItsTunnel" (179 : Nat) "GoneIntoItsTunnel$Way" "bunches" "I" "GoneIntoItsTunnel"), (Jvm.Cond.fieldLinkNest "GoneIntoItsTunnel$Mending" (50 : Nat) "GoneIntoItsTunnel$Way" "seconds" "I" "GoneIntoItsTunnel"), (Jvm.Cond.fieldLinkNest "GoneIntoItsTunnel" (182 : Nat) "GoneIntoItsTunnel$Way" "seconds" "I" "GoneIntoItsTunnel"), (Jvm.Cond.fieldLinkNest "GoneIntoItsTunnel" (185 : Nat) "GoneIntoItsTunnel$Way" "dearest" "I" "GoneIntoItsTunnel"), (Jvm.Cond.fieldLinkNest "GoneIntoItsTunnel" (215 : Nat) "GoneIntoItsTunnel$Mending" "times" "I" "GoneIntoItsTunnel"), (Jvm.Cond.fieldLinkNest "GoneIntoItsTunnel" (286 : Nat) "GoneIntoItsTunnel$Mending" "seconds" "I" "GoneIntoItsTunnel"), (Jvm.Cond.fieldLinkNest "GoneIntoItsTunnel" (74 : Nat) "GoneIntoItsTunnel$Letters" "size" "I" "GoneIntoItsTunnel"), (Jvm.Cond.fieldLinkNest "GoneIntoItsTunnel" (241 : Nat) "GoneIntoItsTunnel$Row" "size" "I" "GoneIntoItsTunnel")]
def FldOK (q : Nat × Nat × Nat × Nat) : Prop := ∃ r : vw_C, clz[q.2.2.1]? = some r ∧ q.2.2.2 < r.2.2 ∧ (Cond.fieldLink (cn q.1) q.2.1 (r.2.1 q.2.2.2).1 (r.2.1 q.2.2.2).2.1 (r.2.1 q.2.2.2).2.2.1 ∈ TBg ∨ ∃ host : String, Cond.fieldLinkNest (cn q.1) q.2.1 (r.2.1 q.2.2.2).1 (r.2.1 q.2.2.2).2.1 (r.2.1 q.2.2.2).2.2.1 host ∈ NWs)
set_option maxRecDepth 100000 in
theorem fld_ok : ∀ q ∈ FTB, FldOK q := List.forall_mem_cons.mpr ⟨⟨_, rfl, by decide, Or.inl wd_29⟩, List.forall_mem_cons.mpr ⟨⟨_, rfl, by decide, Or.inl wd_30⟩, List.forall_mem_cons.mpr ⟨⟨_, rfl, by decide, Or.inl wd_31⟩, List.forall_mem_cons.mpr ⟨⟨_, rfl, by decide, Or.inl wd_33⟩, List.forall_mem_cons.mpr ⟨⟨_, rfl, by decide, Or.inl wd_34⟩, List.forall_mem_cons.mpr ⟨⟨_, rfl, by decide, Or.inl wd_35⟩, List.forall_mem_cons.mpr ⟨⟨_, rfl, by decide, Or.inl wd_36⟩, List.forall_mem_cons.mpr ⟨⟨_, rfl, by decide, Or.inl wd_37⟩, List.forall_mem_cons.mpr ⟨⟨_, rfl, by decide, Or.inl wd_39⟩, List.forall_mem_cons.mpr ⟨⟨_, rfl, by decide, Or.inl wd_42⟩, List.forall_mem_cons.mpr ⟨⟨_, rfl, by decide, Or.inl wd_107⟩, List.forall_mem_cons.mpr ⟨⟨_, rfl, by decide, Or.inl wd_108⟩, List.forall_mem_cons.mpr ⟨⟨_, rfl, by decide, Or.inl wd_92⟩, List.forall_mem_cons.mpr ⟨⟨_, rfl, by decide, Or.inl wd_94⟩, List.forall_mem_cons.mpr ⟨⟨_, rfl, by decide, Or.inr ⟨_, List.mem_of_getElem? (i := 2) rfl⟩⟩, List.forall_mem_cons.mpr ⟨⟨_, rfl, by decide, Or.inr ⟨_, List.mem_of_getElem? (i := 6) rfl⟩⟩, List.forall_mem_cons.mpr ⟨⟨_, rfl, by decide, Or.inl wd_121⟩, List.forall_mem_cons.mpr ⟨⟨_, rfl, by decide, Or.inl wd_122⟩, List.forall_mem_cons.mpr ⟨⟨_, rfl, by decide, Or.inl wd_72⟩, List.forall_mem_cons.mpr ⟨⟨_, rfl, by decide, Or.inl wd_74⟩, List.forall_mem_cons.mpr ⟨⟨_, rfl, by decide, Or.inl wd_77⟩, List.forall_mem_cons.mpr ⟨⟨_, rfl, by decide, Or.inl wd_129⟩, List.forall_mem_cons.mpr ⟨⟨_, rfl, by decide, Or.inl wd_130⟩, List.forall_mem_cons.mpr ⟨⟨_, rfl, by decide, Or.inl wd_131⟩, List.forall_mem_cons.mpr ⟨⟨_, rfl, by decide, Or.inl wd_132⟩, List.forall_mem_cons.mpr ⟨⟨_, rfl, by decide, Or.inl wd_133⟩, List.forall_mem_cons.mpr ⟨⟨_, rfl, by decide, Or.inl wd_134⟩, List.forall_mem_cons.mpr ⟨⟨_, rfl, by decide, Or.inl wd_135⟩, List.forall_mem_cons.mpr ⟨⟨_, rfl, by decide, Or.inl wd_136⟩, List.forall_mem_cons.mpr ⟨⟨_, rfl, by decide, Or.inl wd_137⟩, List.forall_mem_cons.mpr ⟨⟨_, rfl, by decide, Or.inr ⟨_, List.mem_of_getElem? (i := 11) rfl⟩⟩, List.forall_mem_cons.mpr ⟨⟨_, rfl, by decide, Or.inr ⟨_, List.mem_of_getElem? (i := 0) rfl⟩⟩, List.forall_mem_cons.mpr ⟨⟨_, rfl, by decide, Or.inr ⟨_, List.mem_of_getElem? (i := 1) rfl⟩⟩, List.forall_mem_cons.mpr ⟨⟨_, rfl, by decide, Or.inr ⟨_, List.mem_of_getElem? (i := 3) rfl⟩⟩, List.forall_mem_cons.mpr ⟨⟨_, rfl, by decide, Or.inr ⟨_, List.mem_of_getElem? (i := 4) rfl⟩⟩, List.forall_mem_cons.mpr ⟨⟨_, rfl, by decide, Or.inr ⟨_, List.mem_of_getElem? (i := 5) rfl⟩⟩, List.forall_mem_cons.mpr ⟨⟨_, rfl, by decide, Or.inr ⟨_, List.mem_of_getElem? (i := 7) rfl⟩⟩, List.forall_mem_cons.mpr ⟨⟨_, rfl, by decide, Or.inr ⟨_, List.mem_of_getElem? (i := 8) rfl⟩⟩, List.forall_mem_cons.mpr ⟨⟨_, rfl, by decide, Or.inr ⟨_, List.mem_of_getElem? (i := 9) rfl⟩⟩, List.forall_mem_cons.mpr ⟨⟨_, rfl, by decide, Or.inr ⟨_, List.mem_of_getElem? (i := 12) rfl⟩⟩, List.forall_mem_cons.mpr ⟨⟨_, rfl, by decide, Or.inr ⟨_, List.mem_of_getElem? (i := 10) rfl⟩⟩, List.forall_mem_cons.mpr ⟨⟨_, rfl, by decide, Or.inl wd_731⟩, List.forall_mem_cons.mpr ⟨⟨_, rfl, by decide, Or.inl wd_732⟩, List.forall_mem_cons.mpr ⟨⟨_, rfl, by decide, Or.inl wd_733⟩, List.forall_mem_cons.mpr ⟨⟨_, rfl, by decide, Or.inl wd_734⟩, List.forall_mem_cons.mpr ⟨⟨_, rfl, by decide, Or.inl wd_736⟩, List.forall_mem_cons.mpr ⟨⟨_, rfl, by decide, Or.inl wd_737⟩, List.forall_mem_cons.mpr ⟨⟨_, rfl, by decide, Or.inl wd_738⟩, List.forall_mem_cons.mpr ⟨⟨_, rfl, by decide, Or.inl wd_741⟩, List.forall_mem_cons.mpr ⟨⟨_, rfl, by decide, Or.inl wd_744⟩, List.forall_mem_cons.mpr ⟨⟨_, rfl, by decide, Or.inl wd_742⟩, List.forall_mem_cons.mpr ⟨⟨_, rfl, by decide, Or.inl wd_739⟩, List.forall_mem_cons.mpr ⟨⟨_, rfl, by decide, Or.inl wd_743⟩, List.forall_mem_cons.mpr ⟨⟨_, rfl, by decide, Or.inl wd_745⟩, List.forall_mem_cons.mpr ⟨⟨_, rfl, by decide, Or.inl wd_740⟩, List.forall_mem_cons.mpr ⟨⟨_, rfl, by decide, Or.inl wd_746⟩, List.forall_mem_cons.mpr ⟨⟨_, rfl, by decide, Or.inl wd_735⟩, fun _ h => absurd h List.not_mem_nil⟩⟩⟩⟩⟩⟩⟩⟩⟩⟩⟩⟩⟩⟩⟩⟩⟩⟩⟩⟩⟩⟩⟩⟩⟩⟩⟩⟩⟩⟩⟩⟩⟩⟩⟩⟩⟩⟩⟩⟩⟩⟩⟩⟩⟩⟩⟩⟩⟩⟩⟩⟩⟩⟩⟩⟩⟩
/-- constants of ints: own class, pool entry, value -/
def LTB : List (Nat × Nat × Int32) := [(4, 41, 1000000), (5, 247, 1664525), (5, 248, 1013904223), (5, 251, 2147483647), (5, 261, 1000000000), (6, 37, 1000000000), (6, 191, 1664525), (6, 192, 1013904223), (6, 193, 2147483647)]
set_option maxRecDepth 100000 in
theorem ld_ok : ∀ q ∈ LTB, Cond.constant (cn q.1) q.2.1 q.2.2 ∈ TBg := List.forall_mem_cons.mpr ⟨wd_630, List.forall_mem_cons.mpr ⟨wd_698, List.forall_mem_cons.mpr ⟨wd_699, List.forall_mem_cons.mpr ⟨wd_700, List.forall_mem_cons.mpr ⟨wd_469, List.forall_mem_cons.mpr ⟨wd_894, List.forall_mem_cons.mpr ⟨wd_1051, List.forall_mem_cons.mpr ⟨wd_1052, List.forall_mem_cons.mpr ⟨wd_1053, fun _ h => absurd h List.not_mem_nil⟩⟩⟩⟩⟩⟩⟩⟩⟩
/-- constants of texts: own class, pool entry, text -/
def STB : List (Nat × Nat × String) := [(1, 51, "##;"), (1, 53, "k###;"), (1, 55, "#+##;"), (1, 57, "#;"), (1, 59, ";"), (1, 61, ""), (7, 9, "cselvb")]
def sLen : List Nat := [3, 5, 5, 2, 1, 0, 6]
def sByt : List (List Int32) := [[35, 35, 59], [107, 35, 35, 35, 59], [35, 43, 35, 35, 59], [35, 59], [59], [], [99, 115, 101, 108, 118, 98]]
set_option maxRecDepth 100000 in
theorem sv_value : Cond.fieldLink "java/lang/String" 9 "java/lang/String" "value" "[B" ∈ TBg := wd_1066
set_option maxRecDepth 100000 in
theorem sv_coder : Cond.fieldLink "java/lang/String" 15 "java/lang/String" "coder" "B" ∈ TBg := wd_1067
set_option maxRecDepth 100000 in
theorem gs_J0_38 : Cond.fieldLink "java/lang/String" 38 "java/lang/String" "COMPACT_STRINGS" "Z" ∈ TBg := wd_209
set_option maxRecDepth 100000 in
theorem gs_J0_1053 : Cond.fieldLink "java/lang/String" 1053 "jdk/internal/util/Preconditions" "SIOOBE_FORMATTER" "Ljava/util/function/BiFunction;" ∈ TBg := wd_225
/-- calls: own class, pool entry, 0 virtual or 1 static, the method called, how many parameters -/
def CTB0 : List (Nat × Nat × Nat × MD × Nat) := [(0, 44, 0, mX0_kindAt, 1), (0, 48, 0, mX0_figureAt, 1), (0, 51, 0, mX0_make, 3), (0, 57, 1, mX1_bunchMove, 1), (0, 60, 1, mX1_bunchSeconds, 2), (0, 64, 1, mX1_threadSeconds, 2), (0, 67, 1, mX1_washDraw, 2), (0, 70, 1, mX1_isSeam, 1), (0, 74, 0, mX0_threadSeconds, 1), (0, 76, 0, mX0_secondsAnewOf, 2), (0, 79, 0, mX0_depth, 1), (0, 82, 0, mX0_isLost, 1), (0, 93, 0, mX0_canDraw, 2), (0, 96, 0, mX0_place, 2), (0, 100, 0, mX0_inchAt, 2), (0, 103, 0, mX0_washDraw, 1), (0, 105, 0, mX0_draw, 2), (0, 108, 0, mX0_washOnce, 0), (1, 19, 0, mX2_signAt, 1), (1, 23, 0, mX2_digit, 1), (1, 26, 0, mX2_number, 1), (1, 29, 1, mX2_formBehind, 1), (1, 33, 0, mJ0_length_8abf5, 0), (1, 39, 0, mJ0_isEmpty_aae02, 0), (1, 43, 0, mJ0_charAt_5068e, 1), (1, 47, 1, mX2_fits, 2), (1, 63, 1, mX1_isSign, 1), (2, 21, 0, mX0_secondsAnew, 1), (2, 25, 0, mX0_washOnce, 0), (2, 29, 0, mX3_mend, 4), (2, 33, 0, mX0_isLost, 1), (2, 37, 0, mX0_depth, 1), (2, 40, 0, mX5_measure, 3), (2, 46, 0, mX5_isAWay, 0), (2, 51, 0, mX0_threadAnew, 0), (2, 54, 0, mX0_place, 2), (3, 19, 0, mX0_depth, 1), (3, 25, 0, mX0_washOnce, 0), (4, 21, 0, mX0_inchAt, 2), (4, 27, 0, mX0_bunchMove, 1)]
def CTB1 : List (Nat × Nat × Nat × MD × Nat) := [(4, 31, 0, mX5_neverIsOut, 0), (4, 34, 0, mX0_bunchSeconds, 1), (4, 37, 0, mX5_isAWay, 0), (4, 42, 0, mX0_depth, 1), (4, 45, 0, mX5_measure, 3), (5, 58, 1, mX6_outside, 3), (5, 62, 0, mX6_refuse, 1), (5, 66, 0, mX2_isFull, 0), (5, 70, 0, mX2_add, 1), (5, 78, 0, mX2_firstUnfit, 0), (5, 82, 0, mX6_statementsCome, 0), (5, 85, 0, mX2_clear, 0), (5, 88, 0, mX0_hasInch, 1), (5, 92, 0, mX0_kindAt, 1), (5, 95, 0, mX0_figureAt, 1), (5, 98, 0, mX0_bunchMove, 1), (5, 101, 0, mX0_bunchSeconds, 1), (5, 104, 0, mX0_threadSeconds, 1), (5, 107, 0, mX0_washDraw, 1), (5, 112, 0, mX0_make, 3), (5, 119, 1, mX6_isEnd, 1), (5, 122, 0, mX6_refuseAsTold, 1), (5, 125, 0, mX0_depth, 1), (5, 128, 0, mX0_place, 2), (5, 132, 0, mX0_isKnotted, 1), (5, 135, 0, mX0_knot, 2), (5, 148, 0, mX0_draw, 2), (5, 152, 0, mX0_isLost, 1), (5, 155, 0, mX0_inchAt, 2), (5, 163, 0, mX0_threadAnew, 0), (5, 166, 0, mX0_secondsAnew, 1), (5, 169, 0, mX0_washTimes, 1), (5, 172, 0, mX0_lostEnds, 0), (5, 175, 0, mX5_measure, 3), (5, 188, 0, mX6_secondsIfLost, 1), (5, 191, 0, mX5_secondsOfAll, 1), (5, 195, 0, mX0_copyFrom, 1), (5, 199, 0, mX6_washesTillLost, 0), (5, 202, 0, mX0_washOnce, 0), (5, 205, 0, mX5_isAWay, 0)]
def CTB2 : List (Nat × Nat × Nat × MD × Nat) := [(5, 208, 0, mX6_secondsWithStop, 2), (5, 211, 0, mX3_goOn, 3), (5, 218, 0, mX5_rank, 0), (5, 221, 0, mX6_rankWithCloth, 2), (5, 227, 0, mX0_canDraw, 2), (5, 230, 0, mX0_secondsAnewOf, 2), (5, 233, 0, mX6_kindsByRow, 1), (5, 236, 0, mX6_strengthsByRow, 0), (5, 239, 0, mX4_isFull, 0), (5, 240, 0, mX4_add, 1), (5, 242, 0, mX4_firstNotSo, 2), (5, 246, 0, mX4_clear, 0), (5, 252, 0, mX6_lotSeconds, 1), (5, 255, 0, mX0_seams, 0), (5, 258, 0, mX6_refusalsAt, 1), (5, 262, 0, mX6_isAsItMustBe, 1), (5, 265, 0, mX6_comes, 1), (5, 268, 0, mX2_lengthBehind, 1), (5, 271, 0, mX2_signAt, 1), (5, 274, 0, mX2_number, 1), (5, 277, 0, mX2_digit, 1), (5, 280, 0, mX2_signed, 1), (5, 283, 1, mX1_ofSign, 1), (6, 38, 0, mX7_no, 1), (6, 42, 1, mX7_isIn, 3), (6, 46, 1, mX7_kindOf, 2), (6, 50, 1, mX7_isSeam, 1), (6, 54, 1, mX7_figureOf, 2), (6, 57, 1, mX7_least, 2), (6, 61, 1, mX7_most, 2), (6, 64, 1, mX7_canPull, 3), (6, 68, 1, mX7_inchOf, 2), (6, 71, 1, mX7_drawsAt, 2), (6, 74, 1, mX7_pulls, 3), (6, 77, 1, mX7_washes, 1), (6, 81, 1, mX7_movesAt, 2), (6, 84, 1, mX7_threadBy, 2), (6, 87, 1, mX7_threadAt, 2), (6, 94, 1, mX7_isLost, 2), (6, 98, 1, mX7_bunchAt, 2)]
def CTB3 : List (Nat × Nat × Nat × MD × Nat) := [(6, 101, 1, mX7_bunches, 2), (6, 105, 0, mX7_outSeconds, 2), (6, 114, 0, mX7_here, 0), (6, 118, 1, mX7_kindBy, 1), (6, 121, 0, mX7_readsNumber, 2), (6, 125, 0, mX7_readsKind, 0), (6, 129, 0, mX7_readsSigned, 0), (6, 132, 0, mX7_isInch, 1), (6, 135, 1, mX7_isEnd, 1), (6, 138, 1, mX7_washesOn, 2), (6, 141, 0, mX7_readsStatement, 0), (6, 144, 1, mX7_lays, 2), (6, 148, 0, mX7_isDone, 1), (6, 151, 0, mX7_noFar, 1), (6, 154, 1, mX7_threads, 1), (6, 158, 1, mX7_anewSeconds, 1), (6, 161, 1, mX7_lostMany, 1), (6, 164, 0, mX7_costliest, 1), (6, 167, 0, mX7_allSeconds, 1), (6, 170, 1, mX7_wrongWashes, 1), (6, 173, 1, mX7_wrongSeconds, 1), (6, 179, 0, mX7_mended, 1), (6, 185, 0, mX7_firstWrong, 2), (6, 194, 0, mX7_drawn, 1), (7, 11, 0, mJ0_indexOf_0f7a4, 1), (10, 335, 0, mJ0_coder_7d493, 0), (10, 492, 0, mJ0_isLatin1_aae02, 0), (10, 495, 1, mJ1_charAt_3b067, 2), (10, 505, 0, mJ0_length_8abf5, 0), (10, 633, 0, mJ0_indexOf_7cf53, 2), (10, 637, 1, mJ1_indexOf_4cfef, 4), (10, 1059, 1, mJ3_checkIndex_8e157, 3), (11, 9, 1, mJ0_checkIndex_df160, 2), (11, 88, 1, mJ1_canEncode_9a6ad, 1), (11, 95, 1, mJ1_indexOfChar_4cfef, 4), (30, 13, 0, mX6_letter, 1), (30, 17, 0, mX7_letter, 1), (30, 18, 0, mX6_hem, 0), (30, 22, 0, mX7_hem, 0), (30, 23, 0, mX6_inch, 2)]
def CTB4 : List (Nat × Nat × Nat × MD × Nat) := [(30, 27, 0, mX7_inch, 2), (30, 28, 0, mX6_turn, 3), (30, 32, 0, mX7_turn, 3), (30, 33, 0, mX6_inches, 1), (30, 36, 0, mX7_inches, 1), (30, 37, 0, mX6_end, 2), (30, 40, 0, mX7_end, 2), (30, 41, 0, mX6_tie, 1), (30, 44, 0, mX7_tie, 1), (30, 45, 0, mX6_sew, 0), (30, 48, 0, mX7_sew, 0), (30, 49, 0, mX6_set, 2), (30, 52, 0, mX7_set, 2), (30, 53, 0, mX6_pull, 2), (30, 56, 0, mX7_pull, 2), (30, 57, 0, mX6_bunch, 1), (30, 60, 0, mX7_bunch, 1), (30, 61, 0, mX6_anew, 0), (30, 64, 0, mX7_anew, 0), (30, 65, 0, mX6_wash, 1), (30, 68, 0, mX7_wash, 1), (30, 69, 0, mX6_of, 2), (30, 72, 0, mX7_of, 2), (30, 73, 0, mX6_out, 2), (30, 76, 0, mX7_out, 2), (30, 77, 0, mX6_soonest, 0), (30, 80, 0, mX7_soonest, 0), (30, 81, 0, mX6_better, 1), (30, 84, 0, mX7_better, 1), (30, 85, 0, mX6_inIn, 2), (30, 88, 0, mX7_inIn, 2), (30, 89, 0, mX6_lost, 1), (30, 92, 0, mX7_lost, 1), (30, 93, 0, mX6_still, 0), (30, 96, 0, mX7_still, 0), (30, 97, 0, mX6_keep, 1), (30, 100, 0, mX7_keep, 1), (30, 101, 0, mX6_deep, 2), (30, 104, 0, mX7_deep, 2), (30, 105, 0, mX6_stops, 2)]
def CTB5 : List (Nat × Nat × Nat × MD × Nat) := [(30, 108, 0, mX7_stops, 2), (30, 109, 0, mX6_care, 1), (30, 112, 0, mX7_care, 1), (30, 113, 0, mX6_holdsUp, 1), (30, 116, 0, mX7_holdsUp, 1), (30, 117, 0, mX6_middle, 0), (30, 120, 0, mX7_middle, 0), (30, 121, 0, mX6_cutOff, 0), (30, 124, 0, mX7_cutOff, 0), (30, 125, 0, mX6_bestPin, 1), (30, 128, 0, mX7_bestPin, 1), (30, 129, 0, mX6_worst, 0), (30, 132, 0, mX7_worst, 0), (30, 133, 0, mX6_which, 2), (30, 136, 0, mX7_which, 2), (30, 137, 0, mX6_row, 1), (30, 140, 0, mX7_row, 1), (30, 141, 0, mX6_judge, 1), (30, 144, 0, mX7_judge, 1), (30, 145, 0, mX6_lots, 3), (30, 148, 0, mX7_lots, 3), (30, 149, 0, mX6_image, 0), (30, 152, 0, mX7_image, 0), (30, 153, 0, mX6_on, 0), (30, 156, 0, mX7_on, 0), (30, 157, 0, mX6_count, 1), (30, 160, 0, mX7_count, 1)]
def CTB : List (Nat × Nat × Nat × MD × Nat) := CTB0 ++ (CTB1 ++ (CTB2 ++ (CTB3 ++ (CTB4 ++ (CTB5)))))
def CalOK (q : Nat × Nat × Nat × MD × Nat) : Prop := Cond.methodLink (cn q.1) q.2.1 q.2.2.2.1.2.1 ∈ TBg ∧ Cond.code q.2.2.2.1.2.1 q.2.2.2.1.2.2.1 q.2.2.2.1.2.2.2.1 q.2.2.2.1.2.2.2.2.1 ∈ TBg ∧ Cond.initialized q.2.2.2.1.2.1.cls ∈ TBg ∧ ((q.2.2.1 = 0 ∧ Cond.instanceMethod q.2.2.2.1.2.1 ∈ TBg ∧ Cond.selects q.2.2.2.1.2.1.cls q.2.2.2.1.2.1 q.2.2.2.1.2.1 ∈ TBg) ∨ (q.2.2.1 = 1 ∧ Cond.static q.2.2.2.1.2.1 ∈ TBg)) ∧ (q.2.2.2.1.2.1.cls ≠ "java/lang/invoke/MethodHandle" ∧ q.2.2.2.1.2.1.cls ≠ "java/lang/invoke/VarHandle" ∧ (parseMethodDescriptor q.2.2.2.1.2.1.desc).map (fun d => d.parameters.length) = some q.2.2.2.2) ∧ q.2.2.2.1.2.1.cls = cn q.2.2.2.1.1 ∧ plainName q.2.2.2.1.2.1.cls = true
set_option maxRecDepth 100000 in
theorem md_J0_charAt_5068e : (mJ0_charAt_5068e.2.1.cls ≠ "java/lang/invoke/MethodHandle" ∧ mJ0_charAt_5068e.2.1.cls ≠ "java/lang/invoke/VarHandle" ∧ (parseMethodDescriptor mJ0_charAt_5068e.2.1.desc).map (fun d => d.parameters.length) = some 1) ∧ mJ0_charAt_5068e.2.1.cls = cn mJ0_charAt_5068e.1 ∧ plainName mJ0_charAt_5068e.2.1.cls = true := by decide +kernel
set_option maxRecDepth 100000 in
theorem md_J0_checkIndex_df160 : (mJ0_checkIndex_df160.2.1.cls ≠ "java/lang/invoke/MethodHandle" ∧ mJ0_checkIndex_df160.2.1.cls ≠ "java/lang/invoke/VarHandle" ∧ (parseMethodDescriptor mJ0_checkIndex_df160.2.1.desc).map (fun d => d.parameters.length) = some 2) ∧ mJ0_checkIndex_df160.2.1.cls = cn mJ0_checkIndex_df160.1 ∧ plainName mJ0_checkIndex_df160.2.1.cls = true := by decide +kernel
set_option maxRecDepth 100000 in
theorem md_J0_coder_7d493 : (mJ0_coder_7d493.2.1.cls ≠ "java/lang/invoke/MethodHandle" ∧ mJ0_coder_7d493.2.1.cls ≠ "java/lang/invoke/VarHandle" ∧ (parseMethodDescriptor mJ0_coder_7d493.2.1.desc).map (fun d => d.parameters.length) = some 0) ∧ mJ0_coder_7d493.2.1.cls = cn mJ0_coder_7d493.1 ∧ plainName mJ0_coder_7d493.2.1.cls = true := by decide +kernel
set_option maxRecDepth 100000 in
theorem md_J0_indexOf_0f7a4 : (mJ0_indexOf_0f7a4.2.1.cls ≠ "java/lang/invoke/MethodHandle" ∧ mJ0_indexOf_0f7a4.2.1.cls ≠ "java/lang/invoke/VarHandle" ∧ (parseMethodDescriptor mJ0_indexOf_0f7a4.2.1.desc).map (fun d => d.parameters.length) = some 1) ∧ mJ0_indexOf_0f7a4.2.1.cls = cn mJ0_indexOf_0f7a4.1 ∧ plainName mJ0_indexOf_0f7a4.2.1.cls = true := by decide +kernel
set_option maxRecDepth 100000 in
theorem md_J0_indexOf_7cf53 : (mJ0_indexOf_7cf53.2.1.cls ≠ "java/lang/invoke/MethodHandle" ∧ mJ0_indexOf_7cf53.2.1.cls ≠ "java/lang/invoke/VarHandle" ∧ (parseMethodDescriptor mJ0_indexOf_7cf53.2.1.desc).map (fun d => d.parameters.length) = some 2) ∧ mJ0_indexOf_7cf53.2.1.cls = cn mJ0_indexOf_7cf53.1 ∧ plainName mJ0_indexOf_7cf53.2.1.cls = true := by decide +kernel
set_option maxRecDepth 100000 in
theorem md_J0_isEmpty_aae02 : (mJ0_isEmpty_aae02.2.1.cls ≠ "java/lang/invoke/MethodHandle" ∧ mJ0_isEmpty_aae02.2.1.cls ≠ "java/lang/invoke/VarHandle" ∧ (parseMethodDescriptor mJ0_isEmpty_aae02.2.1.desc).map (fun d => d.parameters.length) = some 0) ∧ mJ0_isEmpty_aae02.2.1.cls = cn mJ0_isEmpty_aae02.1 ∧ plainName mJ0_isEmpty_aae02.2.1.cls = true := by decide +kernel
set_option maxRecDepth 100000 in
theorem md_J0_isLatin1_aae02 : (mJ0_isLatin1_aae02.2.1.cls ≠ "java/lang/invoke/MethodHandle" ∧ mJ0_isLatin1_aae02.2.1.cls ≠ "java/lang/invoke/VarHandle" ∧ (parseMethodDescriptor mJ0_isLatin1_aae02.2.1.desc).map (fun d => d.parameters.length) = some 0) ∧ mJ0_isLatin1_aae02.2.1.cls = cn mJ0_isLatin1_aae02.1 ∧ plainName mJ0_isLatin1_aae02.2.1.cls = true := by decide +kernel
set_option maxRecDepth 100000 in
theorem md_J0_length_8abf5 : (mJ0_length_8abf5.2.1.cls ≠ "java/lang/invoke/MethodHandle" ∧ mJ0_length_8abf5.2.1.cls ≠ "java/lang/invoke/VarHandle" ∧ (parseMethodDescriptor mJ0_length_8abf5.2.1.desc).map (fun d => d.parameters.length) = some 0) ∧ mJ0_length_8abf5.2.1.cls = cn mJ0_length_8abf5.1 ∧ plainName mJ0_length_8abf5.2.1.cls = true := by decide +kernel
set_option maxRecDepth 100000 in
theorem md_J1_canEncode_9a6ad : (mJ1_canEncode_9a6ad.2.1.cls ≠ "java/lang/invoke/MethodHandle" ∧ mJ1_canEncode_9a6ad.2.1.cls ≠ "java/lang/invoke/VarHandle" ∧ (parseMethodDescriptor mJ1_canEncode_9a6ad.2.1.desc).map (fun d => d.parameters.length) = some 1) ∧ mJ1_canEncode_9a6ad.2.1.cls = cn mJ1_canEncode_9a6ad.1 ∧ plainName mJ1_canEncode_9a6ad.2.1.cls = true := by decide +kernel
set_option maxRecDepth 100000 in
theorem md_J1_charAt_3b067 : (mJ1_charAt_3b067.2.1.cls ≠ "java/lang/invoke/MethodHandle" ∧ mJ1_charAt_3b067.2.1.cls ≠ "java/lang/invoke/VarHandle" ∧ (parseMethodDescriptor mJ1_charAt_3b067.2.1.desc).map (fun d => d.parameters.length) = some 2) ∧ mJ1_charAt_3b067.2.1.cls = cn mJ1_charAt_3b067.1 ∧ plainName mJ1_charAt_3b067.2.1.cls = true := by decide +kernel
set_option maxRecDepth 100000 in
theorem md_J1_indexOfChar_4cfef : (mJ1_indexOfChar_4cfef.2.1.cls ≠ "java/lang/invoke/MethodHandle" ∧ mJ1_indexOfChar_4cfef.2.1.cls ≠ "java/lang/invoke/VarHandle" ∧ (parseMethodDescriptor mJ1_indexOfChar_4cfef.2.1.desc).map (fun d => d.parameters.length) = some 4) ∧ mJ1_indexOfChar_4cfef.2.1.cls = cn mJ1_indexOfChar_4cfef.1 ∧ plainName mJ1_indexOfChar_4cfef.2.1.cls = true := by decide +kernel
set_option maxRecDepth 100000 in
theorem md_J1_indexOf_4cfef : (mJ1_indexOf_4cfef.2.1.cls ≠ "java/lang/invoke/MethodHandle" ∧ mJ1_indexOf_4cfef.2.1.cls ≠ "java/lang/invoke/VarHandle" ∧ (parseMethodDescriptor mJ1_indexOf_4cfef.2.1.desc).map (fun d => d.parameters.length) = some 4) ∧ mJ1_indexOf_4cfef.2.1.cls = cn mJ1_indexOf_4cfef.1 ∧ plainName mJ1_indexOf_4cfef.2.1.cls = true := by decide +kernel
set_option maxRecDepth 100000 in
theorem md_J3_checkIndex_8e157 : (mJ3_checkIndex_8e157.2.1.cls ≠ "java/lang/invoke/MethodHandle" ∧ mJ3_checkIndex_8e157.2.1.cls ≠ "java/lang/invoke/VarHandle" ∧ (parseMethodDescriptor mJ3_checkIndex_8e157.2.1.desc).map (fun d => d.parameters.length) = some 3) ∧ mJ3_checkIndex_8e157.2.1.cls = cn mJ3_checkIndex_8e157.1 ∧ plainName mJ3_checkIndex_8e157.2.1.cls = true := by decide +kernel
set_option maxRecDepth 100000 in
theorem md_X0_bunchMove : (mX0_bunchMove.2.1.cls ≠ "java/lang/invoke/MethodHandle" ∧ mX0_bunchMove.2.1.cls ≠ "java/lang/invoke/VarHandle" ∧ (parseMethodDescriptor mX0_bunchMove.2.1.desc).map (fun d => d.parameters.length) = some 1) ∧ mX0_bunchMove.2.1.cls = cn mX0_bunchMove.1 ∧ plainName mX0_bunchMove.2.1.cls = true := by decide +kernel
set_option maxRecDepth 100000 in
theorem md_X0_bunchSeconds : (mX0_bunchSeconds.2.1.cls ≠ "java/lang/invoke/MethodHandle" ∧ mX0_bunchSeconds.2.1.cls ≠ "java/lang/invoke/VarHandle" ∧ (parseMethodDescriptor mX0_bunchSeconds.2.1.desc).map (fun d => d.parameters.length) = some 1) ∧ mX0_bunchSeconds.2.1.cls = cn mX0_bunchSeconds.1 ∧ plainName mX0_bunchSeconds.2.1.cls = true := by decide +kernel
set_option maxRecDepth 100000 in
theorem md_X0_canDraw : (mX0_canDraw.2.1.cls ≠ "java/lang/invoke/MethodHandle" ∧ mX0_canDraw.2.1.cls ≠ "java/lang/invoke/VarHandle" ∧ (parseMethodDescriptor mX0_canDraw.2.1.desc).map (fun d => d.parameters.length) = some 2) ∧ mX0_canDraw.2.1.cls = cn mX0_canDraw.1 ∧ plainName mX0_canDraw.2.1.cls = true := by decide +kernel
set_option maxRecDepth 100000 in
theorem md_X0_copyFrom : (mX0_copyFrom.2.1.cls ≠ "java/lang/invoke/MethodHandle" ∧ mX0_copyFrom.2.1.cls ≠ "java/lang/invoke/VarHandle" ∧ (parseMethodDescriptor mX0_copyFrom.2.1.desc).map (fun d => d.parameters.length) = some 1) ∧ mX0_copyFrom.2.1.cls = cn mX0_copyFrom.1 ∧ plainName mX0_copyFrom.2.1.cls = true := by decide +kernel
set_option maxRecDepth 100000 in
theorem md_X0_depth : (mX0_depth.2.1.cls ≠ "java/lang/invoke/MethodHandle" ∧ mX0_depth.2.1.cls ≠ "java/lang/invoke/VarHandle" ∧ (parseMethodDescriptor mX0_depth.2.1.desc).map (fun d => d.parameters.length) = some 1) ∧ mX0_depth.2.1.cls = cn mX0_depth.1 ∧ plainName mX0_depth.2.1.cls = true := by decide +kernel
set_option maxRecDepth 100000 in
theorem md_X0_draw : (mX0_draw.2.1.cls ≠ "java/lang/invoke/MethodHandle" ∧ mX0_draw.2.1.cls ≠ "java/lang/invoke/VarHandle" ∧ (parseMethodDescriptor mX0_draw.2.1.desc).map (fun d => d.parameters.length) = some 2) ∧ mX0_draw.2.1.cls = cn mX0_draw.1 ∧ plainName mX0_draw.2.1.cls = true := by decide +kernel
set_option maxRecDepth 100000 in
theorem md_X0_figureAt : (mX0_figureAt.2.1.cls ≠ "java/lang/invoke/MethodHandle" ∧ mX0_figureAt.2.1.cls ≠ "java/lang/invoke/VarHandle" ∧ (parseMethodDescriptor mX0_figureAt.2.1.desc).map (fun d => d.parameters.length) = some 1) ∧ mX0_figureAt.2.1.cls = cn mX0_figureAt.1 ∧ plainName mX0_figureAt.2.1.cls = true := by decide +kernel
set_option maxRecDepth 100000 in
theorem md_X0_hasInch : (mX0_hasInch.2.1.cls ≠ "java/lang/invoke/MethodHandle" ∧ mX0_hasInch.2.1.cls ≠ "java/lang/invoke/VarHandle" ∧ (parseMethodDescriptor mX0_hasInch.2.1.desc).map (fun d => d.parameters.length) = some 1) ∧ mX0_hasInch.2.1.cls = cn mX0_hasInch.1 ∧ plainName mX0_hasInch.2.1.cls = true := by decide +kernel
set_option maxRecDepth 100000 in
theorem md_X0_inchAt : (mX0_inchAt.2.1.cls ≠ "java/lang/invoke/MethodHandle" ∧ mX0_inchAt.2.1.cls ≠ "java/lang/invoke/VarHandle" ∧ (parseMethodDescriptor mX0_inchAt.2.1.desc).map (fun d => d.parameters.length) = some 2) ∧ mX0_inchAt.2.1.cls = cn mX0_inchAt.1 ∧ plainName mX0_inchAt.2.1.cls = true := by decide +kernel
set_option maxRecDepth 100000 in
theorem md_X0_isKnotted : (mX0_isKnotted.2.1.cls ≠ "java/lang/invoke/MethodHandle" ∧ mX0_isKnotted.2.1.cls ≠ "java/lang/invoke/VarHandle" ∧ (parseMethodDescriptor mX0_isKnotted.2.1.desc).map (fun d => d.parameters.length) = some 1) ∧ mX0_isKnotted.2.1.cls = cn mX0_isKnotted.1 ∧ plainName mX0_isKnotted.2.1.cls = true := by decide +kernel
set_option maxRecDepth 100000 in
theorem md_X0_isLost : (mX0_isLost.2.1.cls ≠ "java/lang/invoke/MethodHandle" ∧ mX0_isLost.2.1.cls ≠ "java/lang/invoke/VarHandle" ∧ (parseMethodDescriptor mX0_isLost.2.1.desc).map (fun d => d.parameters.length) = some 1) ∧ mX0_isLost.2.1.cls = cn mX0_isLost.1 ∧ plainName mX0_isLost.2.1.cls = true := by decide +kernel
set_option maxRecDepth 100000 in
theorem md_X0_kindAt : (mX0_kindAt.2.1.cls ≠ "java/lang/invoke/MethodHandle" ∧ mX0_kindAt.2.1.cls ≠ "java/lang/invoke/VarHandle" ∧ (parseMethodDescriptor mX0_kindAt.2.1.desc).map (fun d => d.parameters.length) = some 1) ∧ mX0_kindAt.2.1.cls = cn mX0_kindAt.1 ∧ plainName mX0_kindAt.2.1.cls = true := by decide +kernel
set_option maxRecDepth 100000 in
theorem md_X0_knot : (mX0_knot.2.1.cls ≠ "java/lang/invoke/MethodHandle" ∧ mX0_knot.2.1.cls ≠ "java/lang/invoke/VarHandle" ∧ (parseMethodDescriptor mX0_knot.2.1.desc).map (fun d => d.parameters.length) = some 2) ∧ mX0_knot.2.1.cls = cn mX0_knot.1 ∧ plainName mX0_knot.2.1.cls = true := by decide +kernel
set_option maxRecDepth 100000 in
theorem md_X0_lostEnds : (mX0_lostEnds.2.1.cls ≠ "java/lang/invoke/MethodHandle" ∧ mX0_lostEnds.2.1.cls ≠ "java/lang/invoke/VarHandle" ∧ (parseMethodDescriptor mX0_lostEnds.2.1.desc).map (fun d => d.parameters.length) = some 0) ∧ mX0_lostEnds.2.1.cls = cn mX0_lostEnds.1 ∧ plainName mX0_lostEnds.2.1.cls = true := by decide +kernel
set_option maxRecDepth 100000 in
theorem md_X0_make : (mX0_make.2.1.cls ≠ "java/lang/invoke/MethodHandle" ∧ mX0_make.2.1.cls ≠ "java/lang/invoke/VarHandle" ∧ (parseMethodDescriptor mX0_make.2.1.desc).map (fun d => d.parameters.length) = some 3) ∧ mX0_make.2.1.cls = cn mX0_make.1 ∧ plainName mX0_make.2.1.cls = true := by decide +kernel
set_option maxRecDepth 100000 in
theorem md_X0_place : (mX0_place.2.1.cls ≠ "java/lang/invoke/MethodHandle" ∧ mX0_place.2.1.cls ≠ "java/lang/invoke/VarHandle" ∧ (parseMethodDescriptor mX0_place.2.1.desc).map (fun d => d.parameters.length) = some 2) ∧ mX0_place.2.1.cls = cn mX0_place.1 ∧ plainName mX0_place.2.1.cls = true := by decide +kernel
set_option maxRecDepth 100000 in
theorem md_X0_seams : (mX0_seams.2.1.cls ≠ "java/lang/invoke/MethodHandle" ∧ mX0_seams.2.1.cls ≠ "java/lang/invoke/VarHandle" ∧ (parseMethodDescriptor mX0_seams.2.1.desc).map (fun d => d.parameters.length) = some 0) ∧ mX0_seams.2.1.cls = cn mX0_seams.1 ∧ plainName mX0_seams.2.1.cls = true := by decide +kernel
set_option maxRecDepth 100000 in
theorem md_X0_secondsAnew : (mX0_secondsAnew.2.1.cls ≠ "java/lang/invoke/MethodHandle" ∧ mX0_secondsAnew.2.1.cls ≠ "java/lang/invoke/VarHandle" ∧ (parseMethodDescriptor mX0_secondsAnew.2.1.desc).map (fun d => d.parameters.length) = some 1) ∧ mX0_secondsAnew.2.1.cls = cn mX0_secondsAnew.1 ∧ plainName mX0_secondsAnew.2.1.cls = true := by decide +kernel
set_option maxRecDepth 100000 in
theorem md_X0_secondsAnewOf : (mX0_secondsAnewOf.2.1.cls ≠ "java/lang/invoke/MethodHandle" ∧ mX0_secondsAnewOf.2.1.cls ≠ "java/lang/invoke/VarHandle" ∧ (parseMethodDescriptor mX0_secondsAnewOf.2.1.desc).map (fun d => d.parameters.length) = some 2) ∧ mX0_secondsAnewOf.2.1.cls = cn mX0_secondsAnewOf.1 ∧ plainName mX0_secondsAnewOf.2.1.cls = true := by decide +kernel
set_option maxRecDepth 100000 in
theorem md_X0_threadAnew : (mX0_threadAnew.2.1.cls ≠ "java/lang/invoke/MethodHandle" ∧ mX0_threadAnew.2.1.cls ≠ "java/lang/invoke/VarHandle" ∧ (parseMethodDescriptor mX0_threadAnew.2.1.desc).map (fun d => d.parameters.length) = some 0) ∧ mX0_threadAnew.2.1.cls = cn mX0_threadAnew.1 ∧ plainName mX0_threadAnew.2.1.cls = true := by decide +kernel
set_option maxRecDepth 100000 in
theorem md_X0_threadSeconds : (mX0_threadSeconds.2.1.cls ≠ "java/lang/invoke/MethodHandle" ∧ mX0_threadSeconds.2.1.cls ≠ "java/lang/invoke/VarHandle" ∧ (parseMethodDescriptor mX0_threadSeconds.2.1.desc).map (fun d => d.parameters.length) = some 1) ∧ mX0_threadSeconds.2.1.cls = cn mX0_threadSeconds.1 ∧ plainName mX0_threadSeconds.2.1.cls = true := by decide +kernel
set_option maxRecDepth 100000 in
theorem md_X0_washDraw : (mX0_washDraw.2.1.cls ≠ "java/lang/invoke/MethodHandle" ∧ mX0_washDraw.2.1.cls ≠ "java/lang/invoke/VarHandle" ∧ (parseMethodDescriptor mX0_washDraw.2.1.desc).map (fun d => d.parameters.length) = some 1) ∧ mX0_washDraw.2.1.cls = cn mX0_washDraw.1 ∧ plainName mX0_washDraw.2.1.cls = true := by decide +kernel
set_option maxRecDepth 100000 in
theorem md_X0_washOnce : (mX0_washOnce.2.1.cls ≠ "java/lang/invoke/MethodHandle" ∧ mX0_washOnce.2.1.cls ≠ "java/lang/invoke/VarHandle" ∧ (parseMethodDescriptor mX0_washOnce.2.1.desc).map (fun d => d.parameters.length) = some 0) ∧ mX0_washOnce.2.1.cls = cn mX0_washOnce.1 ∧ plainName mX0_washOnce.2.1.cls = true := by decide +kernel
set_option maxRecDepth 100000 in
theorem md_X0_washTimes : (mX0_washTimes.2.1.cls ≠ "java/lang/invoke/MethodHandle" ∧ mX0_washTimes.2.1.cls ≠ "java/lang/invoke/VarHandle" ∧ (parseMethodDescriptor mX0_washTimes.2.1.desc).map (fun d => d.parameters.length) = some 1) ∧ mX0_washTimes.2.1.cls = cn mX0_washTimes.1 ∧ plainName mX0_washTimes.2.1.cls = true := by decide +kernel
set_option maxRecDepth 100000 in
theorem md_X1_bunchMove : (mX1_bunchMove.2.1.cls ≠ "java/lang/invoke/MethodHandle" ∧ mX1_bunchMove.2.1.cls ≠ "java/lang/invoke/VarHandle" ∧ (parseMethodDescriptor mX1_bunchMove.2.1.desc).map (fun d => d.parameters.length) = some 1) ∧ mX1_bunchMove.2.1.cls = cn mX1_bunchMove.1 ∧ plainName mX1_bunchMove.2.1.cls = true := by decide +kernel
set_option maxRecDepth 100000 in
theorem md_X1_bunchSeconds : (mX1_bunchSeconds.2.1.cls ≠ "java/lang/invoke/MethodHandle" ∧ mX1_bunchSeconds.2.1.cls ≠ "java/lang/invoke/VarHandle" ∧ (parseMethodDescriptor mX1_bunchSeconds.2.1.desc).map (fun d => d.parameters.length) = some 2) ∧ mX1_bunchSeconds.2.1.cls = cn mX1_bunchSeconds.1 ∧ plainName mX1_bunchSeconds.2.1.cls = true := by decide +kernel
set_option maxRecDepth 100000 in
theorem md_X1_isSeam : (mX1_isSeam.2.1.cls ≠ "java/lang/invoke/MethodHandle" ∧ mX1_isSeam.2.1.cls ≠ "java/lang/invoke/VarHandle" ∧ (parseMethodDescriptor mX1_isSeam.2.1.desc).map (fun d => d.parameters.length) = some 1) ∧ mX1_isSeam.2.1.cls = cn mX1_isSeam.1 ∧ plainName mX1_isSeam.2.1.cls = true := by decide +kernel
set_option maxRecDepth 100000 in
theorem md_X1_isSign : (mX1_isSign.2.1.cls ≠ "java/lang/invoke/MethodHandle" ∧ mX1_isSign.2.1.cls ≠ "java/lang/invoke/VarHandle" ∧ (parseMethodDescriptor mX1_isSign.2.1.desc).map (fun d => d.parameters.length) = some 1) ∧ mX1_isSign.2.1.cls = cn mX1_isSign.1 ∧ plainName mX1_isSign.2.1.cls = true := by decide +kernel
set_option maxRecDepth 100000 in
theorem md_X1_ofSign : (mX1_ofSign.2.1.cls ≠ "java/lang/invoke/MethodHandle" ∧ mX1_ofSign.2.1.cls ≠ "java/lang/invoke/VarHandle" ∧ (parseMethodDescriptor mX1_ofSign.2.1.desc).map (fun d => d.parameters.length) = some 1) ∧ mX1_ofSign.2.1.cls = cn mX1_ofSign.1 ∧ plainName mX1_ofSign.2.1.cls = true := by decide +kernel
set_option maxRecDepth 100000 in
theorem md_X1_threadSeconds : (mX1_threadSeconds.2.1.cls ≠ "java/lang/invoke/MethodHandle" ∧ mX1_threadSeconds.2.1.cls ≠ "java/lang/invoke/VarHandle" ∧ (parseMethodDescriptor mX1_threadSeconds.2.1.desc).map (fun d => d.parameters.length) = some 2) ∧ mX1_threadSeconds.2.1.cls = cn mX1_threadSeconds.1 ∧ plainName mX1_threadSeconds.2.1.cls = true := by decide +kernel
set_option maxRecDepth 100000 in
theorem md_X1_washDraw : (mX1_washDraw.2.1.cls ≠ "java/lang/invoke/MethodHandle" ∧ mX1_washDraw.2.1.cls ≠ "java/lang/invoke/VarHandle" ∧ (parseMethodDescriptor mX1_washDraw.2.1.desc).map (fun d => d.parameters.length) = some 2) ∧ mX1_washDraw.2.1.cls = cn mX1_washDraw.1 ∧ plainName mX1_washDraw.2.1.cls = true := by decide +kernel
set_option maxRecDepth 100000 in
theorem md_X2_add : (mX2_add.2.1.cls ≠ "java/lang/invoke/MethodHandle" ∧ mX2_add.2.1.cls ≠ "java/lang/invoke/VarHandle" ∧ (parseMethodDescriptor mX2_add.2.1.desc).map (fun d => d.parameters.length) = some 1) ∧ mX2_add.2.1.cls = cn mX2_add.1 ∧ plainName mX2_add.2.1.cls = true := by decide +kernel
set_option maxRecDepth 100000 in
theorem md_X2_clear : (mX2_clear.2.1.cls ≠ "java/lang/invoke/MethodHandle" ∧ mX2_clear.2.1.cls ≠ "java/lang/invoke/VarHandle" ∧ (parseMethodDescriptor mX2_clear.2.1.desc).map (fun d => d.parameters.length) = some 0) ∧ mX2_clear.2.1.cls = cn mX2_clear.1 ∧ plainName mX2_clear.2.1.cls = true := by decide +kernel
set_option maxRecDepth 100000 in
theorem md_X2_digit : (mX2_digit.2.1.cls ≠ "java/lang/invoke/MethodHandle" ∧ mX2_digit.2.1.cls ≠ "java/lang/invoke/VarHandle" ∧ (parseMethodDescriptor mX2_digit.2.1.desc).map (fun d => d.parameters.length) = some 1) ∧ mX2_digit.2.1.cls = cn mX2_digit.1 ∧ plainName mX2_digit.2.1.cls = true := by decide +kernel
set_option maxRecDepth 100000 in
theorem md_X2_firstUnfit : (mX2_firstUnfit.2.1.cls ≠ "java/lang/invoke/MethodHandle" ∧ mX2_firstUnfit.2.1.cls ≠ "java/lang/invoke/VarHandle" ∧ (parseMethodDescriptor mX2_firstUnfit.2.1.desc).map (fun d => d.parameters.length) = some 0) ∧ mX2_firstUnfit.2.1.cls = cn mX2_firstUnfit.1 ∧ plainName mX2_firstUnfit.2.1.cls = true := by decide +kernel
set_option maxRecDepth 100000 in
theorem md_X2_fits : (mX2_fits.2.1.cls ≠ "java/lang/invoke/MethodHandle" ∧ mX2_fits.2.1.cls ≠ "java/lang/invoke/VarHandle" ∧ (parseMethodDescriptor mX2_fits.2.1.desc).map (fun d => d.parameters.length) = some 2) ∧ mX2_fits.2.1.cls = cn mX2_fits.1 ∧ plainName mX2_fits.2.1.cls = true := by decide +kernel
set_option maxRecDepth 100000 in
theorem md_X2_formBehind : (mX2_formBehind.2.1.cls ≠ "java/lang/invoke/MethodHandle" ∧ mX2_formBehind.2.1.cls ≠ "java/lang/invoke/VarHandle" ∧ (parseMethodDescriptor mX2_formBehind.2.1.desc).map (fun d => d.parameters.length) = some 1) ∧ mX2_formBehind.2.1.cls = cn mX2_formBehind.1 ∧ plainName mX2_formBehind.2.1.cls = true := by decide +kernel
set_option maxRecDepth 100000 in
theorem md_X2_isFull : (mX2_isFull.2.1.cls ≠ "java/lang/invoke/MethodHandle" ∧ mX2_isFull.2.1.cls ≠ "java/lang/invoke/VarHandle" ∧ (parseMethodDescriptor mX2_isFull.2.1.desc).map (fun d => d.parameters.length) = some 0) ∧ mX2_isFull.2.1.cls = cn mX2_isFull.1 ∧ plainName mX2_isFull.2.1.cls = true := by decide +kernel
set_option maxRecDepth 100000 in
theorem md_X2_lengthBehind : (mX2_lengthBehind.2.1.cls ≠ "java/lang/invoke/MethodHandle" ∧ mX2_lengthBehind.2.1.cls ≠ "java/lang/invoke/VarHandle" ∧ (parseMethodDescriptor mX2_lengthBehind.2.1.desc).map (fun d => d.parameters.length) = some 1) ∧ mX2_lengthBehind.2.1.cls = cn mX2_lengthBehind.1 ∧ plainName mX2_lengthBehind.2.1.cls = true := by decide +kernel
set_option maxRecDepth 100000 in
theorem md_X2_number : (mX2_number.2.1.cls ≠ "java/lang/invoke/MethodHandle" ∧ mX2_number.2.1.cls ≠ "java/lang/invoke/VarHandle" ∧ (parseMethodDescriptor mX2_number.2.1.desc).map (fun d => d.parameters.length) = some 1) ∧ mX2_number.2.1.cls = cn mX2_number.1 ∧ plainName mX2_number.2.1.cls = true := by decide +kernel
set_option maxRecDepth 100000 in
theorem md_X2_signAt : (mX2_signAt.2.1.cls ≠ "java/lang/invoke/MethodHandle" ∧ mX2_signAt.2.1.cls ≠ "java/lang/invoke/VarHandle" ∧ (parseMethodDescriptor mX2_signAt.2.1.desc).map (fun d => d.parameters.length) = some 1) ∧ mX2_signAt.2.1.cls = cn mX2_signAt.1 ∧ plainName mX2_signAt.2.1.cls = true := by decide +kernel
set_option maxRecDepth 100000 in
theorem md_X2_signed : (mX2_signed.2.1.cls ≠ "java/lang/invoke/MethodHandle" ∧ mX2_signed.2.1.cls ≠ "java/lang/invoke/VarHandle" ∧ (parseMethodDescriptor mX2_signed.2.1.desc).map (fun d => d.parameters.length) = some 1) ∧ mX2_signed.2.1.cls = cn mX2_signed.1 ∧ plainName mX2_signed.2.1.cls = true := by decide +kernel
set_option maxRecDepth 100000 in
theorem md_X3_goOn : (mX3_goOn.2.1.cls ≠ "java/lang/invoke/MethodHandle" ∧ mX3_goOn.2.1.cls ≠ "java/lang/invoke/VarHandle" ∧ (parseMethodDescriptor mX3_goOn.2.1.desc).map (fun d => d.parameters.length) = some 3) ∧ mX3_goOn.2.1.cls = cn mX3_goOn.1 ∧ plainName mX3_goOn.2.1.cls = true := by decide +kernel
set_option maxRecDepth 100000 in
theorem md_X3_mend : (mX3_mend.2.1.cls ≠ "java/lang/invoke/MethodHandle" ∧ mX3_mend.2.1.cls ≠ "java/lang/invoke/VarHandle" ∧ (parseMethodDescriptor mX3_mend.2.1.desc).map (fun d => d.parameters.length) = some 4) ∧ mX3_mend.2.1.cls = cn mX3_mend.1 ∧ plainName mX3_mend.2.1.cls = true := by decide +kernel
set_option maxRecDepth 100000 in
theorem md_X4_add : (mX4_add.2.1.cls ≠ "java/lang/invoke/MethodHandle" ∧ mX4_add.2.1.cls ≠ "java/lang/invoke/VarHandle" ∧ (parseMethodDescriptor mX4_add.2.1.desc).map (fun d => d.parameters.length) = some 1) ∧ mX4_add.2.1.cls = cn mX4_add.1 ∧ plainName mX4_add.2.1.cls = true := by decide +kernel
set_option maxRecDepth 100000 in
theorem md_X4_clear : (mX4_clear.2.1.cls ≠ "java/lang/invoke/MethodHandle" ∧ mX4_clear.2.1.cls ≠ "java/lang/invoke/VarHandle" ∧ (parseMethodDescriptor mX4_clear.2.1.desc).map (fun d => d.parameters.length) = some 0) ∧ mX4_clear.2.1.cls = cn mX4_clear.1 ∧ plainName mX4_clear.2.1.cls = true := by decide +kernel
set_option maxRecDepth 100000 in
theorem md_X4_firstNotSo : (mX4_firstNotSo.2.1.cls ≠ "java/lang/invoke/MethodHandle" ∧ mX4_firstNotSo.2.1.cls ≠ "java/lang/invoke/VarHandle" ∧ (parseMethodDescriptor mX4_firstNotSo.2.1.desc).map (fun d => d.parameters.length) = some 2) ∧ mX4_firstNotSo.2.1.cls = cn mX4_firstNotSo.1 ∧ plainName mX4_firstNotSo.2.1.cls = true := by decide +kernel
set_option maxRecDepth 100000 in
theorem md_X4_isFull : (mX4_isFull.2.1.cls ≠ "java/lang/invoke/MethodHandle" ∧ mX4_isFull.2.1.cls ≠ "java/lang/invoke/VarHandle" ∧ (parseMethodDescriptor mX4_isFull.2.1.desc).map (fun d => d.parameters.length) = some 0) ∧ mX4_isFull.2.1.cls = cn mX4_isFull.1 ∧ plainName mX4_isFull.2.1.cls = true := by decide +kernel
set_option maxRecDepth 100000 in
theorem md_X5_isAWay : (mX5_isAWay.2.1.cls ≠ "java/lang/invoke/MethodHandle" ∧ mX5_isAWay.2.1.cls ≠ "java/lang/invoke/VarHandle" ∧ (parseMethodDescriptor mX5_isAWay.2.1.desc).map (fun d => d.parameters.length) = some 0) ∧ mX5_isAWay.2.1.cls = cn mX5_isAWay.1 ∧ plainName mX5_isAWay.2.1.cls = true := by decide +kernel
set_option maxRecDepth 100000 in
theorem md_X5_measure : (mX5_measure.2.1.cls ≠ "java/lang/invoke/MethodHandle" ∧ mX5_measure.2.1.cls ≠ "java/lang/invoke/VarHandle" ∧ (parseMethodDescriptor mX5_measure.2.1.desc).map (fun d => d.parameters.length) = some 3) ∧ mX5_measure.2.1.cls = cn mX5_measure.1 ∧ plainName mX5_measure.2.1.cls = true := by decide +kernel
set_option maxRecDepth 100000 in
theorem md_X5_neverIsOut : (mX5_neverIsOut.2.1.cls ≠ "java/lang/invoke/MethodHandle" ∧ mX5_neverIsOut.2.1.cls ≠ "java/lang/invoke/VarHandle" ∧ (parseMethodDescriptor mX5_neverIsOut.2.1.desc).map (fun d => d.parameters.length) = some 0) ∧ mX5_neverIsOut.2.1.cls = cn mX5_neverIsOut.1 ∧ plainName mX5_neverIsOut.2.1.cls = true := by decide +kernel
set_option maxRecDepth 100000 in
theorem md_X5_rank : (mX5_rank.2.1.cls ≠ "java/lang/invoke/MethodHandle" ∧ mX5_rank.2.1.cls ≠ "java/lang/invoke/VarHandle" ∧ (parseMethodDescriptor mX5_rank.2.1.desc).map (fun d => d.parameters.length) = some 0) ∧ mX5_rank.2.1.cls = cn mX5_rank.1 ∧ plainName mX5_rank.2.1.cls = true := by decide +kernel
set_option maxRecDepth 100000 in
theorem md_X5_secondsOfAll : (mX5_secondsOfAll.2.1.cls ≠ "java/lang/invoke/MethodHandle" ∧ mX5_secondsOfAll.2.1.cls ≠ "java/lang/invoke/VarHandle" ∧ (parseMethodDescriptor mX5_secondsOfAll.2.1.desc).map (fun d => d.parameters.length) = some 1) ∧ mX5_secondsOfAll.2.1.cls = cn mX5_secondsOfAll.1 ∧ plainName mX5_secondsOfAll.2.1.cls = true := by decide +kernel
set_option maxRecDepth 100000 in
theorem md_X6_anew : (mX6_anew.2.1.cls ≠ "java/lang/invoke/MethodHandle" ∧ mX6_anew.2.1.cls ≠ "java/lang/invoke/VarHandle" ∧ (parseMethodDescriptor mX6_anew.2.1.desc).map (fun d => d.parameters.length) = some 0) ∧ mX6_anew.2.1.cls = cn mX6_anew.1 ∧ plainName mX6_anew.2.1.cls = true := by decide +kernel
set_option maxRecDepth 100000 in
theorem md_X6_bestPin : (mX6_bestPin.2.1.cls ≠ "java/lang/invoke/MethodHandle" ∧ mX6_bestPin.2.1.cls ≠ "java/lang/invoke/VarHandle" ∧ (parseMethodDescriptor mX6_bestPin.2.1.desc).map (fun d => d.parameters.length) = some 1) ∧ mX6_bestPin.2.1.cls = cn mX6_bestPin.1 ∧ plainName mX6_bestPin.2.1.cls = true := by decide +kernel
set_option maxRecDepth 100000 in
theorem md_X6_better : (mX6_better.2.1.cls ≠ "java/lang/invoke/MethodHandle" ∧ mX6_better.2.1.cls ≠ "java/lang/invoke/VarHandle" ∧ (parseMethodDescriptor mX6_better.2.1.desc).map (fun d => d.parameters.length) = some 1) ∧ mX6_better.2.1.cls = cn mX6_better.1 ∧ plainName mX6_better.2.1.cls = true := by decide +kernel
set_option maxRecDepth 100000 in
theorem md_X6_bunch : (mX6_bunch.2.1.cls ≠ "java/lang/invoke/MethodHandle" ∧ mX6_bunch.2.1.cls ≠ "java/lang/invoke/VarHandle" ∧ (parseMethodDescriptor mX6_bunch.2.1.desc).map (fun d => d.parameters.length) = some 1) ∧ mX6_bunch.2.1.cls = cn mX6_bunch.1 ∧ plainName mX6_bunch.2.1.cls = true := by decide +kernel
set_option maxRecDepth 100000 in
theorem md_X6_care : (mX6_care.2.1.cls ≠ "java/lang/invoke/MethodHandle" ∧ mX6_care.2.1.cls ≠ "java/lang/invoke/VarHandle" ∧ (parseMethodDescriptor mX6_care.2.1.desc).map (fun d => d.parameters.length) = some 1) ∧ mX6_care.2.1.cls = cn mX6_care.1 ∧ plainName mX6_care.2.1.cls = true := by decide +kernel
set_option maxRecDepth 100000 in
theorem md_X6_comes : (mX6_comes.2.1.cls ≠ "java/lang/invoke/MethodHandle" ∧ mX6_comes.2.1.cls ≠ "java/lang/invoke/VarHandle" ∧ (parseMethodDescriptor mX6_comes.2.1.desc).map (fun d => d.parameters.length) = some 1) ∧ mX6_comes.2.1.cls = cn mX6_comes.1 ∧ plainName mX6_comes.2.1.cls = true := by decide +kernel
set_option maxRecDepth 100000 in
theorem md_X6_count : (mX6_count.2.1.cls ≠ "java/lang/invoke/MethodHandle" ∧ mX6_count.2.1.cls ≠ "java/lang/invoke/VarHandle" ∧ (parseMethodDescriptor mX6_count.2.1.desc).map (fun d => d.parameters.length) = some 1) ∧ mX6_count.2.1.cls = cn mX6_count.1 ∧ plainName mX6_count.2.1.cls = true := by decide +kernel
set_option maxRecDepth 100000 in
theorem md_X6_cutOff : (mX6_cutOff.2.1.cls ≠ "java/lang/invoke/MethodHandle" ∧ mX6_cutOff.2.1.cls ≠ "java/lang/invoke/VarHandle" ∧ (parseMethodDescriptor mX6_cutOff.2.1.desc).map (fun d => d.parameters.length) = some 0) ∧ mX6_cutOff.2.1.cls = cn mX6_cutOff.1 ∧ plainName mX6_cutOff.2.1.cls = true := by decide +kernel
set_option maxRecDepth 100000 in
theorem md_X6_deep : (mX6_deep.2.1.cls ≠ "java/lang/invoke/MethodHandle" ∧ mX6_deep.2.1.cls ≠ "java/lang/invoke/VarHandle" ∧ (parseMethodDescriptor mX6_deep.2.1.desc).map (fun d => d.parameters.length) = some 2) ∧ mX6_deep.2.1.cls = cn mX6_deep.1 ∧ plainName mX6_deep.2.1.cls = true := by decide +kernel
set_option maxRecDepth 100000 in
theorem md_X6_end : (mX6_end.2.1.cls ≠ "java/lang/invoke/MethodHandle" ∧ mX6_end.2.1.cls ≠ "java/lang/invoke/VarHandle" ∧ (parseMethodDescriptor mX6_end.2.1.desc).map (fun d => d.parameters.length) = some 2) ∧ mX6_end.2.1.cls = cn mX6_end.1 ∧ plainName mX6_end.2.1.cls = true := by decide +kernel
set_option maxRecDepth 100000 in
theorem md_X6_hem : (mX6_hem.2.1.cls ≠ "java/lang/invoke/MethodHandle" ∧ mX6_hem.2.1.cls ≠ "java/lang/invoke/VarHandle" ∧ (parseMethodDescriptor mX6_hem.2.1.desc).map (fun d => d.parameters.length) = some 0) ∧ mX6_hem.2.1.cls = cn mX6_hem.1 ∧ plainName mX6_hem.2.1.cls = true := by decide +kernel
set_option maxRecDepth 100000 in
theorem md_X6_holdsUp : (mX6_holdsUp.2.1.cls ≠ "java/lang/invoke/MethodHandle" ∧ mX6_holdsUp.2.1.cls ≠ "java/lang/invoke/VarHandle" ∧ (parseMethodDescriptor mX6_holdsUp.2.1.desc).map (fun d => d.parameters.length) = some 1) ∧ mX6_holdsUp.2.1.cls = cn mX6_holdsUp.1 ∧ plainName mX6_holdsUp.2.1.cls = true := by decide +kernel
set_option maxRecDepth 100000 in
theorem md_X6_image : (mX6_image.2.1.cls ≠ "java/lang/invoke/MethodHandle" ∧ mX6_image.2.1.cls ≠ "java/lang/invoke/VarHandle" ∧ (parseMethodDescriptor mX6_image.2.1.desc).map (fun d => d.parameters.length) = some 0) ∧ mX6_image.2.1.cls = cn mX6_image.1 ∧ plainName mX6_image.2.1.cls = true := by decide +kernel
set_option maxRecDepth 100000 in
theorem md_X6_inIn : (mX6_inIn.2.1.cls ≠ "java/lang/invoke/MethodHandle" ∧ mX6_inIn.2.1.cls ≠ "java/lang/invoke/VarHandle" ∧ (parseMethodDescriptor mX6_inIn.2.1.desc).map (fun d => d.parameters.length) = some 2) ∧ mX6_inIn.2.1.cls = cn mX6_inIn.1 ∧ plainName mX6_inIn.2.1.cls = true := by decide +kernel
set_option maxRecDepth 100000 in
theorem md_X6_inch : (mX6_inch.2.1.cls ≠ "java/lang/invoke/MethodHandle" ∧ mX6_inch.2.1.cls ≠ "java/lang/invoke/VarHandle" ∧ (parseMethodDescriptor mX6_inch.2.1.desc).map (fun d => d.parameters.length) = some 2) ∧ mX6_inch.2.1.cls = cn mX6_inch.1 ∧ plainName mX6_inch.2.1.cls = true := by decide +kernel
set_option maxRecDepth 100000 in
theorem md_X6_inches : (mX6_inches.2.1.cls ≠ "java/lang/invoke/MethodHandle" ∧ mX6_inches.2.1.cls ≠ "java/lang/invoke/VarHandle" ∧ (parseMethodDescriptor mX6_inches.2.1.desc).map (fun d => d.parameters.length) = some 1) ∧ mX6_inches.2.1.cls = cn mX6_inches.1 ∧ plainName mX6_inches.2.1.cls = true := by decide +kernel
set_option maxRecDepth 100000 in
theorem md_X6_isAsItMustBe : (mX6_isAsItMustBe.2.1.cls ≠ "java/lang/invoke/MethodHandle" ∧ mX6_isAsItMustBe.2.1.cls ≠ "java/lang/invoke/VarHandle" ∧ (parseMethodDescriptor mX6_isAsItMustBe.2.1.desc).map (fun d => d.parameters.length) = some 1) ∧ mX6_isAsItMustBe.2.1.cls = cn mX6_isAsItMustBe.1 ∧ plainName mX6_isAsItMustBe.2.1.cls = true := by decide +kernel
set_option maxRecDepth 100000 in
theorem md_X6_isEnd : (mX6_isEnd.2.1.cls ≠ "java/lang/invoke/MethodHandle" ∧ mX6_isEnd.2.1.cls ≠ "java/lang/invoke/VarHandle" ∧ (parseMethodDescriptor mX6_isEnd.2.1.desc).map (fun d => d.parameters.length) = some 1) ∧ mX6_isEnd.2.1.cls = cn mX6_isEnd.1 ∧ plainName mX6_isEnd.2.1.cls = true := by decide +kernel
set_option maxRecDepth 100000 in
theorem md_X6_judge : (mX6_judge.2.1.cls ≠ "java/lang/invoke/MethodHandle" ∧ mX6_judge.2.1.cls ≠ "java/lang/invoke/VarHandle" ∧ (parseMethodDescriptor mX6_judge.2.1.desc).map (fun d => d.parameters.length) = some 1) ∧ mX6_judge.2.1.cls = cn mX6_judge.1 ∧ plainName mX6_judge.2.1.cls = true := by decide +kernel
set_option maxRecDepth 100000 in
theorem md_X6_keep : (mX6_keep.2.1.cls ≠ "java/lang/invoke/MethodHandle" ∧ mX6_keep.2.1.cls ≠ "java/lang/invoke/VarHandle" ∧ (parseMethodDescriptor mX6_keep.2.1.desc).map (fun d => d.parameters.length) = some 1) ∧ mX6_keep.2.1.cls = cn mX6_keep.1 ∧ plainName mX6_keep.2.1.cls = true := by decide +kernel
set_option maxRecDepth 100000 in
theorem md_X6_kindsByRow : (mX6_kindsByRow.2.1.cls ≠ "java/lang/invoke/MethodHandle" ∧ mX6_kindsByRow.2.1.cls ≠ "java/lang/invoke/VarHandle" ∧ (parseMethodDescriptor mX6_kindsByRow.2.1.desc).map (fun d => d.parameters.length) = some 1) ∧ mX6_kindsByRow.2.1.cls = cn mX6_kindsByRow.1 ∧ plainName mX6_kindsByRow.2.1.cls = true := by decide +kernel
set_option maxRecDepth 100000 in
theorem md_X6_letter : (mX6_letter.2.1.cls ≠ "java/lang/invoke/MethodHandle" ∧ mX6_letter.2.1.cls ≠ "java/lang/invoke/VarHandle" ∧ (parseMethodDescriptor mX6_letter.2.1.desc).map (fun d => d.parameters.length) = some 1) ∧ mX6_letter.2.1.cls = cn mX6_letter.1 ∧ plainName mX6_letter.2.1.cls = true := by decide +kernel
set_option maxRecDepth 100000 in
theorem md_X6_lost : (mX6_lost.2.1.cls ≠ "java/lang/invoke/MethodHandle" ∧ mX6_lost.2.1.cls ≠ "java/lang/invoke/VarHandle" ∧ (parseMethodDescriptor mX6_lost.2.1.desc).map (fun d => d.parameters.length) = some 1) ∧ mX6_lost.2.1.cls = cn mX6_lost.1 ∧ plainName mX6_lost.2.1.cls = true := by decide +kernel
set_option maxRecDepth 100000 in
theorem md_X6_lotSeconds : (mX6_lotSeconds.2.1.cls ≠ "java/lang/invoke/MethodHandle" ∧ mX6_lotSeconds.2.1.cls ≠ "java/lang/invoke/VarHandle" ∧ (parseMethodDescriptor mX6_lotSeconds.2.1.desc).map (fun d => d.parameters.length) = some 1) ∧ mX6_lotSeconds.2.1.cls = cn mX6_lotSeconds.1 ∧ plainName mX6_lotSeconds.2.1.cls = true := by decide +kernel
set_option maxRecDepth 100000 in
theorem md_X6_lots : (mX6_lots.2.1.cls ≠ "java/lang/invoke/MethodHandle" ∧ mX6_lots.2.1.cls ≠ "java/lang/invoke/VarHandle" ∧ (parseMethodDescriptor mX6_lots.2.1.desc).map (fun d => d.parameters.length) = some 3) ∧ mX6_lots.2.1.cls = cn mX6_lots.1 ∧ plainName mX6_lots.2.1.cls = true := by decide +kernel
set_option maxRecDepth 100000 in
theorem md_X6_middle : (mX6_middle.2.1.cls ≠ "java/lang/invoke/MethodHandle" ∧ mX6_middle.2.1.cls ≠ "java/lang/invoke/VarHandle" ∧ (parseMethodDescriptor mX6_middle.2.1.desc).map (fun d => d.parameters.length) = some 0) ∧ mX6_middle.2.1.cls = cn mX6_middle.1 ∧ plainName mX6_middle.2.1.cls = true := by decide +kernel
set_option maxRecDepth 100000 in
theorem md_X6_of : (mX6_of.2.1.cls ≠ "java/lang/invoke/MethodHandle" ∧ mX6_of.2.1.cls ≠ "java/lang/invoke/VarHandle" ∧ (parseMethodDescriptor mX6_of.2.1.desc).map (fun d => d.parameters.length) = some 2) ∧ mX6_of.2.1.cls = cn mX6_of.1 ∧ plainName mX6_of.2.1.cls = true := by decide +kernel
set_option maxRecDepth 100000 in
theorem md_X6_on : (mX6_on.2.1.cls ≠ "java/lang/invoke/MethodHandle" ∧ mX6_on.2.1.cls ≠ "java/lang/invoke/VarHandle" ∧ (parseMethodDescriptor mX6_on.2.1.desc).map (fun d => d.parameters.length) = some 0) ∧ mX6_on.2.1.cls = cn mX6_on.1 ∧ plainName mX6_on.2.1.cls = true := by decide +kernel
set_option maxRecDepth 100000 in
theorem md_X6_out : (mX6_out.2.1.cls ≠ "java/lang/invoke/MethodHandle" ∧ mX6_out.2.1.cls ≠ "java/lang/invoke/VarHandle" ∧ (parseMethodDescriptor mX6_out.2.1.desc).map (fun d => d.parameters.length) = some 2) ∧ mX6_out.2.1.cls = cn mX6_out.1 ∧ plainName mX6_out.2.1.cls = true := by decide +kernel
set_option maxRecDepth 100000 in
theorem md_X6_outside : (mX6_outside.2.1.cls ≠ "java/lang/invoke/MethodHandle" ∧ mX6_outside.2.1.cls ≠ "java/lang/invoke/VarHandle" ∧ (parseMethodDescriptor mX6_outside.2.1.desc).map (fun d => d.parameters.length) = some 3) ∧ mX6_outside.2.1.cls = cn mX6_outside.1 ∧ plainName mX6_outside.2.1.cls = true := by decide +kernel
set_option maxRecDepth 100000 in
theorem md_X6_pull : (mX6_pull.2.1.cls ≠ "java/lang/invoke/MethodHandle" ∧ mX6_pull.2.1.cls ≠ "java/lang/invoke/VarHandle" ∧ (parseMethodDescriptor mX6_pull.2.1.desc).map (fun d => d.parameters.length) = some 2) ∧ mX6_pull.2.1.cls = cn mX6_pull.1 ∧ plainName mX6_pull.2.1.cls = true := by decide +kernel
set_option maxRecDepth 100000 in
theorem md_X6_rankWithCloth : (mX6_rankWithCloth.2.1.cls ≠ "java/lang/invoke/MethodHandle" ∧ mX6_rankWithCloth.2.1.cls ≠ "java/lang/invoke/VarHandle" ∧ (parseMethodDescriptor mX6_rankWithCloth.2.1.desc).map (fun d => d.parameters.length) = some 2) ∧ mX6_rankWithCloth.2.1.cls = cn mX6_rankWithCloth.1 ∧ plainName mX6_rankWithCloth.2.1.cls = true := by decide +kernel
set_option maxRecDepth 100000 in
theorem md_X6_refusalsAt : (mX6_refusalsAt.2.1.cls ≠ "java/lang/invoke/MethodHandle" ∧ mX6_refusalsAt.2.1.cls ≠ "java/lang/invoke/VarHandle" ∧ (parseMethodDescriptor mX6_refusalsAt.2.1.desc).map (fun d => d.parameters.length) = some 1) ∧ mX6_refusalsAt.2.1.cls = cn mX6_refusalsAt.1 ∧ plainName mX6_refusalsAt.2.1.cls = true := by decide +kernel
set_option maxRecDepth 100000 in
theorem md_X6_refuse : (mX6_refuse.2.1.cls ≠ "java/lang/invoke/MethodHandle" ∧ mX6_refuse.2.1.cls ≠ "java/lang/invoke/VarHandle" ∧ (parseMethodDescriptor mX6_refuse.2.1.desc).map (fun d => d.parameters.length) = some 1) ∧ mX6_refuse.2.1.cls = cn mX6_refuse.1 ∧ plainName mX6_refuse.2.1.cls = true := by decide +kernel
set_option maxRecDepth 100000 in
theorem md_X6_refuseAsTold : (mX6_refuseAsTold.2.1.cls ≠ "java/lang/invoke/MethodHandle" ∧ mX6_refuseAsTold.2.1.cls ≠ "java/lang/invoke/VarHandle" ∧ (parseMethodDescriptor mX6_refuseAsTold.2.1.desc).map (fun d => d.parameters.length) = some 1) ∧ mX6_refuseAsTold.2.1.cls = cn mX6_refuseAsTold.1 ∧ plainName mX6_refuseAsTold.2.1.cls = true := by decide +kernel
set_option maxRecDepth 100000 in
theorem md_X6_row : (mX6_row.2.1.cls ≠ "java/lang/invoke/MethodHandle" ∧ mX6_row.2.1.cls ≠ "java/lang/invoke/VarHandle" ∧ (parseMethodDescriptor mX6_row.2.1.desc).map (fun d => d.parameters.length) = some 1) ∧ mX6_row.2.1.cls = cn mX6_row.1 ∧ plainName mX6_row.2.1.cls = true := by decide +kernel
set_option maxRecDepth 100000 in
theorem md_X6_secondsIfLost : (mX6_secondsIfLost.2.1.cls ≠ "java/lang/invoke/MethodHandle" ∧ mX6_secondsIfLost.2.1.cls ≠ "java/lang/invoke/VarHandle" ∧ (parseMethodDescriptor mX6_secondsIfLost.2.1.desc).map (fun d => d.parameters.length) = some 1) ∧ mX6_secondsIfLost.2.1.cls = cn mX6_secondsIfLost.1 ∧ plainName mX6_secondsIfLost.2.1.cls = true := by decide +kernel
set_option maxRecDepth 100000 in
theorem md_X6_secondsWithStop : (mX6_secondsWithStop.2.1.cls ≠ "java/lang/invoke/MethodHandle" ∧ mX6_secondsWithStop.2.1.cls ≠ "java/lang/invoke/VarHandle" ∧ (parseMethodDescriptor mX6_secondsWithStop.2.1.desc).map (fun d => d.parameters.length) = some 2) ∧ mX6_secondsWithStop.2.1.cls = cn mX6_secondsWithStop.1 ∧ plainName mX6_secondsWithStop.2.1.cls = true := by decide +kernel
set_option maxRecDepth 100000 in
theorem md_X6_set : (mX6_set.2.1.cls ≠ "java/lang/invoke/MethodHandle" ∧ mX6_set.2.1.cls ≠ "java/lang/invoke/VarHandle" ∧ (parseMethodDescriptor mX6_set.2.1.desc).map (fun d => d.parameters.length) = some 2) ∧ mX6_set.2.1.cls = cn mX6_set.1 ∧ plainName mX6_set.2.1.cls = true := by decide +kernel
set_option maxRecDepth 100000 in
theorem md_X6_sew : (mX6_sew.2.1.cls ≠ "java/lang/invoke/MethodHandle" ∧ mX6_sew.2.1.cls ≠ "java/lang/invoke/VarHandle" ∧ (parseMethodDescriptor mX6_sew.2.1.desc).map (fun d => d.parameters.length) = some 0) ∧ mX6_sew.2.1.cls = cn mX6_sew.1 ∧ plainName mX6_sew.2.1.cls = true := by decide +kernel
set_option maxRecDepth 100000 in
theorem md_X6_soonest : (mX6_soonest.2.1.cls ≠ "java/lang/invoke/MethodHandle" ∧ mX6_soonest.2.1.cls ≠ "java/lang/invoke/VarHandle" ∧ (parseMethodDescriptor mX6_soonest.2.1.desc).map (fun d => d.parameters.length) = some 0) ∧ mX6_soonest.2.1.cls = cn mX6_soonest.1 ∧ plainName mX6_soonest.2.1.cls = true := by decide +kernel
set_option maxRecDepth 100000 in
theorem md_X6_statementsCome : (mX6_statementsCome.2.1.cls ≠ "java/lang/invoke/MethodHandle" ∧ mX6_statementsCome.2.1.cls ≠ "java/lang/invoke/VarHandle" ∧ (parseMethodDescriptor mX6_statementsCome.2.1.desc).map (fun d => d.parameters.length) = some 0) ∧ mX6_statementsCome.2.1.cls = cn mX6_statementsCome.1 ∧ plainName mX6_statementsCome.2.1.cls = true := by decide +kernel
set_option maxRecDepth 100000 in
theorem md_X6_still : (mX6_still.2.1.cls ≠ "java/lang/invoke/MethodHandle" ∧ mX6_still.2.1.cls ≠ "java/lang/invoke/VarHandle" ∧ (parseMethodDescriptor mX6_still.2.1.desc).map (fun d => d.parameters.length) = some 0) ∧ mX6_still.2.1.cls = cn mX6_still.1 ∧ plainName mX6_still.2.1.cls = true := by decide +kernel
set_option maxRecDepth 100000 in
theorem md_X6_stops : (mX6_stops.2.1.cls ≠ "java/lang/invoke/MethodHandle" ∧ mX6_stops.2.1.cls ≠ "java/lang/invoke/VarHandle" ∧ (parseMethodDescriptor mX6_stops.2.1.desc).map (fun d => d.parameters.length) = some 2) ∧ mX6_stops.2.1.cls = cn mX6_stops.1 ∧ plainName mX6_stops.2.1.cls = true := by decide +kernel
set_option maxRecDepth 100000 in
theorem md_X6_strengthsByRow : (mX6_strengthsByRow.2.1.cls ≠ "java/lang/invoke/MethodHandle" ∧ mX6_strengthsByRow.2.1.cls ≠ "java/lang/invoke/VarHandle" ∧ (parseMethodDescriptor mX6_strengthsByRow.2.1.desc).map (fun d => d.parameters.length) = some 0) ∧ mX6_strengthsByRow.2.1.cls = cn mX6_strengthsByRow.1 ∧ plainName mX6_strengthsByRow.2.1.cls = true := by decide +kernel
set_option maxRecDepth 100000 in
theorem md_X6_tie : (mX6_tie.2.1.cls ≠ "java/lang/invoke/MethodHandle" ∧ mX6_tie.2.1.cls ≠ "java/lang/invoke/VarHandle" ∧ (parseMethodDescriptor mX6_tie.2.1.desc).map (fun d => d.parameters.length) = some 1) ∧ mX6_tie.2.1.cls = cn mX6_tie.1 ∧ plainName mX6_tie.2.1.cls = true := by decide +kernel
set_option maxRecDepth 100000 in
theorem md_X6_turn : (mX6_turn.2.1.cls ≠ "java/lang/invoke/MethodHandle" ∧ mX6_turn.2.1.cls ≠ "java/lang/invoke/VarHandle" ∧ (parseMethodDescriptor mX6_turn.2.1.desc).map (fun d => d.parameters.length) = some 3) ∧ mX6_turn.2.1.cls = cn mX6_turn.1 ∧ plainName mX6_turn.2.1.cls = true := by decide +kernel
set_option maxRecDepth 100000 in
theorem md_X6_wash : (mX6_wash.2.1.cls ≠ "java/lang/invoke/MethodHandle" ∧ mX6_wash.2.1.cls ≠ "java/lang/invoke/VarHandle" ∧ (parseMethodDescriptor mX6_wash.2.1.desc).map (fun d => d.parameters.length) = some 1) ∧ mX6_wash.2.1.cls = cn mX6_wash.1 ∧ plainName mX6_wash.2.1.cls = true := by decide +kernel
set_option maxRecDepth 100000 in
theorem md_X6_washesTillLost : (mX6_washesTillLost.2.1.cls ≠ "java/lang/invoke/MethodHandle" ∧ mX6_washesTillLost.2.1.cls ≠ "java/lang/invoke/VarHandle" ∧ (parseMethodDescriptor mX6_washesTillLost.2.1.desc).map (fun d => d.parameters.length) = some 0) ∧ mX6_washesTillLost.2.1.cls = cn mX6_washesTillLost.1 ∧ plainName mX6_washesTillLost.2.1.cls = true := by decide +kernel
set_option maxRecDepth 100000 in
theorem md_X6_which : (mX6_which.2.1.cls ≠ "java/lang/invoke/MethodHandle" ∧ mX6_which.2.1.cls ≠ "java/lang/invoke/VarHandle" ∧ (parseMethodDescriptor mX6_which.2.1.desc).map (fun d => d.parameters.length) = some 2) ∧ mX6_which.2.1.cls = cn mX6_which.1 ∧ plainName mX6_which.2.1.cls = true := by decide +kernel
set_option maxRecDepth 100000 in
theorem md_X6_worst : (mX6_worst.2.1.cls ≠ "java/lang/invoke/MethodHandle" ∧ mX6_worst.2.1.cls ≠ "java/lang/invoke/VarHandle" ∧ (parseMethodDescriptor mX6_worst.2.1.desc).map (fun d => d.parameters.length) = some 0) ∧ mX6_worst.2.1.cls = cn mX6_worst.1 ∧ plainName mX6_worst.2.1.cls = true := by decide +kernel
set_option maxRecDepth 100000 in
theorem md_X7_allSeconds : (mX7_allSeconds.2.1.cls ≠ "java/lang/invoke/MethodHandle" ∧ mX7_allSeconds.2.1.cls ≠ "java/lang/invoke/VarHandle" ∧ (parseMethodDescriptor mX7_allSeconds.2.1.desc).map (fun d => d.parameters.length) = some 1) ∧ mX7_allSeconds.2.1.cls = cn mX7_allSeconds.1 ∧ plainName mX7_allSeconds.2.1.cls = true := by decide +kernel
set_option maxRecDepth 100000 in
theorem md_X7_anew : (mX7_anew.2.1.cls ≠ "java/lang/invoke/MethodHandle" ∧ mX7_anew.2.1.cls ≠ "java/lang/invoke/VarHandle" ∧ (parseMethodDescriptor mX7_anew.2.1.desc).map (fun d => d.parameters.length) = some 0) ∧ mX7_anew.2.1.cls = cn mX7_anew.1 ∧ plainName mX7_anew.2.1.cls = true := by decide +kernel
set_option maxRecDepth 100000 in
theorem md_X7_anewSeconds : (mX7_anewSeconds.2.1.cls ≠ "java/lang/invoke/MethodHandle" ∧ mX7_anewSeconds.2.1.cls ≠ "java/lang/invoke/VarHandle" ∧ (parseMethodDescriptor mX7_anewSeconds.2.1.desc).map (fun d => d.parameters.length) = some 1) ∧ mX7_anewSeconds.2.1.cls = cn mX7_anewSeconds.1 ∧ plainName mX7_anewSeconds.2.1.cls = true := by decide +kernel
set_option maxRecDepth 100000 in
theorem md_X7_bestPin : (mX7_bestPin.2.1.cls ≠ "java/lang/invoke/MethodHandle" ∧ mX7_bestPin.2.1.cls ≠ "java/lang/invoke/VarHandle" ∧ (parseMethodDescriptor mX7_bestPin.2.1.desc).map (fun d => d.parameters.length) = some 1) ∧ mX7_bestPin.2.1.cls = cn mX7_bestPin.1 ∧ plainName mX7_bestPin.2.1.cls = true := by decide +kernel
set_option maxRecDepth 100000 in
theorem md_X7_better : (mX7_better.2.1.cls ≠ "java/lang/invoke/MethodHandle" ∧ mX7_better.2.1.cls ≠ "java/lang/invoke/VarHandle" ∧ (parseMethodDescriptor mX7_better.2.1.desc).map (fun d => d.parameters.length) = some 1) ∧ mX7_better.2.1.cls = cn mX7_better.1 ∧ plainName mX7_better.2.1.cls = true := by decide +kernel
set_option maxRecDepth 100000 in
theorem md_X7_bunch : (mX7_bunch.2.1.cls ≠ "java/lang/invoke/MethodHandle" ∧ mX7_bunch.2.1.cls ≠ "java/lang/invoke/VarHandle" ∧ (parseMethodDescriptor mX7_bunch.2.1.desc).map (fun d => d.parameters.length) = some 1) ∧ mX7_bunch.2.1.cls = cn mX7_bunch.1 ∧ plainName mX7_bunch.2.1.cls = true := by decide +kernel
set_option maxRecDepth 100000 in
theorem md_X7_bunchAt : (mX7_bunchAt.2.1.cls ≠ "java/lang/invoke/MethodHandle" ∧ mX7_bunchAt.2.1.cls ≠ "java/lang/invoke/VarHandle" ∧ (parseMethodDescriptor mX7_bunchAt.2.1.desc).map (fun d => d.parameters.length) = some 2) ∧ mX7_bunchAt.2.1.cls = cn mX7_bunchAt.1 ∧ plainName mX7_bunchAt.2.1.cls = true := by decide +kernel
set_option maxRecDepth 100000 in
theorem md_X7_bunches : (mX7_bunches.2.1.cls ≠ "java/lang/invoke/MethodHandle" ∧ mX7_bunches.2.1.cls ≠ "java/lang/invoke/VarHandle" ∧ (parseMethodDescriptor mX7_bunches.2.1.desc).map (fun d => d.parameters.length) = some 2) ∧ mX7_bunches.2.1.cls = cn mX7_bunches.1 ∧ plainName mX7_bunches.2.1.cls = true := by decide +kernel
set_option maxRecDepth 100000 in
theorem md_X7_canPull : (mX7_canPull.2.1.cls ≠ "java/lang/invoke/MethodHandle" ∧ mX7_canPull.2.1.cls ≠ "java/lang/invoke/VarHandle" ∧ (parseMethodDescriptor mX7_canPull.2.1.desc).map (fun d => d.parameters.length) = some 3) ∧ mX7_canPull.2.1.cls = cn mX7_canPull.1 ∧ plainName mX7_canPull.2.1.cls = true := by decide +kernel
set_option maxRecDepth 100000 in
theorem md_X7_care : (mX7_care.2.1.cls ≠ "java/lang/invoke/MethodHandle" ∧ mX7_care.2.1.cls ≠ "java/lang/invoke/VarHandle" ∧ (parseMethodDescriptor mX7_care.2.1.desc).map (fun d => d.parameters.length) = some 1) ∧ mX7_care.2.1.cls = cn mX7_care.1 ∧ plainName mX7_care.2.1.cls = true := by decide +kernel
set_option maxRecDepth 100000 in
theorem md_X7_costliest : (mX7_costliest.2.1.cls ≠ "java/lang/invoke/MethodHandle" ∧ mX7_costliest.2.1.cls ≠ "java/lang/invoke/VarHandle" ∧ (parseMethodDescriptor mX7_costliest.2.1.desc).map (fun d => d.parameters.length) = some 1) ∧ mX7_costliest.2.1.cls = cn mX7_costliest.1 ∧ plainName mX7_costliest.2.1.cls = true := by decide +kernel
set_option maxRecDepth 100000 in
theorem md_X7_count : (mX7_count.2.1.cls ≠ "java/lang/invoke/MethodHandle" ∧ mX7_count.2.1.cls ≠ "java/lang/invoke/VarHandle" ∧ (parseMethodDescriptor mX7_count.2.1.desc).map (fun d => d.parameters.length) = some 1) ∧ mX7_count.2.1.cls = cn mX7_count.1 ∧ plainName mX7_count.2.1.cls = true := by decide +kernel
set_option maxRecDepth 100000 in
theorem md_X7_cutOff : (mX7_cutOff.2.1.cls ≠ "java/lang/invoke/MethodHandle" ∧ mX7_cutOff.2.1.cls ≠ "java/lang/invoke/VarHandle" ∧ (parseMethodDescriptor mX7_cutOff.2.1.desc).map (fun d => d.parameters.length) = some 0) ∧ mX7_cutOff.2.1.cls = cn mX7_cutOff.1 ∧ plainName mX7_cutOff.2.1.cls = true := by decide +kernel
set_option maxRecDepth 100000 in
theorem md_X7_deep : (mX7_deep.2.1.cls ≠ "java/lang/invoke/MethodHandle" ∧ mX7_deep.2.1.cls ≠ "java/lang/invoke/VarHandle" ∧ (parseMethodDescriptor mX7_deep.2.1.desc).map (fun d => d.parameters.length) = some 2) ∧ mX7_deep.2.1.cls = cn mX7_deep.1 ∧ plainName mX7_deep.2.1.cls = true := by decide +kernel
set_option maxRecDepth 100000 in
theorem md_X7_drawn : (mX7_drawn.2.1.cls ≠ "java/lang/invoke/MethodHandle" ∧ mX7_drawn.2.1.cls ≠ "java/lang/invoke/VarHandle" ∧ (parseMethodDescriptor mX7_drawn.2.1.desc).map (fun d => d.parameters.length) = some 1) ∧ mX7_drawn.2.1.cls = cn mX7_drawn.1 ∧ plainName mX7_drawn.2.1.cls = true := by decide +kernel
set_option maxRecDepth 100000 in
theorem md_X7_drawsAt : (mX7_drawsAt.2.1.cls ≠ "java/lang/invoke/MethodHandle" ∧ mX7_drawsAt.2.1.cls ≠ "java/lang/invoke/VarHandle" ∧ (parseMethodDescriptor mX7_drawsAt.2.1.desc).map (fun d => d.parameters.length) = some 2) ∧ mX7_drawsAt.2.1.cls = cn mX7_drawsAt.1 ∧ plainName mX7_drawsAt.2.1.cls = true := by decide +kernel
set_option maxRecDepth 100000 in
theorem md_X7_end : (mX7_end.2.1.cls ≠ "java/lang/invoke/MethodHandle" ∧ mX7_end.2.1.cls ≠ "java/lang/invoke/VarHandle" ∧ (parseMethodDescriptor mX7_end.2.1.desc).map (fun d => d.parameters.length) = some 2) ∧ mX7_end.2.1.cls = cn mX7_end.1 ∧ plainName mX7_end.2.1.cls = true := by decide +kernel
set_option maxRecDepth 100000 in
theorem md_X7_figureOf : (mX7_figureOf.2.1.cls ≠ "java/lang/invoke/MethodHandle" ∧ mX7_figureOf.2.1.cls ≠ "java/lang/invoke/VarHandle" ∧ (parseMethodDescriptor mX7_figureOf.2.1.desc).map (fun d => d.parameters.length) = some 2) ∧ mX7_figureOf.2.1.cls = cn mX7_figureOf.1 ∧ plainName mX7_figureOf.2.1.cls = true := by decide +kernel
set_option maxRecDepth 100000 in
theorem md_X7_firstWrong : (mX7_firstWrong.2.1.cls ≠ "java/lang/invoke/MethodHandle" ∧ mX7_firstWrong.2.1.cls ≠ "java/lang/invoke/VarHandle" ∧ (parseMethodDescriptor mX7_firstWrong.2.1.desc).map (fun d => d.parameters.length) = some 2) ∧ mX7_firstWrong.2.1.cls = cn mX7_firstWrong.1 ∧ plainName mX7_firstWrong.2.1.cls = true := by decide +kernel
set_option maxRecDepth 100000 in
theorem md_X7_hem : (mX7_hem.2.1.cls ≠ "java/lang/invoke/MethodHandle" ∧ mX7_hem.2.1.cls ≠ "java/lang/invoke/VarHandle" ∧ (parseMethodDescriptor mX7_hem.2.1.desc).map (fun d => d.parameters.length) = some 0) ∧ mX7_hem.2.1.cls = cn mX7_hem.1 ∧ plainName mX7_hem.2.1.cls = true := by decide +kernel
set_option maxRecDepth 100000 in
theorem md_X7_here : (mX7_here.2.1.cls ≠ "java/lang/invoke/MethodHandle" ∧ mX7_here.2.1.cls ≠ "java/lang/invoke/VarHandle" ∧ (parseMethodDescriptor mX7_here.2.1.desc).map (fun d => d.parameters.length) = some 0) ∧ mX7_here.2.1.cls = cn mX7_here.1 ∧ plainName mX7_here.2.1.cls = true := by decide +kernel
set_option maxRecDepth 100000 in
theorem md_X7_holdsUp : (mX7_holdsUp.2.1.cls ≠ "java/lang/invoke/MethodHandle" ∧ mX7_holdsUp.2.1.cls ≠ "java/lang/invoke/VarHandle" ∧ (parseMethodDescriptor mX7_holdsUp.2.1.desc).map (fun d => d.parameters.length) = some 1) ∧ mX7_holdsUp.2.1.cls = cn mX7_holdsUp.1 ∧ plainName mX7_holdsUp.2.1.cls = true := by decide +kernel
set_option maxRecDepth 100000 in
theorem md_X7_image : (mX7_image.2.1.cls ≠ "java/lang/invoke/MethodHandle" ∧ mX7_image.2.1.cls ≠ "java/lang/invoke/VarHandle" ∧ (parseMethodDescriptor mX7_image.2.1.desc).map (fun d => d.parameters.length) = some 0) ∧ mX7_image.2.1.cls = cn mX7_image.1 ∧ plainName mX7_image.2.1.cls = true := by decide +kernel
set_option maxRecDepth 100000 in
theorem md_X7_inIn : (mX7_inIn.2.1.cls ≠ "java/lang/invoke/MethodHandle" ∧ mX7_inIn.2.1.cls ≠ "java/lang/invoke/VarHandle" ∧ (parseMethodDescriptor mX7_inIn.2.1.desc).map (fun d => d.parameters.length) = some 2) ∧ mX7_inIn.2.1.cls = cn mX7_inIn.1 ∧ plainName mX7_inIn.2.1.cls = true := by decide +kernel
set_option maxRecDepth 100000 in
theorem md_X7_inch : (mX7_inch.2.1.cls ≠ "java/lang/invoke/MethodHandle" ∧ mX7_inch.2.1.cls ≠ "java/lang/invoke/VarHandle" ∧ (parseMethodDescriptor mX7_inch.2.1.desc).map (fun d => d.parameters.length) = some 2) ∧ mX7_inch.2.1.cls = cn mX7_inch.1 ∧ plainName mX7_inch.2.1.cls = true := by decide +kernel
set_option maxRecDepth 100000 in
theorem md_X7_inchOf : (mX7_inchOf.2.1.cls ≠ "java/lang/invoke/MethodHandle" ∧ mX7_inchOf.2.1.cls ≠ "java/lang/invoke/VarHandle" ∧ (parseMethodDescriptor mX7_inchOf.2.1.desc).map (fun d => d.parameters.length) = some 2) ∧ mX7_inchOf.2.1.cls = cn mX7_inchOf.1 ∧ plainName mX7_inchOf.2.1.cls = true := by decide +kernel
set_option maxRecDepth 100000 in
theorem md_X7_inches : (mX7_inches.2.1.cls ≠ "java/lang/invoke/MethodHandle" ∧ mX7_inches.2.1.cls ≠ "java/lang/invoke/VarHandle" ∧ (parseMethodDescriptor mX7_inches.2.1.desc).map (fun d => d.parameters.length) = some 1) ∧ mX7_inches.2.1.cls = cn mX7_inches.1 ∧ plainName mX7_inches.2.1.cls = true := by decide +kernel
set_option maxRecDepth 100000 in
theorem md_X7_isDone : (mX7_isDone.2.1.cls ≠ "java/lang/invoke/MethodHandle" ∧ mX7_isDone.2.1.cls ≠ "java/lang/invoke/VarHandle" ∧ (parseMethodDescriptor mX7_isDone.2.1.desc).map (fun d => d.parameters.length) = some 1) ∧ mX7_isDone.2.1.cls = cn mX7_isDone.1 ∧ plainName mX7_isDone.2.1.cls = true := by decide +kernel
set_option maxRecDepth 100000 in
theorem md_X7_isEnd : (mX7_isEnd.2.1.cls ≠ "java/lang/invoke/MethodHandle" ∧ mX7_isEnd.2.1.cls ≠ "java/lang/invoke/VarHandle" ∧ (parseMethodDescriptor mX7_isEnd.2.1.desc).map (fun d => d.parameters.length) = some 1) ∧ mX7_isEnd.2.1.cls = cn mX7_isEnd.1 ∧ plainName mX7_isEnd.2.1.cls = true := by decide +kernel
set_option maxRecDepth 100000 in
theorem md_X7_isIn : (mX7_isIn.2.1.cls ≠ "java/lang/invoke/MethodHandle" ∧ mX7_isIn.2.1.cls ≠ "java/lang/invoke/VarHandle" ∧ (parseMethodDescriptor mX7_isIn.2.1.desc).map (fun d => d.parameters.length) = some 3) ∧ mX7_isIn.2.1.cls = cn mX7_isIn.1 ∧ plainName mX7_isIn.2.1.cls = true := by decide +kernel
set_option maxRecDepth 100000 in
theorem md_X7_isInch : (mX7_isInch.2.1.cls ≠ "java/lang/invoke/MethodHandle" ∧ mX7_isInch.2.1.cls ≠ "java/lang/invoke/VarHandle" ∧ (parseMethodDescriptor mX7_isInch.2.1.desc).map (fun d => d.parameters.length) = some 1) ∧ mX7_isInch.2.1.cls = cn mX7_isInch.1 ∧ plainName mX7_isInch.2.1.cls = true := by decide +kernel
set_option maxRecDepth 100000 in
theorem md_X7_isLost : (mX7_isLost.2.1.cls ≠ "java/lang/invoke/MethodHandle" ∧ mX7_isLost.2.1.cls ≠ "java/lang/invoke/VarHandle" ∧ (parseMethodDescriptor mX7_isLost.2.1.desc).map (fun d => d.parameters.length) = some 2) ∧ mX7_isLost.2.1.cls = cn mX7_isLost.1 ∧ plainName mX7_isLost.2.1.cls = true := by decide +kernel
set_option maxRecDepth 100000 in
theorem md_X7_isSeam : (mX7_isSeam.2.1.cls ≠ "java/lang/invoke/MethodHandle" ∧ mX7_isSeam.2.1.cls ≠ "java/lang/invoke/VarHandle" ∧ (parseMethodDescriptor mX7_isSeam.2.1.desc).map (fun d => d.parameters.length) = some 1) ∧ mX7_isSeam.2.1.cls = cn mX7_isSeam.1 ∧ plainName mX7_isSeam.2.1.cls = true := by decide +kernel
set_option maxRecDepth 100000 in
theorem md_X7_judge : (mX7_judge.2.1.cls ≠ "java/lang/invoke/MethodHandle" ∧ mX7_judge.2.1.cls ≠ "java/lang/invoke/VarHandle" ∧ (parseMethodDescriptor mX7_judge.2.1.desc).map (fun d => d.parameters.length) = some 1) ∧ mX7_judge.2.1.cls = cn mX7_judge.1 ∧ plainName mX7_judge.2.1.cls = true := by decide +kernel
set_option maxRecDepth 100000 in
theorem md_X7_keep : (mX7_keep.2.1.cls ≠ "java/lang/invoke/MethodHandle" ∧ mX7_keep.2.1.cls ≠ "java/lang/invoke/VarHandle" ∧ (parseMethodDescriptor mX7_keep.2.1.desc).map (fun d => d.parameters.length) = some 1) ∧ mX7_keep.2.1.cls = cn mX7_keep.1 ∧ plainName mX7_keep.2.1.cls = true := by decide +kernel
set_option maxRecDepth 100000 in
theorem md_X7_kindBy : (mX7_kindBy.2.1.cls ≠ "java/lang/invoke/MethodHandle" ∧ mX7_kindBy.2.1.cls ≠ "java/lang/invoke/VarHandle" ∧ (parseMethodDescriptor mX7_kindBy.2.1.desc).map (fun d => d.parameters.length) = some 1) ∧ mX7_kindBy.2.1.cls = cn mX7_kindBy.1 ∧ plainName mX7_kindBy.2.1.cls = true := by decide +kernel
set_option maxRecDepth 100000 in
theorem md_X7_kindOf : (mX7_kindOf.2.1.cls ≠ "java/lang/invoke/MethodHandle" ∧ mX7_kindOf.2.1.cls ≠ "java/lang/invoke/VarHandle" ∧ (parseMethodDescriptor mX7_kindOf.2.1.desc).map (fun d => d.parameters.length) = some 2) ∧ mX7_kindOf.2.1.cls = cn mX7_kindOf.1 ∧ plainName mX7_kindOf.2.1.cls = true := by decide +kernel
set_option maxRecDepth 100000 in
theorem md_X7_lays : (mX7_lays.2.1.cls ≠ "java/lang/invoke/MethodHandle" ∧ mX7_lays.2.1.cls ≠ "java/lang/invoke/VarHandle" ∧ (parseMethodDescriptor mX7_lays.2.1.desc).map (fun d => d.parameters.length) = some 2) ∧ mX7_lays.2.1.cls = cn mX7_lays.1 ∧ plainName mX7_lays.2.1.cls = true := by decide +kernel
set_option maxRecDepth 100000 in
theorem md_X7_least : (mX7_least.2.1.cls ≠ "java/lang/invoke/MethodHandle" ∧ mX7_least.2.1.cls ≠ "java/lang/invoke/VarHandle" ∧ (parseMethodDescriptor mX7_least.2.1.desc).map (fun d => d.parameters.length) = some 2) ∧ mX7_least.2.1.cls = cn mX7_least.1 ∧ plainName mX7_least.2.1.cls = true := by decide +kernel
set_option maxRecDepth 100000 in
theorem md_X7_letter : (mX7_letter.2.1.cls ≠ "java/lang/invoke/MethodHandle" ∧ mX7_letter.2.1.cls ≠ "java/lang/invoke/VarHandle" ∧ (parseMethodDescriptor mX7_letter.2.1.desc).map (fun d => d.parameters.length) = some 1) ∧ mX7_letter.2.1.cls = cn mX7_letter.1 ∧ plainName mX7_letter.2.1.cls = true := by decide +kernel
set_option maxRecDepth 100000 in
theorem md_X7_lost : (mX7_lost.2.1.cls ≠ "java/lang/invoke/MethodHandle" ∧ mX7_lost.2.1.cls ≠ "java/lang/invoke/VarHandle" ∧ (parseMethodDescriptor mX7_lost.2.1.desc).map (fun d => d.parameters.length) = some 1) ∧ mX7_lost.2.1.cls = cn mX7_lost.1 ∧ plainName mX7_lost.2.1.cls = true := by decide +kernel
set_option maxRecDepth 100000 in
theorem md_X7_lostMany : (mX7_lostMany.2.1.cls ≠ "java/lang/invoke/MethodHandle" ∧ mX7_lostMany.2.1.cls ≠ "java/lang/invoke/VarHandle" ∧ (parseMethodDescriptor mX7_lostMany.2.1.desc).map (fun d => d.parameters.length) = some 1) ∧ mX7_lostMany.2.1.cls = cn mX7_lostMany.1 ∧ plainName mX7_lostMany.2.1.cls = true := by decide +kernel
set_option maxRecDepth 100000 in
theorem md_X7_lots : (mX7_lots.2.1.cls ≠ "java/lang/invoke/MethodHandle" ∧ mX7_lots.2.1.cls ≠ "java/lang/invoke/VarHandle" ∧ (parseMethodDescriptor mX7_lots.2.1.desc).map (fun d => d.parameters.length) = some 3) ∧ mX7_lots.2.1.cls = cn mX7_lots.1 ∧ plainName mX7_lots.2.1.cls = true := by decide +kernel
set_option maxRecDepth 100000 in
theorem md_X7_mended : (mX7_mended.2.1.cls ≠ "java/lang/invoke/MethodHandle" ∧ mX7_mended.2.1.cls ≠ "java/lang/invoke/VarHandle" ∧ (parseMethodDescriptor mX7_mended.2.1.desc).map (fun d => d.parameters.length) = some 1) ∧ mX7_mended.2.1.cls = cn mX7_mended.1 ∧ plainName mX7_mended.2.1.cls = true := by decide +kernel
set_option maxRecDepth 100000 in
theorem md_X7_middle : (mX7_middle.2.1.cls ≠ "java/lang/invoke/MethodHandle" ∧ mX7_middle.2.1.cls ≠ "java/lang/invoke/VarHandle" ∧ (parseMethodDescriptor mX7_middle.2.1.desc).map (fun d => d.parameters.length) = some 0) ∧ mX7_middle.2.1.cls = cn mX7_middle.1 ∧ plainName mX7_middle.2.1.cls = true := by decide +kernel
set_option maxRecDepth 100000 in
theorem md_X7_most : (mX7_most.2.1.cls ≠ "java/lang/invoke/MethodHandle" ∧ mX7_most.2.1.cls ≠ "java/lang/invoke/VarHandle" ∧ (parseMethodDescriptor mX7_most.2.1.desc).map (fun d => d.parameters.length) = some 2) ∧ mX7_most.2.1.cls = cn mX7_most.1 ∧ plainName mX7_most.2.1.cls = true := by decide +kernel
set_option maxRecDepth 100000 in
theorem md_X7_movesAt : (mX7_movesAt.2.1.cls ≠ "java/lang/invoke/MethodHandle" ∧ mX7_movesAt.2.1.cls ≠ "java/lang/invoke/VarHandle" ∧ (parseMethodDescriptor mX7_movesAt.2.1.desc).map (fun d => d.parameters.length) = some 2) ∧ mX7_movesAt.2.1.cls = cn mX7_movesAt.1 ∧ plainName mX7_movesAt.2.1.cls = true := by decide +kernel
set_option maxRecDepth 100000 in
theorem md_X7_no : (mX7_no.2.1.cls ≠ "java/lang/invoke/MethodHandle" ∧ mX7_no.2.1.cls ≠ "java/lang/invoke/VarHandle" ∧ (parseMethodDescriptor mX7_no.2.1.desc).map (fun d => d.parameters.length) = some 1) ∧ mX7_no.2.1.cls = cn mX7_no.1 ∧ plainName mX7_no.2.1.cls = true := by decide +kernel
set_option maxRecDepth 100000 in
theorem md_X7_noFar : (mX7_noFar.2.1.cls ≠ "java/lang/invoke/MethodHandle" ∧ mX7_noFar.2.1.cls ≠ "java/lang/invoke/VarHandle" ∧ (parseMethodDescriptor mX7_noFar.2.1.desc).map (fun d => d.parameters.length) = some 1) ∧ mX7_noFar.2.1.cls = cn mX7_noFar.1 ∧ plainName mX7_noFar.2.1.cls = true := by decide +kernel
set_option maxRecDepth 100000 in
theorem md_X7_of : (mX7_of.2.1.cls ≠ "java/lang/invoke/MethodHandle" ∧ mX7_of.2.1.cls ≠ "java/lang/invoke/VarHandle" ∧ (parseMethodDescriptor mX7_of.2.1.desc).map (fun d => d.parameters.length) = some 2) ∧ mX7_of.2.1.cls = cn mX7_of.1 ∧ plainName mX7_of.2.1.cls = true := by decide +kernel
set_option maxRecDepth 100000 in
theorem md_X7_on : (mX7_on.2.1.cls ≠ "java/lang/invoke/MethodHandle" ∧ mX7_on.2.1.cls ≠ "java/lang/invoke/VarHandle" ∧ (parseMethodDescriptor mX7_on.2.1.desc).map (fun d => d.parameters.length) = some 0) ∧ mX7_on.2.1.cls = cn mX7_on.1 ∧ plainName mX7_on.2.1.cls = true := by decide +kernel
set_option maxRecDepth 100000 in
theorem md_X7_out : (mX7_out.2.1.cls ≠ "java/lang/invoke/MethodHandle" ∧ mX7_out.2.1.cls ≠ "java/lang/invoke/VarHandle" ∧ (parseMethodDescriptor mX7_out.2.1.desc).map (fun d => d.parameters.length) = some 2) ∧ mX7_out.2.1.cls = cn mX7_out.1 ∧ plainName mX7_out.2.1.cls = true := by decide +kernel
set_option maxRecDepth 100000 in
theorem md_X7_outSeconds : (mX7_outSeconds.2.1.cls ≠ "java/lang/invoke/MethodHandle" ∧ mX7_outSeconds.2.1.cls ≠ "java/lang/invoke/VarHandle" ∧ (parseMethodDescriptor mX7_outSeconds.2.1.desc).map (fun d => d.parameters.length) = some 2) ∧ mX7_outSeconds.2.1.cls = cn mX7_outSeconds.1 ∧ plainName mX7_outSeconds.2.1.cls = true := by decide +kernel
set_option maxRecDepth 100000 in
theorem md_X7_pull : (mX7_pull.2.1.cls ≠ "java/lang/invoke/MethodHandle" ∧ mX7_pull.2.1.cls ≠ "java/lang/invoke/VarHandle" ∧ (parseMethodDescriptor mX7_pull.2.1.desc).map (fun d => d.parameters.length) = some 2) ∧ mX7_pull.2.1.cls = cn mX7_pull.1 ∧ plainName mX7_pull.2.1.cls = true := by decide +kernel
set_option maxRecDepth 100000 in
theorem md_X7_pulls : (mX7_pulls.2.1.cls ≠ "java/lang/invoke/MethodHandle" ∧ mX7_pulls.2.1.cls ≠ "java/lang/invoke/VarHandle" ∧ (parseMethodDescriptor mX7_pulls.2.1.desc).map (fun d => d.parameters.length) = some 3) ∧ mX7_pulls.2.1.cls = cn mX7_pulls.1 ∧ plainName mX7_pulls.2.1.cls = true := by decide +kernel
set_option maxRecDepth 100000 in
theorem md_X7_readsKind : (mX7_readsKind.2.1.cls ≠ "java/lang/invoke/MethodHandle" ∧ mX7_readsKind.2.1.cls ≠ "java/lang/invoke/VarHandle" ∧ (parseMethodDescriptor mX7_readsKind.2.1.desc).map (fun d => d.parameters.length) = some 0) ∧ mX7_readsKind.2.1.cls = cn mX7_readsKind.1 ∧ plainName mX7_readsKind.2.1.cls = true := by decide +kernel
set_option maxRecDepth 100000 in
theorem md_X7_readsNumber : (mX7_readsNumber.2.1.cls ≠ "java/lang/invoke/MethodHandle" ∧ mX7_readsNumber.2.1.cls ≠ "java/lang/invoke/VarHandle" ∧ (parseMethodDescriptor mX7_readsNumber.2.1.desc).map (fun d => d.parameters.length) = some 2) ∧ mX7_readsNumber.2.1.cls = cn mX7_readsNumber.1 ∧ plainName mX7_readsNumber.2.1.cls = true := by decide +kernel
set_option maxRecDepth 100000 in
theorem md_X7_readsSigned : (mX7_readsSigned.2.1.cls ≠ "java/lang/invoke/MethodHandle" ∧ mX7_readsSigned.2.1.cls ≠ "java/lang/invoke/VarHandle" ∧ (parseMethodDescriptor mX7_readsSigned.2.1.desc).map (fun d => d.parameters.length) = some 0) ∧ mX7_readsSigned.2.1.cls = cn mX7_readsSigned.1 ∧ plainName mX7_readsSigned.2.1.cls = true := by decide +kernel
set_option maxRecDepth 100000 in
theorem md_X7_readsStatement : (mX7_readsStatement.2.1.cls ≠ "java/lang/invoke/MethodHandle" ∧ mX7_readsStatement.2.1.cls ≠ "java/lang/invoke/VarHandle" ∧ (parseMethodDescriptor mX7_readsStatement.2.1.desc).map (fun d => d.parameters.length) = some 0) ∧ mX7_readsStatement.2.1.cls = cn mX7_readsStatement.1 ∧ plainName mX7_readsStatement.2.1.cls = true := by decide +kernel
set_option maxRecDepth 100000 in
theorem md_X7_row : (mX7_row.2.1.cls ≠ "java/lang/invoke/MethodHandle" ∧ mX7_row.2.1.cls ≠ "java/lang/invoke/VarHandle" ∧ (parseMethodDescriptor mX7_row.2.1.desc).map (fun d => d.parameters.length) = some 1) ∧ mX7_row.2.1.cls = cn mX7_row.1 ∧ plainName mX7_row.2.1.cls = true := by decide +kernel
set_option maxRecDepth 100000 in
theorem md_X7_set : (mX7_set.2.1.cls ≠ "java/lang/invoke/MethodHandle" ∧ mX7_set.2.1.cls ≠ "java/lang/invoke/VarHandle" ∧ (parseMethodDescriptor mX7_set.2.1.desc).map (fun d => d.parameters.length) = some 2) ∧ mX7_set.2.1.cls = cn mX7_set.1 ∧ plainName mX7_set.2.1.cls = true := by decide +kernel
set_option maxRecDepth 100000 in
theorem md_X7_sew : (mX7_sew.2.1.cls ≠ "java/lang/invoke/MethodHandle" ∧ mX7_sew.2.1.cls ≠ "java/lang/invoke/VarHandle" ∧ (parseMethodDescriptor mX7_sew.2.1.desc).map (fun d => d.parameters.length) = some 0) ∧ mX7_sew.2.1.cls = cn mX7_sew.1 ∧ plainName mX7_sew.2.1.cls = true := by decide +kernel
set_option maxRecDepth 100000 in
theorem md_X7_soonest : (mX7_soonest.2.1.cls ≠ "java/lang/invoke/MethodHandle" ∧ mX7_soonest.2.1.cls ≠ "java/lang/invoke/VarHandle" ∧ (parseMethodDescriptor mX7_soonest.2.1.desc).map (fun d => d.parameters.length) = some 0) ∧ mX7_soonest.2.1.cls = cn mX7_soonest.1 ∧ plainName mX7_soonest.2.1.cls = true := by decide +kernel
set_option maxRecDepth 100000 in
theorem md_X7_still : (mX7_still.2.1.cls ≠ "java/lang/invoke/MethodHandle" ∧ mX7_still.2.1.cls ≠ "java/lang/invoke/VarHandle" ∧ (parseMethodDescriptor mX7_still.2.1.desc).map (fun d => d.parameters.length) = some 0) ∧ mX7_still.2.1.cls = cn mX7_still.1 ∧ plainName mX7_still.2.1.cls = true := by decide +kernel
set_option maxRecDepth 100000 in
theorem md_X7_stops : (mX7_stops.2.1.cls ≠ "java/lang/invoke/MethodHandle" ∧ mX7_stops.2.1.cls ≠ "java/lang/invoke/VarHandle" ∧ (parseMethodDescriptor mX7_stops.2.1.desc).map (fun d => d.parameters.length) = some 2) ∧ mX7_stops.2.1.cls = cn mX7_stops.1 ∧ plainName mX7_stops.2.1.cls = true := by decide +kernel
set_option maxRecDepth 100000 in
theorem md_X7_threadAt : (mX7_threadAt.2.1.cls ≠ "java/lang/invoke/MethodHandle" ∧ mX7_threadAt.2.1.cls ≠ "java/lang/invoke/VarHandle" ∧ (parseMethodDescriptor mX7_threadAt.2.1.desc).map (fun d => d.parameters.length) = some 2) ∧ mX7_threadAt.2.1.cls = cn mX7_threadAt.1 ∧ plainName mX7_threadAt.2.1.cls = true := by decide +kernel
set_option maxRecDepth 100000 in
theorem md_X7_threadBy : (mX7_threadBy.2.1.cls ≠ "java/lang/invoke/MethodHandle" ∧ mX7_threadBy.2.1.cls ≠ "java/lang/invoke/VarHandle" ∧ (parseMethodDescriptor mX7_threadBy.2.1.desc).map (fun d => d.parameters.length) = some 2) ∧ mX7_threadBy.2.1.cls = cn mX7_threadBy.1 ∧ plainName mX7_threadBy.2.1.cls = true := by decide +kernel
set_option maxRecDepth 100000 in
theorem md_X7_threads : (mX7_threads.2.1.cls ≠ "java/lang/invoke/MethodHandle" ∧ mX7_threads.2.1.cls ≠ "java/lang/invoke/VarHandle" ∧ (parseMethodDescriptor mX7_threads.2.1.desc).map (fun d => d.parameters.length) = some 1) ∧ mX7_threads.2.1.cls = cn mX7_threads.1 ∧ plainName mX7_threads.2.1.cls = true := by decide +kernel
set_option maxRecDepth 100000 in
theorem md_X7_tie : (mX7_tie.2.1.cls ≠ "java/lang/invoke/MethodHandle" ∧ mX7_tie.2.1.cls ≠ "java/lang/invoke/VarHandle" ∧ (parseMethodDescriptor mX7_tie.2.1.desc).map (fun d => d.parameters.length) = some 1) ∧ mX7_tie.2.1.cls = cn mX7_tie.1 ∧ plainName mX7_tie.2.1.cls = true := by decide +kernel
set_option maxRecDepth 100000 in
theorem md_X7_turn : (mX7_turn.2.1.cls ≠ "java/lang/invoke/MethodHandle" ∧ mX7_turn.2.1.cls ≠ "java/lang/invoke/VarHandle" ∧ (parseMethodDescriptor mX7_turn.2.1.desc).map (fun d => d.parameters.length) = some 3) ∧ mX7_turn.2.1.cls = cn mX7_turn.1 ∧ plainName mX7_turn.2.1.cls = true := by decide +kernel
set_option maxRecDepth 100000 in
theorem md_X7_wash : (mX7_wash.2.1.cls ≠ "java/lang/invoke/MethodHandle" ∧ mX7_wash.2.1.cls ≠ "java/lang/invoke/VarHandle" ∧ (parseMethodDescriptor mX7_wash.2.1.desc).map (fun d => d.parameters.length) = some 1) ∧ mX7_wash.2.1.cls = cn mX7_wash.1 ∧ plainName mX7_wash.2.1.cls = true := by decide +kernel
set_option maxRecDepth 100000 in
theorem md_X7_washes : (mX7_washes.2.1.cls ≠ "java/lang/invoke/MethodHandle" ∧ mX7_washes.2.1.cls ≠ "java/lang/invoke/VarHandle" ∧ (parseMethodDescriptor mX7_washes.2.1.desc).map (fun d => d.parameters.length) = some 1) ∧ mX7_washes.2.1.cls = cn mX7_washes.1 ∧ plainName mX7_washes.2.1.cls = true := by decide +kernel
set_option maxRecDepth 100000 in
theorem md_X7_washesOn : (mX7_washesOn.2.1.cls ≠ "java/lang/invoke/MethodHandle" ∧ mX7_washesOn.2.1.cls ≠ "java/lang/invoke/VarHandle" ∧ (parseMethodDescriptor mX7_washesOn.2.1.desc).map (fun d => d.parameters.length) = some 2) ∧ mX7_washesOn.2.1.cls = cn mX7_washesOn.1 ∧ plainName mX7_washesOn.2.1.cls = true := by decide +kernel
set_option maxRecDepth 100000 in
theorem md_X7_which : (mX7_which.2.1.cls ≠ "java/lang/invoke/MethodHandle" ∧ mX7_which.2.1.cls ≠ "java/lang/invoke/VarHandle" ∧ (parseMethodDescriptor mX7_which.2.1.desc).map (fun d => d.parameters.length) = some 2) ∧ mX7_which.2.1.cls = cn mX7_which.1 ∧ plainName mX7_which.2.1.cls = true := by decide +kernel
set_option maxRecDepth 100000 in
theorem md_X7_worst : (mX7_worst.2.1.cls ≠ "java/lang/invoke/MethodHandle" ∧ mX7_worst.2.1.cls ≠ "java/lang/invoke/VarHandle" ∧ (parseMethodDescriptor mX7_worst.2.1.desc).map (fun d => d.parameters.length) = some 0) ∧ mX7_worst.2.1.cls = cn mX7_worst.1 ∧ plainName mX7_worst.2.1.cls = true := by decide +kernel
set_option maxRecDepth 100000 in
theorem md_X7_wrongSeconds : (mX7_wrongSeconds.2.1.cls ≠ "java/lang/invoke/MethodHandle" ∧ mX7_wrongSeconds.2.1.cls ≠ "java/lang/invoke/VarHandle" ∧ (parseMethodDescriptor mX7_wrongSeconds.2.1.desc).map (fun d => d.parameters.length) = some 1) ∧ mX7_wrongSeconds.2.1.cls = cn mX7_wrongSeconds.1 ∧ plainName mX7_wrongSeconds.2.1.cls = true := by decide +kernel
set_option maxRecDepth 100000 in
theorem md_X7_wrongWashes : (mX7_wrongWashes.2.1.cls ≠ "java/lang/invoke/MethodHandle" ∧ mX7_wrongWashes.2.1.cls ≠ "java/lang/invoke/VarHandle" ∧ (parseMethodDescriptor mX7_wrongWashes.2.1.desc).map (fun d => d.parameters.length) = some 1) ∧ mX7_wrongWashes.2.1.cls = cn mX7_wrongWashes.1 ∧ plainName mX7_wrongWashes.2.1.cls = true := by decide +kernel
set_option maxRecDepth 100000 in
theorem cal_ok0 : ∀ q ∈ CTB0, CalOK q := List.forall_mem_cons.mpr ⟨⟨wd_323, wd_326, wd_2, Or.inl ⟨rfl, wd_324, wd_325⟩, md_X0_kindAt.1, md_X0_kindAt.2.1, md_X0_kindAt.2.2⟩, 
  List.forall_mem_cons.mpr ⟨⟨wd_327, wd_330, wd_2, Or.inl ⟨rfl, wd_328, wd_329⟩, md_X0_figureAt.1, md_X0_figureAt.2.1, md_X0_figureAt.2.2⟩, 
  List.forall_mem_cons.mpr ⟨⟨wd_331, wd_334, wd_2, Or.inl ⟨rfl, wd_332, wd_333⟩, md_X0_make.1, md_X0_make.2.1, md_X0_make.2.2⟩, 
  List.forall_mem_cons.mpr ⟨⟨wd_435, wd_437, wd_12, Or.inr ⟨rfl, wd_436⟩, md_X1_bunchMove.1, md_X1_bunchMove.2.1, md_X1_bunchMove.2.2⟩, 
  List.forall_mem_cons.mpr ⟨⟨wd_442, wd_444, wd_12, Or.inr ⟨rfl, wd_443⟩, md_X1_bunchSeconds.1, md_X1_bunchSeconds.2.1, md_X1_bunchSeconds.2.2⟩, 
  List.forall_mem_cons.mpr ⟨⟨wd_449, wd_451, wd_12, Or.inr ⟨rfl, wd_450⟩, md_X1_threadSeconds.1, md_X1_threadSeconds.2.1, md_X1_threadSeconds.2.2⟩, 
  List.forall_mem_cons.mpr ⟨⟨wd_403, wd_405, wd_12, Or.inr ⟨rfl, wd_404⟩, md_X1_washDraw.1, md_X1_washDraw.2.1, md_X1_washDraw.2.2⟩, 
  List.forall_mem_cons.mpr ⟨⟨wd_515, wd_517, wd_12, Or.inr ⟨rfl, wd_516⟩, md_X1_isSeam.1, md_X1_isSeam.2.1, md_X1_isSeam.2.2⟩, 
  List.forall_mem_cons.mpr ⟨⟨wd_514, wd_448, wd_2, Or.inl ⟨rfl, wd_446, wd_447⟩, md_X0_threadSeconds.1, md_X0_threadSeconds.2.1, md_X0_threadSeconds.2.2⟩, 
  List.forall_mem_cons.mpr ⟨⟨wd_510, wd_513, wd_2, Or.inl ⟨rfl, wd_511, wd_512⟩, md_X0_secondsAnewOf.1, md_X0_secondsAnewOf.2.1, md_X0_secondsAnewOf.2.2⟩, 
  List.forall_mem_cons.mpr ⟨⟨wd_390, wd_393, wd_2, Or.inl ⟨rfl, wd_391, wd_392⟩, md_X0_depth.1, md_X0_depth.2.1, md_X0_depth.2.2⟩, 
  List.forall_mem_cons.mpr ⟨⟨wd_526, wd_495, wd_2, Or.inl ⟨rfl, wd_493, wd_494⟩, md_X0_isLost.1, md_X0_isLost.2.1, md_X0_isLost.2.2⟩, 
  List.forall_mem_cons.mpr ⟨⟨wd_410, wd_413, wd_2, Or.inl ⟨rfl, wd_411, wd_412⟩, md_X0_canDraw.1, md_X0_canDraw.2.1, md_X0_canDraw.2.2⟩, 
  List.forall_mem_cons.mpr ⟨⟨wd_415, wd_373, wd_2, Or.inl ⟨rfl, wd_371, wd_372⟩, md_X0_place.1, md_X0_place.2.1, md_X0_place.2.2⟩, 
  List.forall_mem_cons.mpr ⟨⟨wd_394, wd_397, wd_2, Or.inl ⟨rfl, wd_395, wd_396⟩, md_X0_inchAt.1, md_X0_inchAt.2.1, md_X0_inchAt.2.2⟩, 
  List.forall_mem_cons.mpr ⟨⟨wd_399, wd_402, wd_2, Or.inl ⟨rfl, wd_400, wd_401⟩, md_X0_washDraw.1, md_X0_washDraw.2.1, md_X0_washDraw.2.2⟩, 
  List.forall_mem_cons.mpr ⟨⟨wd_406, wd_409, wd_2, Or.inl ⟨rfl, wd_407, wd_408⟩, md_X0_draw.1, md_X0_draw.2.1, md_X0_draw.2.2⟩, 
  List.forall_mem_cons.mpr ⟨⟨wd_386, wd_389, wd_2, Or.inl ⟨rfl, wd_387, wd_388⟩, md_X0_washOnce.1, md_X0_washOnce.2.1, md_X0_washOnce.2.2⟩, 
  List.forall_mem_cons.mpr ⟨⟨wd_184, wd_187, wd_5, Or.inl ⟨rfl, wd_185, wd_186⟩, md_X2_signAt.1, md_X2_signAt.2.1, md_X2_signAt.2.2⟩, 
  List.forall_mem_cons.mpr ⟨⟨wd_344, wd_347, wd_5, Or.inl ⟨rfl, wd_345, wd_346⟩, md_X2_digit.1, md_X2_digit.2.1, md_X2_digit.2.2⟩, 
  List.forall_mem_cons.mpr ⟨⟨wd_360, wd_343, wd_5, Or.inl ⟨rfl, wd_341, wd_342⟩, md_X2_number.1, md_X2_number.2.1, md_X2_number.2.2⟩, 
  List.forall_mem_cons.mpr ⟨⟨wd_188, wd_190, wd_5, Or.inr ⟨rfl, wd_189⟩, md_X2_formBehind.1, md_X2_formBehind.2.1, md_X2_formBehind.2.2⟩, 
  List.forall_mem_cons.mpr ⟨⟨wd_201, wd_204, wd_8, Or.inl ⟨rfl, wd_202, wd_203⟩, md_J0_length_8abf5.1, md_J0_length_8abf5.2.1, md_J0_length_8abf5.2.2⟩, 
  List.forall_mem_cons.mpr ⟨⟨wd_197, wd_200, wd_8, Or.inl ⟨rfl, wd_198, wd_199⟩, md_J0_isEmpty_aae02.1, md_J0_isEmpty_aae02.2.1, md_J0_isEmpty_aae02.2.2⟩, 
  List.forall_mem_cons.mpr ⟨⟨wd_211, wd_214, wd_8, Or.inl ⟨rfl, wd_212, wd_213⟩, md_J0_charAt_5068e.1, md_J0_charAt_5068e.2.1, md_J0_charAt_5068e.2.2⟩, 
  List.forall_mem_cons.mpr ⟨⟨wd_249, wd_251, wd_5, Or.inr ⟨rfl, wd_250⟩, md_X2_fits.1, md_X2_fits.2.1, md_X2_fits.2.2⟩, 
  List.forall_mem_cons.mpr ⟨⟨wd_252, wd_254, wd_12, Or.inr ⟨rfl, wd_253⟩, md_X1_isSign.1, md_X1_isSign.2.1, md_X1_isSign.2.2⟩, 
  List.forall_mem_cons.mpr ⟨⟨wd_606, wd_509, wd_2, Or.inl ⟨rfl, wd_507, wd_508⟩, md_X0_secondsAnew.1, md_X0_secondsAnew.2.1, md_X0_secondsAnew.2.2⟩, 
  List.forall_mem_cons.mpr ⟨⟨wd_607, wd_389, wd_2, Or.inl ⟨rfl, wd_387, wd_388⟩, md_X0_washOnce.1, md_X0_washOnce.2.1, md_X0_washOnce.2.2⟩, 
  List.forall_mem_cons.mpr ⟨⟨wd_608, wd_611, wd_4, Or.inl ⟨rfl, wd_610, sl_9⟩, md_X3_mend.1, md_X3_mend.2.1, md_X3_mend.2.2⟩, 
  List.forall_mem_cons.mpr ⟨⟨wd_612, wd_495, wd_2, Or.inl ⟨rfl, wd_493, wd_494⟩, md_X0_isLost.1, md_X0_isLost.2.1, md_X0_isLost.2.2⟩, 
  List.forall_mem_cons.mpr ⟨⟨wd_613, wd_393, wd_2, Or.inl ⟨rfl, wd_391, wd_392⟩, md_X0_depth.1, md_X0_depth.2.1, md_X0_depth.2.2⟩, 
  List.forall_mem_cons.mpr ⟨⟨wd_614, wd_538, wd_3, Or.inl ⟨rfl, wd_536, wd_537⟩, md_X5_measure.1, md_X5_measure.2.1, md_X5_measure.2.2⟩, 
  List.forall_mem_cons.mpr ⟨⟨wd_615, wd_567, wd_3, Or.inl ⟨rfl, wd_565, wd_566⟩, md_X5_isAWay.1, md_X5_isAWay.2.1, md_X5_isAWay.2.2⟩, 
  List.forall_mem_cons.mpr ⟨⟨wd_616, wd_505, wd_2, Or.inl ⟨rfl, wd_503, wd_504⟩, md_X0_threadAnew.1, md_X0_threadAnew.2.1, md_X0_threadAnew.2.2⟩, 
  List.forall_mem_cons.mpr ⟨⟨wd_617, wd_373, wd_2, Or.inl ⟨rfl, wd_371, wd_372⟩, md_X0_place.1, md_X0_place.2.1, md_X0_place.2.2⟩, 
  List.forall_mem_cons.mpr ⟨⟨wd_668, wd_393, wd_2, Or.inl ⟨rfl, wd_391, wd_392⟩, md_X0_depth.1, md_X0_depth.2.1, md_X0_depth.2.2⟩, 
  List.forall_mem_cons.mpr ⟨⟨wd_669, wd_389, wd_2, Or.inl ⟨rfl, wd_387, wd_388⟩, md_X0_washOnce.1, md_X0_washOnce.2.1, md_X0_washOnce.2.2⟩, 
  List.forall_mem_cons.mpr ⟨⟨wd_539, wd_397, wd_2, Or.inl ⟨rfl, wd_395, wd_396⟩, md_X0_inchAt.1, md_X0_inchAt.2.1, md_X0_inchAt.2.2⟩, 
  List.forall_mem_cons.mpr ⟨⟨wd_540, wd_434, wd_2, Or.inl ⟨rfl, wd_432, wd_433⟩, md_X0_bunchMove.1, md_X0_bunchMove.2.1, md_X0_bunchMove.2.2⟩, fun _ h => absurd h List.not_mem_nil⟩⟩⟩⟩⟩⟩⟩⟩⟩⟩⟩⟩⟩⟩⟩⟩⟩⟩⟩⟩⟩⟩⟩⟩⟩⟩⟩⟩⟩⟩⟩⟩⟩⟩⟩⟩⟩⟩⟩⟩
set_option maxRecDepth 100000 in
theorem cal_ok1 : ∀ q ∈ CTB1, CalOK q := List.forall_mem_cons.mpr ⟨⟨wd_541, wd_544, wd_3, Or.inl ⟨rfl, wd_543, sl_5⟩, md_X5_neverIsOut.1, md_X5_neverIsOut.2.1, md_X5_neverIsOut.2.2⟩, 
  List.forall_mem_cons.mpr ⟨⟨wd_545, wd_441, wd_2, Or.inl ⟨rfl, wd_439, wd_440⟩, md_X0_bunchSeconds.1, md_X0_bunchSeconds.2.1, md_X0_bunchSeconds.2.2⟩, 
  List.forall_mem_cons.mpr ⟨⟨wd_564, wd_567, wd_3, Or.inl ⟨rfl, wd_565, wd_566⟩, md_X5_isAWay.1, md_X5_isAWay.2.1, md_X5_isAWay.2.2⟩, 
  List.forall_mem_cons.mpr ⟨⟨wd_562, wd_393, wd_2, Or.inl ⟨rfl, wd_391, wd_392⟩, md_X0_depth.1, md_X0_depth.2.1, md_X0_depth.2.2⟩, 
  List.forall_mem_cons.mpr ⟨⟨wd_563, wd_538, wd_3, Or.inl ⟨rfl, wd_536, wd_537⟩, md_X5_measure.1, md_X5_measure.2.1, md_X5_measure.2.2⟩, 
  List.forall_mem_cons.mpr ⟨⟨wd_161, wd_163, wd_1, Or.inr ⟨rfl, wd_162⟩, md_X6_outside.1, md_X6_outside.2.1, md_X6_outside.2.2⟩, 
  List.forall_mem_cons.mpr ⟨⟨wd_164, wd_167, wd_1, Or.inl ⟨rfl, wd_166, sl_0⟩, md_X6_refuse.1, md_X6_refuse.2.1, md_X6_refuse.2.2⟩, 
  List.forall_mem_cons.mpr ⟨⟨wd_168, wd_171, wd_5, Or.inl ⟨rfl, wd_169, wd_170⟩, md_X2_isFull.1, md_X2_isFull.2.1, md_X2_isFull.2.2⟩, 
  List.forall_mem_cons.mpr ⟨⟨wd_172, wd_175, wd_5, Or.inl ⟨rfl, wd_173, wd_174⟩, md_X2_add.1, md_X2_add.2.1, md_X2_add.2.2⟩, 
  List.forall_mem_cons.mpr ⟨⟨wd_180, wd_183, wd_5, Or.inl ⟨rfl, wd_181, wd_182⟩, md_X2_firstUnfit.1, md_X2_firstUnfit.2.1, md_X2_firstUnfit.2.2⟩, 
  List.forall_mem_cons.mpr ⟨⟨wd_315, wd_318, wd_1, Or.inl ⟨rfl, wd_317, sl_1⟩, md_X6_statementsCome.1, md_X6_statementsCome.2.1, md_X6_statementsCome.2.2⟩, 
  List.forall_mem_cons.mpr ⟨⟨wd_420, wd_423, wd_5, Or.inl ⟨rfl, wd_421, wd_422⟩, md_X2_clear.1, md_X2_clear.2.1, md_X2_clear.2.2⟩, 
  List.forall_mem_cons.mpr ⟨⟨wd_348, wd_351, wd_2, Or.inl ⟨rfl, wd_349, wd_350⟩, md_X0_hasInch.1, md_X0_hasInch.2.1, md_X0_hasInch.2.2⟩, 
  List.forall_mem_cons.mpr ⟨⟨wd_429, wd_326, wd_2, Or.inl ⟨rfl, wd_324, wd_325⟩, md_X0_kindAt.1, md_X0_kindAt.2.1, md_X0_kindAt.2.2⟩, 
  List.forall_mem_cons.mpr ⟨⟨wd_430, wd_330, wd_2, Or.inl ⟨rfl, wd_328, wd_329⟩, md_X0_figureAt.1, md_X0_figureAt.2.1, md_X0_figureAt.2.2⟩, 
  List.forall_mem_cons.mpr ⟨⟨wd_431, wd_434, wd_2, Or.inl ⟨rfl, wd_432, wd_433⟩, md_X0_bunchMove.1, md_X0_bunchMove.2.1, md_X0_bunchMove.2.2⟩, 
  List.forall_mem_cons.mpr ⟨⟨wd_438, wd_441, wd_2, Or.inl ⟨rfl, wd_439, wd_440⟩, md_X0_bunchSeconds.1, md_X0_bunchSeconds.2.1, md_X0_bunchSeconds.2.2⟩, 
  List.forall_mem_cons.mpr ⟨⟨wd_445, wd_448, wd_2, Or.inl ⟨rfl, wd_446, wd_447⟩, md_X0_threadSeconds.1, md_X0_threadSeconds.2.1, md_X0_threadSeconds.2.2⟩, 
  List.forall_mem_cons.mpr ⟨⟨wd_452, wd_402, wd_2, Or.inl ⟨rfl, wd_400, wd_401⟩, md_X0_washDraw.1, md_X0_washDraw.2.1, md_X0_washDraw.2.2⟩, 
  List.forall_mem_cons.mpr ⟨⟨wd_369, wd_334, wd_2, Or.inl ⟨rfl, wd_332, wd_333⟩, md_X0_make.1, md_X0_make.2.1, md_X0_make.2.2⟩, 
  List.forall_mem_cons.mpr ⟨⟨wd_353, wd_355, wd_1, Or.inr ⟨rfl, wd_354⟩, md_X6_isEnd.1, md_X6_isEnd.2.1, md_X6_isEnd.2.2⟩, 
  List.forall_mem_cons.mpr ⟨⟨wd_465, wd_468, wd_1, Or.inl ⟨rfl, wd_467, sl_4⟩, md_X6_refuseAsTold.1, md_X6_refuseAsTold.2.1, md_X6_refuseAsTold.2.2⟩, 
  List.forall_mem_cons.mpr ⟨⟨wd_470, wd_393, wd_2, Or.inl ⟨rfl, wd_391, wd_392⟩, md_X0_depth.1, md_X0_depth.2.1, md_X0_depth.2.2⟩, 
  List.forall_mem_cons.mpr ⟨⟨wd_370, wd_373, wd_2, Or.inl ⟨rfl, wd_371, wd_372⟩, md_X0_place.1, md_X0_place.2.1, md_X0_place.2.2⟩, 
  List.forall_mem_cons.mpr ⟨⟨wd_374, wd_377, wd_2, Or.inl ⟨rfl, wd_375, wd_376⟩, md_X0_isKnotted.1, md_X0_isKnotted.2.1, md_X0_isKnotted.2.2⟩, 
  List.forall_mem_cons.mpr ⟨⟨wd_378, wd_381, wd_2, Or.inl ⟨rfl, wd_379, wd_380⟩, md_X0_knot.1, md_X0_knot.2.1, md_X0_knot.2.2⟩, 
  List.forall_mem_cons.mpr ⟨⟨wd_487, wd_409, wd_2, Or.inl ⟨rfl, wd_407, wd_408⟩, md_X0_draw.1, md_X0_draw.2.1, md_X0_draw.2.2⟩, 
  List.forall_mem_cons.mpr ⟨⟨wd_492, wd_495, wd_2, Or.inl ⟨rfl, wd_493, wd_494⟩, md_X0_isLost.1, md_X0_isLost.2.1, md_X0_isLost.2.2⟩, 
  List.forall_mem_cons.mpr ⟨⟨wd_496, wd_397, wd_2, Or.inl ⟨rfl, wd_395, wd_396⟩, md_X0_inchAt.1, md_X0_inchAt.2.1, md_X0_inchAt.2.2⟩, 
  List.forall_mem_cons.mpr ⟨⟨wd_502, wd_505, wd_2, Or.inl ⟨rfl, wd_503, wd_504⟩, md_X0_threadAnew.1, md_X0_threadAnew.2.1, md_X0_threadAnew.2.2⟩, 
  List.forall_mem_cons.mpr ⟨⟨wd_506, wd_509, wd_2, Or.inl ⟨rfl, wd_507, wd_508⟩, md_X0_secondsAnew.1, md_X0_secondsAnew.2.1, md_X0_secondsAnew.2.2⟩, 
  List.forall_mem_cons.mpr ⟨⟨wd_382, wd_385, wd_2, Or.inl ⟨rfl, wd_383, wd_384⟩, md_X0_washTimes.1, md_X0_washTimes.2.1, md_X0_washTimes.2.2⟩, 
  List.forall_mem_cons.mpr ⟨⟨wd_522, wd_525, wd_2, Or.inl ⟨rfl, wd_523, wd_524⟩, md_X0_lostEnds.1, md_X0_lostEnds.2.1, md_X0_lostEnds.2.2⟩, 
  List.forall_mem_cons.mpr ⟨⟨wd_535, wd_538, wd_3, Or.inl ⟨rfl, wd_536, wd_537⟩, md_X5_measure.1, md_X5_measure.2.1, md_X5_measure.2.2⟩, 
  List.forall_mem_cons.mpr ⟨⟨wd_550, wd_553, wd_1, Or.inl ⟨rfl, wd_552, sl_6⟩, md_X6_secondsIfLost.1, md_X6_secondsIfLost.2.1, md_X6_secondsIfLost.2.2⟩, 
  List.forall_mem_cons.mpr ⟨⟨wd_558, wd_561, wd_3, Or.inl ⟨rfl, wd_559, wd_560⟩, md_X5_secondsOfAll.1, md_X5_secondsOfAll.2.1, md_X5_secondsOfAll.2.2⟩, 
  List.forall_mem_cons.mpr ⟨⟨wd_319, wd_322, wd_2, Or.inl ⟨rfl, wd_320, wd_321⟩, md_X0_copyFrom.1, md_X0_copyFrom.2.1, md_X0_copyFrom.2.2⟩, 
  List.forall_mem_cons.mpr ⟨⟨wd_576, wd_579, wd_1, Or.inl ⟨rfl, wd_578, sl_7⟩, md_X6_washesTillLost.1, md_X6_washesTillLost.2.1, md_X6_washesTillLost.2.2⟩, 
  List.forall_mem_cons.mpr ⟨⟨wd_580, wd_389, wd_2, Or.inl ⟨rfl, wd_387, wd_388⟩, md_X0_washOnce.1, md_X0_washOnce.2.1, md_X0_washOnce.2.2⟩, 
  List.forall_mem_cons.mpr ⟨⟨wd_593, wd_567, wd_3, Or.inl ⟨rfl, wd_565, wd_566⟩, md_X5_isAWay.1, md_X5_isAWay.2.1, md_X5_isAWay.2.2⟩, fun _ h => absurd h List.not_mem_nil⟩⟩⟩⟩⟩⟩⟩⟩⟩⟩⟩⟩⟩⟩⟩⟩⟩⟩⟩⟩⟩⟩⟩⟩⟩⟩⟩⟩⟩⟩⟩⟩⟩⟩⟩⟩⟩⟩⟩⟩
set_option maxRecDepth 100000 in
theorem cal_ok2 : ∀ q ∈ CTB2, CalOK q := List.forall_mem_cons.mpr ⟨⟨wd_598, wd_601, wd_1, Or.inl ⟨rfl, wd_600, sl_8⟩, md_X6_secondsWithStop.1, md_X6_secondsWithStop.2.1, md_X6_secondsWithStop.2.2⟩, 
  List.forall_mem_cons.mpr ⟨⟨wd_602, wd_605, wd_4, Or.inl ⟨rfl, wd_603, wd_604⟩, md_X3_goOn.1, md_X3_goOn.2.1, md_X3_goOn.2.2⟩, 
  List.forall_mem_cons.mpr ⟨⟨wd_626, wd_629, wd_3, Or.inl ⟨rfl, wd_627, wd_628⟩, md_X5_rank.1, md_X5_rank.2.1, md_X5_rank.2.2⟩, 
  List.forall_mem_cons.mpr ⟨⟨wd_631, wd_634, wd_1, Or.inl ⟨rfl, wd_633, sl_10⟩, md_X6_rankWithCloth.1, md_X6_rankWithCloth.2.1, md_X6_rankWithCloth.2.2⟩, 
  List.forall_mem_cons.mpr ⟨⟨wd_642, wd_413, wd_2, Or.inl ⟨rfl, wd_411, wd_412⟩, md_X0_canDraw.1, md_X0_canDraw.2.1, md_X0_canDraw.2.2⟩, 
  List.forall_mem_cons.mpr ⟨⟨wd_655, wd_513, wd_2, Or.inl ⟨rfl, wd_511, wd_512⟩, md_X0_secondsAnewOf.1, md_X0_secondsAnewOf.2.1, md_X0_secondsAnewOf.2.2⟩, 
  List.forall_mem_cons.mpr ⟨⟨wd_660, wd_663, wd_1, Or.inl ⟨rfl, wd_662, sl_11⟩, md_X6_kindsByRow.1, md_X6_kindsByRow.2.1, md_X6_kindsByRow.2.2⟩, 
  List.forall_mem_cons.mpr ⟨⟨wd_670, wd_673, wd_1, Or.inl ⟨rfl, wd_672, sl_12⟩, md_X6_strengthsByRow.1, md_X6_strengthsByRow.2.1, md_X6_strengthsByRow.2.2⟩, 
  List.forall_mem_cons.mpr ⟨⟨wd_678, wd_681, wd_6, Or.inl ⟨rfl, wd_679, wd_680⟩, md_X4_isFull.1, md_X4_isFull.2.1, md_X4_isFull.2.2⟩, 
  List.forall_mem_cons.mpr ⟨⟨wd_682, wd_685, wd_6, Or.inl ⟨rfl, wd_683, wd_684⟩, md_X4_add.1, md_X4_add.2.1, md_X4_add.2.2⟩, 
  List.forall_mem_cons.mpr ⟨⟨wd_664, wd_667, wd_6, Or.inl ⟨rfl, wd_665, wd_666⟩, md_X4_firstNotSo.1, md_X4_firstNotSo.2.1, md_X4_firstNotSo.2.2⟩, 
  List.forall_mem_cons.mpr ⟨⟨wd_690, wd_693, wd_6, Or.inl ⟨rfl, wd_691, wd_692⟩, md_X4_clear.1, md_X4_clear.2.1, md_X4_clear.2.2⟩, 
  List.forall_mem_cons.mpr ⟨⟨wd_701, wd_704, wd_1, Or.inl ⟨rfl, wd_703, sl_13⟩, md_X6_lotSeconds.1, md_X6_lotSeconds.2.1, md_X6_lotSeconds.2.2⟩, 
  List.forall_mem_cons.mpr ⟨⟨wd_717, wd_720, wd_2, Or.inl ⟨rfl, wd_718, wd_719⟩, md_X0_seams.1, md_X0_seams.2.1, md_X0_seams.2.2⟩, 
  List.forall_mem_cons.mpr ⟨⟨wd_721, wd_724, wd_1, Or.inl ⟨rfl, wd_723, sl_14⟩, md_X6_refusalsAt.1, md_X6_refusalsAt.2.1, md_X6_refusalsAt.2.2⟩, 
  List.forall_mem_cons.mpr ⟨⟨wd_335, wd_338, wd_1, Or.inl ⟨rfl, wd_337, sl_2⟩, md_X6_isAsItMustBe.1, md_X6_isAsItMustBe.2.1, md_X6_isAsItMustBe.2.2⟩, 
  List.forall_mem_cons.mpr ⟨⟨wd_361, wd_364, wd_1, Or.inl ⟨rfl, wd_363, sl_3⟩, md_X6_comes.1, md_X6_comes.2.1, md_X6_comes.2.2⟩, 
  List.forall_mem_cons.mpr ⟨⟨wd_416, wd_419, wd_5, Or.inl ⟨rfl, wd_417, wd_418⟩, md_X2_lengthBehind.1, md_X2_lengthBehind.2.1, md_X2_lengthBehind.2.2⟩, 
  List.forall_mem_cons.mpr ⟨⟨wd_339, wd_187, wd_5, Or.inl ⟨rfl, wd_185, wd_186⟩, md_X2_signAt.1, md_X2_signAt.2.1, md_X2_signAt.2.2⟩, 
  List.forall_mem_cons.mpr ⟨⟨wd_340, wd_343, wd_5, Or.inl ⟨rfl, wd_341, wd_342⟩, md_X2_number.1, md_X2_number.2.1, md_X2_number.2.2⟩, 
  List.forall_mem_cons.mpr ⟨⟨wd_352, wd_347, wd_5, Or.inl ⟨rfl, wd_345, wd_346⟩, md_X2_digit.1, md_X2_digit.2.1, md_X2_digit.2.2⟩, 
  List.forall_mem_cons.mpr ⟨⟨wd_356, wd_359, wd_5, Or.inl ⟨rfl, wd_357, wd_358⟩, md_X2_signed.1, md_X2_signed.2.1, md_X2_signed.2.2⟩, 
  List.forall_mem_cons.mpr ⟨⟨wd_365, wd_367, wd_12, Or.inr ⟨rfl, wd_366⟩, md_X1_ofSign.1, md_X1_ofSign.2.1, md_X1_ofSign.2.2⟩, 
  List.forall_mem_cons.mpr ⟨⟨wd_784, wd_787, wd_7, Or.inl ⟨rfl, wd_786, sl_15⟩, md_X7_no.1, md_X7_no.2.1, md_X7_no.2.2⟩, 
  List.forall_mem_cons.mpr ⟨⟨wd_804, wd_806, wd_7, Or.inr ⟨rfl, wd_805⟩, md_X7_isIn.1, md_X7_isIn.2.1, md_X7_isIn.2.2⟩, 
  List.forall_mem_cons.mpr ⟨⟨wd_847, wd_849, wd_7, Or.inr ⟨rfl, wd_848⟩, md_X7_kindOf.1, md_X7_kindOf.2.1, md_X7_kindOf.2.2⟩, 
  List.forall_mem_cons.mpr ⟨⟨wd_850, wd_852, wd_7, Or.inr ⟨rfl, wd_851⟩, md_X7_isSeam.1, md_X7_isSeam.2.1, md_X7_isSeam.2.2⟩, 
  List.forall_mem_cons.mpr ⟨⟨wd_866, wd_868, wd_7, Or.inr ⟨rfl, wd_867⟩, md_X7_figureOf.1, md_X7_figureOf.2.1, md_X7_figureOf.2.2⟩, 
  List.forall_mem_cons.mpr ⟨⟨wd_841, wd_843, wd_7, Or.inr ⟨rfl, wd_842⟩, md_X7_least.1, md_X7_least.2.1, md_X7_least.2.2⟩, 
  List.forall_mem_cons.mpr ⟨⟨wd_859, wd_861, wd_7, Or.inr ⟨rfl, wd_860⟩, md_X7_most.1, md_X7_most.2.1, md_X7_most.2.2⟩, 
  List.forall_mem_cons.mpr ⟨⟨wd_856, wd_858, wd_7, Or.inr ⟨rfl, wd_857⟩, md_X7_canPull.1, md_X7_canPull.2.1, md_X7_canPull.2.2⟩, 
  List.forall_mem_cons.mpr ⟨⟨wd_838, wd_840, wd_7, Or.inr ⟨rfl, wd_839⟩, md_X7_inchOf.1, md_X7_inchOf.2.1, md_X7_inchOf.2.2⟩, 
  List.forall_mem_cons.mpr ⟨⟨wd_844, wd_846, wd_7, Or.inr ⟨rfl, wd_845⟩, md_X7_drawsAt.1, md_X7_drawsAt.2.1, md_X7_drawsAt.2.2⟩, 
  List.forall_mem_cons.mpr ⟨⟨wd_853, wd_855, wd_7, Or.inr ⟨rfl, wd_854⟩, md_X7_pulls.1, md_X7_pulls.2.1, md_X7_pulls.2.2⟩, 
  List.forall_mem_cons.mpr ⟨⟨wd_835, wd_837, wd_7, Or.inr ⟨rfl, wd_836⟩, md_X7_washes.1, md_X7_washes.2.1, md_X7_washes.2.2⟩, 
  List.forall_mem_cons.mpr ⟨⟨wd_869, wd_871, wd_7, Or.inr ⟨rfl, wd_870⟩, md_X7_movesAt.1, md_X7_movesAt.2.1, md_X7_movesAt.2.2⟩, 
  List.forall_mem_cons.mpr ⟨⟨wd_931, wd_933, wd_7, Or.inr ⟨rfl, wd_932⟩, md_X7_threadBy.1, md_X7_threadBy.2.1, md_X7_threadBy.2.2⟩, 
  List.forall_mem_cons.mpr ⟨⟨wd_875, wd_877, wd_7, Or.inr ⟨rfl, wd_876⟩, md_X7_threadAt.1, md_X7_threadAt.2.1, md_X7_threadAt.2.2⟩, 
  List.forall_mem_cons.mpr ⟨⟨wd_915, wd_917, wd_7, Or.inr ⟨rfl, wd_916⟩, md_X7_isLost.1, md_X7_isLost.2.1, md_X7_isLost.2.2⟩, 
  List.forall_mem_cons.mpr ⟨⟨wd_872, wd_874, wd_7, Or.inr ⟨rfl, wd_873⟩, md_X7_bunchAt.1, md_X7_bunchAt.2.1, md_X7_bunchAt.2.2⟩, fun _ h => absurd h List.not_mem_nil⟩⟩⟩⟩⟩⟩⟩⟩⟩⟩⟩⟩⟩⟩⟩⟩⟩⟩⟩⟩⟩⟩⟩⟩⟩⟩⟩⟩⟩⟩⟩⟩⟩⟩⟩⟩⟩⟩⟩⟩
set_option maxRecDepth 100000 in
theorem cal_ok3 : ∀ q ∈ CTB3, CalOK q := List.forall_mem_cons.mpr ⟨⟨wd_918, wd_920, wd_7, Or.inr ⟨rfl, wd_919⟩, md_X7_bunches.1, md_X7_bunches.2.1, md_X7_bunches.2.2⟩, 
  List.forall_mem_cons.mpr ⟨⟨wd_949, wd_952, wd_7, Or.inl ⟨rfl, wd_951, sl_24⟩, md_X7_outSeconds.1, md_X7_outSeconds.2.1, md_X7_outSeconds.2.2⟩, 
  List.forall_mem_cons.mpr ⟨⟨wd_796, wd_799, wd_7, Or.inl ⟨rfl, wd_798, sl_17⟩, md_X7_here.1, md_X7_here.2.1, md_X7_here.2.2⟩, 
  List.forall_mem_cons.mpr ⟨⟨wd_811, wd_813, wd_7, Or.inr ⟨rfl, wd_812⟩, md_X7_kindBy.1, md_X7_kindBy.2.1, md_X7_kindBy.2.2⟩, 
  List.forall_mem_cons.mpr ⟨⟨wd_800, wd_803, wd_7, Or.inl ⟨rfl, wd_802, sl_18⟩, md_X7_readsNumber.1, md_X7_readsNumber.2.1, md_X7_readsNumber.2.2⟩, 
  List.forall_mem_cons.mpr ⟨⟨wd_807, wd_810, wd_7, Or.inl ⟨rfl, wd_809, sl_19⟩, md_X7_readsKind.1, md_X7_readsKind.2.1, md_X7_readsKind.2.2⟩, 
  List.forall_mem_cons.mpr ⟨⟨wd_814, wd_817, wd_7, Or.inl ⟨rfl, wd_816, sl_20⟩, md_X7_readsSigned.1, md_X7_readsSigned.2.1, md_X7_readsSigned.2.2⟩, 
  List.forall_mem_cons.mpr ⟨⟨wd_825, wd_828, wd_7, Or.inl ⟨rfl, wd_827, sl_22⟩, md_X7_isInch.1, md_X7_isInch.2.1, md_X7_isInch.2.2⟩, 
  List.forall_mem_cons.mpr ⟨⟨wd_829, wd_831, wd_7, Or.inr ⟨rfl, wd_830⟩, md_X7_isEnd.1, md_X7_isEnd.2.1, md_X7_isEnd.2.2⟩, 
  List.forall_mem_cons.mpr ⟨⟨wd_832, wd_834, wd_7, Or.inr ⟨rfl, wd_833⟩, md_X7_washesOn.1, md_X7_washesOn.2.1, md_X7_washesOn.2.2⟩, 
  List.forall_mem_cons.mpr ⟨⟨wd_792, wd_795, wd_7, Or.inl ⟨rfl, wd_794, sl_16⟩, md_X7_readsStatement.1, md_X7_readsStatement.2.1, md_X7_readsStatement.2.2⟩, 
  List.forall_mem_cons.mpr ⟨⟨wd_818, wd_820, wd_7, Or.inr ⟨rfl, wd_819⟩, md_X7_lays.1, md_X7_lays.2.1, md_X7_lays.2.2⟩, 
  List.forall_mem_cons.mpr ⟨⟨wd_821, wd_824, wd_7, Or.inl ⟨rfl, wd_823, sl_21⟩, md_X7_isDone.1, md_X7_isDone.2.1, md_X7_isDone.2.2⟩, 
  List.forall_mem_cons.mpr ⟨⟨wd_890, wd_893, wd_7, Or.inl ⟨rfl, wd_892, sl_23⟩, md_X7_noFar.1, md_X7_noFar.2.1, md_X7_noFar.2.2⟩, 
  List.forall_mem_cons.mpr ⟨⟨wd_925, wd_927, wd_7, Or.inr ⟨rfl, wd_926⟩, md_X7_threads.1, md_X7_threads.2.1, md_X7_threads.2.2⟩, 
  List.forall_mem_cons.mpr ⟨⟨wd_928, wd_930, wd_7, Or.inr ⟨rfl, wd_929⟩, md_X7_anewSeconds.1, md_X7_anewSeconds.2.1, md_X7_anewSeconds.2.2⟩, 
  List.forall_mem_cons.mpr ⟨⟨wd_938, wd_940, wd_7, Or.inr ⟨rfl, wd_939⟩, md_X7_lostMany.1, md_X7_lostMany.2.1, md_X7_lostMany.2.2⟩, 
  List.forall_mem_cons.mpr ⟨⟨wd_953, wd_956, wd_7, Or.inl ⟨rfl, wd_955, sl_25⟩, md_X7_costliest.1, md_X7_costliest.2.1, md_X7_costliest.2.2⟩, 
  List.forall_mem_cons.mpr ⟨⟨wd_965, wd_968, wd_7, Or.inl ⟨rfl, wd_967, sl_26⟩, md_X7_allSeconds.1, md_X7_allSeconds.2.1, md_X7_allSeconds.2.2⟩, 
  List.forall_mem_cons.mpr ⟨⟨wd_973, wd_975, wd_7, Or.inr ⟨rfl, wd_974⟩, md_X7_wrongWashes.1, md_X7_wrongWashes.2.1, md_X7_wrongWashes.2.2⟩, 
  List.forall_mem_cons.mpr ⟨⟨wd_988, wd_990, wd_7, Or.inr ⟨rfl, wd_989⟩, md_X7_wrongSeconds.1, md_X7_wrongSeconds.2.1, md_X7_wrongSeconds.2.2⟩, 
  List.forall_mem_cons.mpr ⟨⟨wd_999, wd_1002, wd_7, Or.inl ⟨rfl, wd_1001, sl_27⟩, md_X7_mended.1, md_X7_mended.2.1, md_X7_mended.2.2⟩, 
  List.forall_mem_cons.mpr ⟨⟨wd_1035, wd_1038, wd_7, Or.inl ⟨rfl, wd_1037, sl_28⟩, md_X7_firstWrong.1, md_X7_firstWrong.2.1, md_X7_firstWrong.2.2⟩, 
  List.forall_mem_cons.mpr ⟨⟨wd_1047, wd_1050, wd_7, Or.inl ⟨rfl, wd_1049, sl_29⟩, md_X7_drawn.1, md_X7_drawn.2.1, md_X7_drawn.2.2⟩, 
  List.forall_mem_cons.mpr ⟨⟨wd_256, wd_259, wd_8, Or.inl ⟨rfl, wd_257, wd_258⟩, md_J0_indexOf_0f7a4.1, md_J0_indexOf_0f7a4.2.1, md_J0_indexOf_0f7a4.2.2⟩, 
  List.forall_mem_cons.mpr ⟨⟨wd_205, wd_208, wd_8, Or.inl ⟨rfl, wd_206, wd_207⟩, md_J0_coder_7d493.1, md_J0_coder_7d493.2.1, md_J0_coder_7d493.2.2⟩, 
  List.forall_mem_cons.mpr ⟨⟨wd_215, wd_218, wd_8, Or.inl ⟨rfl, wd_216, wd_217⟩, md_J0_isLatin1_aae02.1, md_J0_isLatin1_aae02.2.1, md_J0_isLatin1_aae02.2.2⟩, 
  List.forall_mem_cons.mpr ⟨⟨wd_219, wd_221, wd_9, Or.inr ⟨rfl, wd_220⟩, md_J1_charAt_3b067.1, md_J1_charAt_3b067.2.1, md_J1_charAt_3b067.2.2⟩, 
  List.forall_mem_cons.mpr ⟨⟨wd_264, wd_204, wd_8, Or.inl ⟨rfl, wd_202, wd_203⟩, md_J0_length_8abf5.1, md_J0_length_8abf5.2.1, md_J0_length_8abf5.2.2⟩, 
  List.forall_mem_cons.mpr ⟨⟨wd_260, wd_263, wd_8, Or.inl ⟨rfl, wd_261, wd_262⟩, md_J0_indexOf_7cf53.1, md_J0_indexOf_7cf53.2.1, md_J0_indexOf_7cf53.2.2⟩, 
  List.forall_mem_cons.mpr ⟨⟨wd_265, wd_267, wd_9, Or.inr ⟨rfl, wd_266⟩, md_J1_indexOf_4cfef.1, md_J1_indexOf_4cfef.2.1, md_J1_indexOf_4cfef.2.2⟩, 
  List.forall_mem_cons.mpr ⟨⟨wd_227, wd_229, wd_10, Or.inr ⟨rfl, wd_228⟩, md_J3_checkIndex_8e157.1, md_J3_checkIndex_8e157.2.1, md_J3_checkIndex_8e157.2.2⟩, 
  List.forall_mem_cons.mpr ⟨⟨wd_222, wd_224, wd_8, Or.inr ⟨rfl, wd_223⟩, md_J0_checkIndex_df160.1, md_J0_checkIndex_df160.2.1, md_J0_checkIndex_df160.2.2⟩, 
  List.forall_mem_cons.mpr ⟨⟨wd_268, wd_270, wd_9, Or.inr ⟨rfl, wd_269⟩, md_J1_canEncode_9a6ad.1, md_J1_canEncode_9a6ad.2.1, md_J1_canEncode_9a6ad.2.2⟩, 
  List.forall_mem_cons.mpr ⟨⟨wd_277, wd_279, wd_9, Or.inr ⟨rfl, wd_278⟩, md_J1_indexOfChar_4cfef.1, md_J1_indexOfChar_4cfef.2.1, md_J1_indexOfChar_4cfef.2.2⟩, 
  List.forall_mem_cons.mpr ⟨⟨wd_157, wd_160, wd_1, Or.inl ⟨rfl, wd_158, wd_159⟩, md_X6_letter.1, md_X6_letter.2.1, md_X6_letter.2.2⟩, 
  List.forall_mem_cons.mpr ⟨⟨wd_780, wd_783, wd_7, Or.inl ⟨rfl, wd_781, wd_782⟩, md_X7_letter.1, md_X7_letter.2.1, md_X7_letter.2.2⟩, 
  List.forall_mem_cons.mpr ⟨⟨wd_176, wd_179, wd_1, Or.inl ⟨rfl, wd_177, wd_178⟩, md_X6_hem.1, md_X6_hem.2.1, md_X6_hem.2.2⟩, 
  List.forall_mem_cons.mpr ⟨⟨wd_788, wd_791, wd_7, Or.inl ⟨rfl, wd_789, wd_790⟩, md_X7_hem.1, md_X7_hem.2.1, md_X7_hem.2.2⟩, 
  List.forall_mem_cons.mpr ⟨⟨wd_425, wd_428, wd_1, Or.inl ⟨rfl, wd_426, wd_427⟩, md_X6_inch.1, md_X6_inch.2.1, md_X6_inch.2.2⟩, fun _ h => absurd h List.not_mem_nil⟩⟩⟩⟩⟩⟩⟩⟩⟩⟩⟩⟩⟩⟩⟩⟩⟩⟩⟩⟩⟩⟩⟩⟩⟩⟩⟩⟩⟩⟩⟩⟩⟩⟩⟩⟩⟩⟩⟩⟩
set_option maxRecDepth 100000 in
theorem cal_ok4 : ∀ q ∈ CTB4, CalOK q := List.forall_mem_cons.mpr ⟨⟨wd_862, wd_865, wd_7, Or.inl ⟨rfl, wd_863, wd_864⟩, md_X7_inch.1, md_X7_inch.2.1, md_X7_inch.2.2⟩, 
  List.forall_mem_cons.mpr ⟨⟨wd_453, wd_456, wd_1, Or.inl ⟨rfl, wd_454, wd_455⟩, md_X6_turn.1, md_X6_turn.2.1, md_X6_turn.2.2⟩, 
  List.forall_mem_cons.mpr ⟨⟨wd_878, wd_881, wd_7, Or.inl ⟨rfl, wd_879, wd_880⟩, md_X7_turn.1, md_X7_turn.2.1, md_X7_turn.2.2⟩, 
  List.forall_mem_cons.mpr ⟨⟨wd_457, wd_460, wd_1, Or.inl ⟨rfl, wd_458, wd_459⟩, md_X6_inches.1, md_X6_inches.2.1, md_X6_inches.2.2⟩, 
  List.forall_mem_cons.mpr ⟨⟨wd_882, wd_885, wd_7, Or.inl ⟨rfl, wd_883, wd_884⟩, md_X7_inches.1, md_X7_inches.2.1, md_X7_inches.2.2⟩, 
  List.forall_mem_cons.mpr ⟨⟨wd_461, wd_464, wd_1, Or.inl ⟨rfl, wd_462, wd_463⟩, md_X6_end.1, md_X6_end.2.1, md_X6_end.2.2⟩, 
  List.forall_mem_cons.mpr ⟨⟨wd_886, wd_889, wd_7, Or.inl ⟨rfl, wd_887, wd_888⟩, md_X7_end.1, md_X7_end.2.1, md_X7_end.2.2⟩, 
  List.forall_mem_cons.mpr ⟨⟨wd_471, wd_474, wd_1, Or.inl ⟨rfl, wd_472, wd_473⟩, md_X6_tie.1, md_X6_tie.2.1, md_X6_tie.2.2⟩, 
  List.forall_mem_cons.mpr ⟨⟨wd_895, wd_898, wd_7, Or.inl ⟨rfl, wd_896, wd_897⟩, md_X7_tie.1, md_X7_tie.2.1, md_X7_tie.2.2⟩, 
  List.forall_mem_cons.mpr ⟨⟨wd_475, wd_478, wd_1, Or.inl ⟨rfl, wd_476, wd_477⟩, md_X6_sew.1, md_X6_sew.2.1, md_X6_sew.2.2⟩, 
  List.forall_mem_cons.mpr ⟨⟨wd_899, wd_902, wd_7, Or.inl ⟨rfl, wd_900, wd_901⟩, md_X7_sew.1, md_X7_sew.2.1, md_X7_sew.2.2⟩, 
  List.forall_mem_cons.mpr ⟨⟨wd_479, wd_482, wd_1, Or.inl ⟨rfl, wd_480, wd_481⟩, md_X6_set.1, md_X6_set.2.1, md_X6_set.2.2⟩, 
  List.forall_mem_cons.mpr ⟨⟨wd_903, wd_906, wd_7, Or.inl ⟨rfl, wd_904, wd_905⟩, md_X7_set.1, md_X7_set.2.1, md_X7_set.2.2⟩, 
  List.forall_mem_cons.mpr ⟨⟨wd_483, wd_486, wd_1, Or.inl ⟨rfl, wd_484, wd_485⟩, md_X6_pull.1, md_X6_pull.2.1, md_X6_pull.2.2⟩, 
  List.forall_mem_cons.mpr ⟨⟨wd_907, wd_910, wd_7, Or.inl ⟨rfl, wd_908, wd_909⟩, md_X7_pull.1, md_X7_pull.2.1, md_X7_pull.2.2⟩, 
  List.forall_mem_cons.mpr ⟨⟨wd_488, wd_491, wd_1, Or.inl ⟨rfl, wd_489, wd_490⟩, md_X6_bunch.1, md_X6_bunch.2.1, md_X6_bunch.2.2⟩, 
  List.forall_mem_cons.mpr ⟨⟨wd_911, wd_914, wd_7, Or.inl ⟨rfl, wd_912, wd_913⟩, md_X7_bunch.1, md_X7_bunch.2.1, md_X7_bunch.2.2⟩, 
  List.forall_mem_cons.mpr ⟨⟨wd_498, wd_501, wd_1, Or.inl ⟨rfl, wd_499, wd_500⟩, md_X6_anew.1, md_X6_anew.2.1, md_X6_anew.2.2⟩, 
  List.forall_mem_cons.mpr ⟨⟨wd_921, wd_924, wd_7, Or.inl ⟨rfl, wd_922, wd_923⟩, md_X7_anew.1, md_X7_anew.2.1, md_X7_anew.2.2⟩, 
  List.forall_mem_cons.mpr ⟨⟨wd_518, wd_521, wd_1, Or.inl ⟨rfl, wd_519, wd_520⟩, md_X6_wash.1, md_X6_wash.2.1, md_X6_wash.2.2⟩, 
  List.forall_mem_cons.mpr ⟨⟨wd_934, wd_937, wd_7, Or.inl ⟨rfl, wd_935, wd_936⟩, md_X7_wash.1, md_X7_wash.2.1, md_X7_wash.2.2⟩, 
  List.forall_mem_cons.mpr ⟨⟨wd_527, wd_530, wd_1, Or.inl ⟨rfl, wd_528, wd_529⟩, md_X6_of.1, md_X6_of.2.1, md_X6_of.2.2⟩, 
  List.forall_mem_cons.mpr ⟨⟨wd_941, wd_944, wd_7, Or.inl ⟨rfl, wd_942, wd_943⟩, md_X7_of.1, md_X7_of.2.1, md_X7_of.2.2⟩, 
  List.forall_mem_cons.mpr ⟨⟨wd_531, wd_534, wd_1, Or.inl ⟨rfl, wd_532, wd_533⟩, md_X6_out.1, md_X6_out.2.1, md_X6_out.2.2⟩, 
  List.forall_mem_cons.mpr ⟨⟨wd_945, wd_948, wd_7, Or.inl ⟨rfl, wd_946, wd_947⟩, md_X7_out.1, md_X7_out.2.1, md_X7_out.2.2⟩, 
  List.forall_mem_cons.mpr ⟨⟨wd_546, wd_549, wd_1, Or.inl ⟨rfl, wd_547, wd_548⟩, md_X6_soonest.1, md_X6_soonest.2.1, md_X6_soonest.2.2⟩, 
  List.forall_mem_cons.mpr ⟨⟨wd_957, wd_960, wd_7, Or.inl ⟨rfl, wd_958, wd_959⟩, md_X7_soonest.1, md_X7_soonest.2.1, md_X7_soonest.2.2⟩, 
  List.forall_mem_cons.mpr ⟨⟨wd_554, wd_557, wd_1, Or.inl ⟨rfl, wd_555, wd_556⟩, md_X6_better.1, md_X6_better.2.1, md_X6_better.2.2⟩, 
  List.forall_mem_cons.mpr ⟨⟨wd_961, wd_964, wd_7, Or.inl ⟨rfl, wd_962, wd_963⟩, md_X7_better.1, md_X7_better.2.1, md_X7_better.2.2⟩, 
  List.forall_mem_cons.mpr ⟨⟨wd_568, wd_571, wd_1, Or.inl ⟨rfl, wd_569, wd_570⟩, md_X6_inIn.1, md_X6_inIn.2.1, md_X6_inIn.2.2⟩, 
  List.forall_mem_cons.mpr ⟨⟨wd_969, wd_972, wd_7, Or.inl ⟨rfl, wd_970, wd_971⟩, md_X7_inIn.1, md_X7_inIn.2.1, md_X7_inIn.2.2⟩, 
  List.forall_mem_cons.mpr ⟨⟨wd_572, wd_575, wd_1, Or.inl ⟨rfl, wd_573, wd_574⟩, md_X6_lost.1, md_X6_lost.2.1, md_X6_lost.2.2⟩, 
  List.forall_mem_cons.mpr ⟨⟨wd_976, wd_979, wd_7, Or.inl ⟨rfl, wd_977, wd_978⟩, md_X7_lost.1, md_X7_lost.2.1, md_X7_lost.2.2⟩, 
  List.forall_mem_cons.mpr ⟨⟨wd_581, wd_584, wd_1, Or.inl ⟨rfl, wd_582, wd_583⟩, md_X6_still.1, md_X6_still.2.1, md_X6_still.2.2⟩, 
  List.forall_mem_cons.mpr ⟨⟨wd_980, wd_983, wd_7, Or.inl ⟨rfl, wd_981, wd_982⟩, md_X7_still.1, md_X7_still.2.1, md_X7_still.2.2⟩, 
  List.forall_mem_cons.mpr ⟨⟨wd_585, wd_588, wd_1, Or.inl ⟨rfl, wd_586, wd_587⟩, md_X6_keep.1, md_X6_keep.2.1, md_X6_keep.2.2⟩, 
  List.forall_mem_cons.mpr ⟨⟨wd_984, wd_987, wd_7, Or.inl ⟨rfl, wd_985, wd_986⟩, md_X7_keep.1, md_X7_keep.2.1, md_X7_keep.2.2⟩, 
  List.forall_mem_cons.mpr ⟨⟨wd_589, wd_592, wd_1, Or.inl ⟨rfl, wd_590, wd_591⟩, md_X6_deep.1, md_X6_deep.2.1, md_X6_deep.2.2⟩, 
  List.forall_mem_cons.mpr ⟨⟨wd_991, wd_994, wd_7, Or.inl ⟨rfl, wd_992, wd_993⟩, md_X7_deep.1, md_X7_deep.2.1, md_X7_deep.2.2⟩, 
  List.forall_mem_cons.mpr ⟨⟨wd_594, wd_597, wd_1, Or.inl ⟨rfl, wd_595, wd_596⟩, md_X6_stops.1, md_X6_stops.2.1, md_X6_stops.2.2⟩, fun _ h => absurd h List.not_mem_nil⟩⟩⟩⟩⟩⟩⟩⟩⟩⟩⟩⟩⟩⟩⟩⟩⟩⟩⟩⟩⟩⟩⟩⟩⟩⟩⟩⟩⟩⟩⟩⟩⟩⟩⟩⟩⟩⟩⟩⟩
set_option maxRecDepth 100000 in
theorem cal_ok5 : ∀ q ∈ CTB5, CalOK q := List.forall_mem_cons.mpr ⟨⟨wd_995, wd_998, wd_7, Or.inl ⟨rfl, wd_996, wd_997⟩, md_X7_stops.1, md_X7_stops.2.1, md_X7_stops.2.2⟩, 
  List.forall_mem_cons.mpr ⟨⟨wd_618, wd_621, wd_1, Or.inl ⟨rfl, wd_619, wd_620⟩, md_X6_care.1, md_X6_care.2.1, md_X6_care.2.2⟩, 
  List.forall_mem_cons.mpr ⟨⟨wd_1003, wd_1006, wd_7, Or.inl ⟨rfl, wd_1004, wd_1005⟩, md_X7_care.1, md_X7_care.2.1, md_X7_care.2.2⟩, 
  List.forall_mem_cons.mpr ⟨⟨wd_622, wd_625, wd_1, Or.inl ⟨rfl, wd_623, wd_624⟩, md_X6_holdsUp.1, md_X6_holdsUp.2.1, md_X6_holdsUp.2.2⟩, 
  List.forall_mem_cons.mpr ⟨⟨wd_1007, wd_1010, wd_7, Or.inl ⟨rfl, wd_1008, wd_1009⟩, md_X7_holdsUp.1, md_X7_holdsUp.2.1, md_X7_holdsUp.2.2⟩, 
  List.forall_mem_cons.mpr ⟨⟨wd_635, wd_638, wd_1, Or.inl ⟨rfl, wd_636, wd_637⟩, md_X6_middle.1, md_X6_middle.2.1, md_X6_middle.2.2⟩, 
  List.forall_mem_cons.mpr ⟨⟨wd_1011, wd_1014, wd_7, Or.inl ⟨rfl, wd_1012, wd_1013⟩, md_X7_middle.1, md_X7_middle.2.1, md_X7_middle.2.2⟩, 
  List.forall_mem_cons.mpr ⟨⟨wd_643, wd_646, wd_1, Or.inl ⟨rfl, wd_644, wd_645⟩, md_X6_cutOff.1, md_X6_cutOff.2.1, md_X6_cutOff.2.2⟩, 
  List.forall_mem_cons.mpr ⟨⟨wd_1015, wd_1018, wd_7, Or.inl ⟨rfl, wd_1016, wd_1017⟩, md_X7_cutOff.1, md_X7_cutOff.2.1, md_X7_cutOff.2.2⟩, 
  List.forall_mem_cons.mpr ⟨⟨wd_647, wd_650, wd_1, Or.inl ⟨rfl, wd_648, wd_649⟩, md_X6_bestPin.1, md_X6_bestPin.2.1, md_X6_bestPin.2.2⟩, 
  List.forall_mem_cons.mpr ⟨⟨wd_1019, wd_1022, wd_7, Or.inl ⟨rfl, wd_1020, wd_1021⟩, md_X7_bestPin.1, md_X7_bestPin.2.1, md_X7_bestPin.2.2⟩, 
  List.forall_mem_cons.mpr ⟨⟨wd_651, wd_654, wd_1, Or.inl ⟨rfl, wd_652, wd_653⟩, md_X6_worst.1, md_X6_worst.2.1, md_X6_worst.2.2⟩, 
  List.forall_mem_cons.mpr ⟨⟨wd_1023, wd_1026, wd_7, Or.inl ⟨rfl, wd_1024, wd_1025⟩, md_X7_worst.1, md_X7_worst.2.1, md_X7_worst.2.2⟩, 
  List.forall_mem_cons.mpr ⟨⟨wd_656, wd_659, wd_1, Or.inl ⟨rfl, wd_657, wd_658⟩, md_X6_which.1, md_X6_which.2.1, md_X6_which.2.2⟩, 
  List.forall_mem_cons.mpr ⟨⟨wd_1031, wd_1034, wd_7, Or.inl ⟨rfl, wd_1032, wd_1033⟩, md_X7_which.1, md_X7_which.2.1, md_X7_which.2.2⟩, 
  List.forall_mem_cons.mpr ⟨⟨wd_674, wd_677, wd_1, Or.inl ⟨rfl, wd_675, wd_676⟩, md_X6_row.1, md_X6_row.2.1, md_X6_row.2.2⟩, 
  List.forall_mem_cons.mpr ⟨⟨wd_1027, wd_1030, wd_7, Or.inl ⟨rfl, wd_1028, wd_1029⟩, md_X7_row.1, md_X7_row.2.1, md_X7_row.2.2⟩, 
  List.forall_mem_cons.mpr ⟨⟨wd_686, wd_689, wd_1, Or.inl ⟨rfl, wd_687, wd_688⟩, md_X6_judge.1, md_X6_judge.2.1, md_X6_judge.2.2⟩, 
  List.forall_mem_cons.mpr ⟨⟨wd_1039, wd_1042, wd_7, Or.inl ⟨rfl, wd_1040, wd_1041⟩, md_X7_judge.1, md_X7_judge.2.1, md_X7_judge.2.2⟩, 
  List.forall_mem_cons.mpr ⟨⟨wd_694, wd_697, wd_1, Or.inl ⟨rfl, wd_695, wd_696⟩, md_X6_lots.1, md_X6_lots.2.1, md_X6_lots.2.2⟩, 
  List.forall_mem_cons.mpr ⟨⟨wd_1043, wd_1046, wd_7, Or.inl ⟨rfl, wd_1044, wd_1045⟩, md_X7_lots.1, md_X7_lots.2.1, md_X7_lots.2.2⟩, 
  List.forall_mem_cons.mpr ⟨⟨wd_705, wd_708, wd_1, Or.inl ⟨rfl, wd_706, wd_707⟩, md_X6_image.1, md_X6_image.2.1, md_X6_image.2.2⟩, 
  List.forall_mem_cons.mpr ⟨⟨wd_1054, wd_1057, wd_7, Or.inl ⟨rfl, wd_1055, wd_1056⟩, md_X7_image.1, md_X7_image.2.1, md_X7_image.2.2⟩, 
  List.forall_mem_cons.mpr ⟨⟨wd_709, wd_712, wd_1, Or.inl ⟨rfl, wd_710, wd_711⟩, md_X6_on.1, md_X6_on.2.1, md_X6_on.2.2⟩, 
  List.forall_mem_cons.mpr ⟨⟨wd_1058, wd_1061, wd_7, Or.inl ⟨rfl, wd_1059, wd_1060⟩, md_X7_on.1, md_X7_on.2.1, md_X7_on.2.2⟩, 
  List.forall_mem_cons.mpr ⟨⟨wd_713, wd_716, wd_1, Or.inl ⟨rfl, wd_714, wd_715⟩, md_X6_count.1, md_X6_count.2.1, md_X6_count.2.2⟩, 
  List.forall_mem_cons.mpr ⟨⟨wd_1062, wd_1065, wd_7, Or.inl ⟨rfl, wd_1063, wd_1064⟩, md_X7_count.1, md_X7_count.2.1, md_X7_count.2.2⟩, fun _ h => absurd h List.not_mem_nil⟩⟩⟩⟩⟩⟩⟩⟩⟩⟩⟩⟩⟩⟩⟩⟩⟩⟩⟩⟩⟩⟩⟩⟩⟩⟩⟩
set_option maxRecDepth 100000 in
theorem cal_ok : ∀ q ∈ CTB, CalOK q := by
  show ∀ q ∈ CTB0 ++ (CTB1 ++ (CTB2 ++ (CTB3 ++ (CTB4 ++ (CTB5))))), CalOK q
  exact List.forall_mem_append.mpr ⟨cal_ok0, List.forall_mem_append.mpr ⟨cal_ok1, List.forall_mem_append.mpr ⟨cal_ok2, List.forall_mem_append.mpr ⟨cal_ok3, List.forall_mem_append.mpr ⟨cal_ok4, cal_ok5⟩⟩⟩⟩⟩
/-- Math.max 0, min 1, abs 2: own class, pool entry, which -/
def mthN : Nat → MethodName
  | 0 => Lib.Math.max.name
  | 1 => Lib.Math.min.name
  | _ => Lib.Math.abs.name
def MTB : List (Nat × Nat × Nat) := [(0, 85, 1), (0, 90, 0), (5, 158, 0), (5, 224, 2), (7, 17, 0), (11, 38, 1), (11, 92, 0)]
set_option maxRecDepth 100000 in
theorem mth_ok : ∀ q ∈ MTB, Cond.methodLink (cn q.1) q.2.1 (mthN q.2.2) ∈ TBg := List.forall_mem_cons.mpr ⟨wd_398, List.forall_mem_cons.mpr ⟨wd_414, List.forall_mem_cons.mpr ⟨wd_497, List.forall_mem_cons.mpr ⟨wd_639, List.forall_mem_cons.mpr ⟨wd_368, List.forall_mem_cons.mpr ⟨wd_274, List.forall_mem_cons.mpr ⟨wd_271, fun _ h => absurd h List.not_mem_nil⟩⟩⟩⟩⟩⟩⟩
set_option maxRecDepth 100000 in
theorem wm_max : Cond.code Lib.Math.max.name Lib.Math.max.code 2 (some .int) ∈ TBg := tb_2 33 (by decide +kernel) rfl
set_option maxRecDepth 100000 in
theorem ws_max : Cond.static Lib.Math.max.name ∈ TBg := wd_272
set_option maxRecDepth 100000 in
theorem wm_min : Cond.code Lib.Math.min.name Lib.Math.min.code 2 (some .int) ∈ TBg := tb_2 36 (by decide +kernel) rfl
set_option maxRecDepth 100000 in
theorem ws_min : Cond.static Lib.Math.min.name ∈ TBg := wd_275
set_option maxRecDepth 100000 in
theorem wm_abs : Cond.code Lib.Math.abs.name Lib.Math.abs.code 1 (some .int) ∈ TBg := tb_3 161 (by decide +kernel) rfl
set_option maxRecDepth 100000 in
theorem ws_abs : Cond.static Lib.Math.abs.name ∈ TBg := wd_640
set_option maxRecDepth 100000 in
theorem wi_Math : Cond.initialized "java/lang/Math" ∈ TBg := wd_13
set_option maxRecDepth 100000 in
theorem cw_X0 : ∀ w ∈ u_ws RX0 TX0 10, w ∈ TBg := by decide +kernel
set_option maxRecDepth 100000 in
theorem cw_X2 : ∀ w ∈ u_ws RX2 TX2 2, w ∈ TBg := by decide +kernel
set_option maxRecDepth 100000 in
theorem cw_X3 : ∀ w ∈ u_ws RX3 TX3 2, w ∈ TBg := by decide +kernel
set_option maxRecDepth 100000 in
theorem cw_X4 : ∀ w ∈ u_ws RX4 TX4 2, w ∈ TBg := by decide +kernel
set_option maxRecDepth 100000 in
theorem cw_X5 : ∀ w ∈ u_ws RX5 TX5 3, w ∈ TBg := by decide +kernel
set_option maxRecDepth 100000 in
theorem cw_X6 : ∀ w ∈ u_ws RX6 TX6 9, w ∈ TBg := by decide +kernel
set_option maxRecDepth 100000 in
theorem cw_X7 : ∀ w ∈ u_ws RX7 TX7 16, w ∈ TBg := by decide +kernel
end
section
/-! A SMALL MACHINE of my own: the store is 'cell, slot -> int' (references never change once the objects are made: the layout is fixed), one instruction is 'dsc', a run is 'ev'. -/
abbrev Sto : Type := Nat → Nat → Int32
abbrev Rs : Type := Option (Option Value × Sto)
abbrev Dn : Type := Option ((Option Value × Sto) ⊕ ((Nat × List Value × List Value × Sto) ⊕ (MD × List Value × List Value)))
def st (h : Sto) (c j : Nat) (v : Int32) : Sto := fun a b => if a = c ∧ b = j then v else h a b
/-- the class of an object's cell -/
def lyC : Nat → Nat
  | 0 => 5
  | 1 => 0
  | 4 => 0
  | 7 => 0
  | 10 => 4
  | 11 => 2
  | 12 => 1
  | 14 => 3
  | 17 => 6
  | _ => 99
/-- an array's length -/
def lyA : Nat → Option Nat
  | 2 => some 12
  | 3 => some 12
  | 5 => some 12
  | 6 => some 12
  | 8 => some 12
  | 9 => some 12
  | 13 => some 96
  | 15 => some 12
  | 16 => some 7
  | 18 => some 32
  | 19 => some 32
  | 20 => some 32
  | 21 => some 32
  | 22 => some 96
  | 23 => some 12
  | 24 => some 7
  | 25 => some 12
  | 26 => some 3
  | _ => none
/-- what a slot that is a reference refers to -/
def lyR : Nat → Nat → Option Nat
  | 0, 0 => some 1
  | 0, 1 => some 4
  | 0, 2 => some 7
  | 0, 4 => some 10
  | 0, 5 => some 11
  | 0, 6 => some 12
  | 0, 7 => some 14
  | 0, 8 => some 16
  | 1, 0 => some 2
  | 1, 1 => some 3
  | 4, 0 => some 5
  | 4, 1 => some 6
  | 7, 0 => some 8
  | 7, 1 => some 9
  | 12, 0 => some 13
  | 14, 0 => some 15
  | 17, 0 => some 18
  | 17, 1 => some 19
  | 17, 2 => some 20
  | 17, 3 => some 21
  | 17, 5 => some 22
  | 17, 6 => some 23
  | 17, 7 => some 24
  | 17, 10 => some 25
  | 17, 13 => some 26
  | _, _ => none
/-- slots that may be written: 1 an int, 2 a boolean -/
def pty : Nat → Nat → Nat
  | 0, 0 => 0
  | 0, 1 => 0
  | 0, 5 => 2
  | 0, 6 => 2
  | 0, 7 => 2
  | 0, _ => 1
  | 1, 1 => 1
  | 2, _ => 1
  | 3, 1 => 1
  | 4, _ => 1
  | 5, 3 => 2
  | 6, 4 => 2
  | 6, 8 => 1
  | 6, 9 => 1
  | 6, 11 => 1
  | 6, 12 => 1
  | 6, 14 => 1
  | 6, 15 => 1
  | _, _ => 0
def rcv (c : Nat) : Nat := if c < 27 then lyC c else if 100 ≤ c ∧ c < 107 then 10 else 98
def okV : Value → Bool
  | .int _ => true
  | .ref _ => true
  | _ => false
def fldT (own idx : Nat) : Option (Nat × Nat) := (FTB.find? (fun q => q.1 == own && q.2.1 == idx)).map (fun q => q.2.2)
def ldT (own idx : Nat) : Option Int32 := (LTB.find? (fun q => q.1 == own && q.2.1 == idx)).map (fun q => q.2.2)
def stT (own idx : Nat) : Option Nat := STB.findIdx? (fun q => q.1 == own && q.2.1 == idx)
def calT (own idx : Nat) : Option (Nat × MD × Nat) := (CTB.find? (fun q => q.1 == own && q.2.1 == idx)).map (fun q => q.2.2)
def mthT (own idx : Nat) : Option Nat := (MTB.find? (fun q => q.1 == own && q.2.1 == idx)).map (fun q => q.2.2)
abbrev MD.own (md : MD) : Nat := md.1
abbrev MD.nam (md : MD) : MethodName := md.2.1
abbrev MD.cod (md : MD) : ByteArray := md.2.2.1
abbrev MD.mxl (md : MD) : Nat := md.2.2.2.1
abbrev MD.ret (md : MD) : Option FieldType := md.2.2.2.2.1
abbrev MD.frm (md : MD) : Nat := md.2.2.2.2.2.1
abbrev MD.loc (md : MD) : Nat := md.2.2.2.2.2.2
abbrev Gg (pc : Nat) (L S : List Value) (h : Sto) : Dn := some (.inr (.inl (pc, L, S, h)))
def x_push (v : Value) (n len pc : Nat) (L S : List Value) (h : Sto) : Dn := if len = n then Gg (pc + n) L (v :: S) h else none
def x_ldI (i n len pc : Nat) (L S : List Value) (h : Sto) : Dn := match L[i]? with
  | some (.int x) => if len = n then Gg (pc + n) L (.int x :: S) h else none
  | _ => none
def x_ldA (i n len pc : Nat) (L S : List Value) (h : Sto) : Dn := match L[i]? with
  | some (.ref x) => if len = n then Gg (pc + n) L (.ref x :: S) h else none
  | _ => none
def x_st (i n len pc : Nat) (L S : List Value) (h : Sto) : Dn := match S with
  | v :: S' => if len = n ∧ i < L.length ∧ okV v = true then Gg (pc + n) (L.set i v) S' h else none
  | _ => none
def x_iinc (i : Nat) (z : Int) (len pc : Nat) (L S : List Value) (h : Sto) : Dn := match L[i]? with
  | some (.int x) => if len = 3 then Gg (pc + 3) (L.set i (.int (x + Int32.ofInt z))) S h else none
  | _ => none
def x_bin (f : Int32 → Int32 → Int32) (len pc : Nat) (L S : List Value) (h : Sto) : Dn := match S with
  | .int y :: .int x :: S' => if len = 1 then Gg (pc + 1) L (.int (f x y) :: S') h else none
  | _ => none
def x_bin0 (f : Int32 → Int32 → Int32) (len pc : Nat) (L S : List Value) (h : Sto) : Dn := match S with
  | .int y :: .int x :: S' => if len = 1 ∧ ¬ y = 0 then Gg (pc + 1) L (.int (f x y) :: S') h else none
  | _ => none
def x_un (f : Int32 → Int32) (len pc : Nat) (L S : List Value) (h : Sto) : Dn := match S with
  | .int x :: S' => if len = 1 then Gg (pc + 1) L (.int (f x) :: S') h else none
  | _ => none
def x_dup (len pc : Nat) (L S : List Value) (h : Sto) : Dn := match S with
  | v :: S' => if len = 1 ∧ okV v = true then Gg (pc + 1) L (v :: v :: S') h else none
  | _ => none
def x_pop (len pc : Nat) (L S : List Value) (h : Sto) : Dn := match S with
  | v :: S' => if len = 1 ∧ okV v = true then Gg (pc + 1) L S' h else none
  | _ => none
def x_dup2 (len pc : Nat) (L S : List Value) (h : Sto) : Dn := match S with
  | v :: w :: S' => if len = 1 ∧ okV v = true ∧ okV w = true then Gg (pc + 1) L (v :: w :: v :: w :: S') h else none
  | _ => none
def x_jump (pc : Nat) (off : Int) (L S : List Value) (h : Sto) : Dn := if 0 ≤ (pc : Int) + off then Gg ((pc : Int) + off).toNat L S h else none
def x_hold1 (c : ClassFile.Cond) (x : Int32) : Bool := match c with
  | .eq => decide (x = 0)
  | .ne => decide (¬ x = 0)
  | .lt => decide (x < 0)
  | .ge => decide (0 ≤ x)
  | .gt => decide (0 < x)
  | .le => decide (x ≤ 0)
def x_hold2 (c : ClassFile.Cond) (x y : Int32) : Bool := match c with
  | .eq => decide (x = y)
  | .ne => decide (¬ x = y)
  | .lt => decide (x < y)
  | .ge => decide (y ≤ x)
  | .gt => decide (y < x)
  | .le => decide (x ≤ y)
def x_if (c : ClassFile.Cond) (off : Int) (len pc : Nat) (L S : List Value) (h : Sto) : Dn := match S with
  | .int x :: S' => if len = 3 then (if x_hold1 c x = true then x_jump pc off L S' h else Gg (pc + 3) L S' h) else none
  | _ => none
def x_icmp (c : ClassFile.Cond) (off : Int) (len pc : Nat) (L S : List Value) (h : Sto) : Dn := match S with
  | .int y :: .int x :: S' => if len = 3 then (if x_hold2 c x y = true then x_jump pc off L S' h else Gg (pc + 3) L S' h) else none
  | _ => none
def x_goto (off : Int) (len pc : Nat) (L S : List Value) (h : Sto) : Dn := if len = 3 then x_jump pc off L S h else none
def x_tsw (d lo hi : Int) (offs : Array Int) (pc : Nat) (L S : List Value) (h : Sto) : Dn := match S with
  | .int x :: S' => if x.toInt < lo ∨ hi < x.toInt then x_jump pc d L S' h else (match offs[(x.toInt - lo).toNat]? with
      | some o => x_jump pc o L S' h
      | none => none)
  | _ => none
def x_lsw (d : Int) (ps : Array (Int × Int)) (pc : Nat) (L S : List Value) (h : Sto) : Dn := match S with
  | .int x :: S' => if (ps.toList.zip (ps.toList.drop 1)).all (fun (a, next) => a.1 < next.1) = true then x_jump pc (Op.lookupswitch.offset ps.toList d x.toInt) L S' h else none
  | _ => none
def x_getf (own idx len pc : Nat) (L S : List Value) (h : Sto) : Dn := match S with
  | .ref c :: S' => if c < 27 then (match fldT own idx with
      | some (ci, j) => if len = 3 ∧ lyC c = ci then (match lyR c j with
          | some t => Gg (pc + 3) L (.ref t :: S') h
          | none => Gg (pc + 3) L (.int (h c j) :: S') h) else none
      | none => none)
    else if len = 3 ∧ 100 ≤ c ∧ c < 107 ∧ own = 10 then (if idx = 9 then Gg (pc + 3) L (.ref (c + 100) :: S') h else if idx = 15 then Gg (pc + 3) L (.int 0 :: S') h else none) else none
  | _ => none
def x_putf (own idx len pc : Nat) (L S : List Value) (h : Sto) : Dn := match S with
  | .int v :: .ref c :: S' => (match fldT own idx with
      | some (ci, j) => if len = 3 ∧ c < 27 ∧ lyC c = ci ∧ (pty ci j = 1 ∨ (pty ci j = 2 ∧ (v = 0 ∨ v = 1))) then Gg (pc + 3) L S' (st h c j v) else none
      | none => none)
  | _ => none
def x_iald (len pc : Nat) (L S : List Value) (h : Sto) : Dn := match S with
  | .int i :: .ref c :: S' => if c = 400 then (if i < 0 ∨ (h 401 0).toNatClampNeg ≤ i.toNatClampNeg then none else if len = 1 then Gg (pc + 1) L (.int (h 400 i.toNatClampNeg) :: S') h else none)
    else (match lyA c with
      | some n => if i < 0 ∨ n ≤ i.toNatClampNeg then none else if len = 1 then Gg (pc + 1) L (.int (h c i.toNatClampNeg) :: S') h else none
      | none => none)
  | _ => none
def x_bald (len pc : Nat) (L S : List Value) (h : Sto) : Dn := match S with
  | .int i :: .ref c :: S' => if len = 1 ∧ 200 ≤ c ∧ c < 207 ∧ ¬ (i < 0 ∨ sLen.getD (c - 200) 0 ≤ i.toNatClampNeg) then Gg (pc + 1) L (.int ((sByt.getD (c - 200) []).getD i.toNatClampNeg 0) :: S') h else none
  | _ => none
def x_iast (len pc : Nat) (L S : List Value) (h : Sto) : Dn := match S with
  | .int v :: .int i :: .ref c :: S' => (match lyA c with
      | some n => if i < 0 ∨ n ≤ i.toNatClampNeg then none else if len = 1 then Gg (pc + 1) L S' (st h c i.toNatClampNeg v) else none
      | none => none)
  | _ => none
def x_alen (len pc : Nat) (L S : List Value) (h : Sto) : Dn := match S with
  | .ref c :: S' => if c = 400 then (if len = 1 then Gg (pc + 1) L (.int (h 401 0) :: S') h else none)
    else if 200 ≤ c ∧ c < 207 then (if len = 1 then Gg (pc + 1) L (.int (Int32.ofNat (sLen.getD (c - 200) 0)) :: S') h else none)
    else (match lyA c with
      | some n => if len = 1 then Gg (pc + 1) L (.int (Int32.ofNat n) :: S') h else none
      | none => none)
  | _ => none
def x_gets (own idx len pc : Nat) (L S : List Value) (h : Sto) : Dn := if len = 3 ∧ own = 10 then (if idx = 38 then Gg (pc + 3) L (.int 1 :: S) h else if idx = 1053 then Gg (pc + 3) L (.ref 300 :: S) h else none) else none
def x_ldc (own idx n len pc : Nat) (L S : List Value) (h : Sto) : Dn := match ldT own idx with
  | some v => if len = n then Gg (pc + n) L (.int v :: S) h else none
  | none => (match stT own idx with
      | some i => if len = n ∧ n = 2 then Gg (pc + 2) L (.ref (100 + i) :: S) h else none
      | none => none)
def x_recv (kd : Nat) (A : List Value) (cl : Nat) : Bool := if kd = 0 then (match A with
    | .ref c :: _ => rcv c == cl
    | _ => false) else true
def x_math (w : Nat) (md : MD) (len pc : Nat) (L S : List Value) (h : Sto) : Dn := match w with
  | 0 => (match S with
      | .int y :: .int x :: S' => if len = 3 ∧ 1 ≤ md.frm ∧ 21 ≤ md.loc ∧ S'.length ≤ 8 ∧ S'.all okV = true then Gg (pc + 3) L (.int (if x < y then y else x) :: S') h else none
      | _ => none)
  | 1 => (match S with
      | .int y :: .int x :: S' => if len = 3 ∧ 1 ≤ md.frm ∧ 21 ≤ md.loc ∧ S'.length ≤ 8 ∧ S'.all okV = true then Gg (pc + 3) L (.int (if y < x then y else x) :: S') h else none
      | _ => none)
  | _ => (match S with
      | .int x :: S' => if len = 3 ∧ 1 ≤ md.frm ∧ 21 ≤ md.loc ∧ S'.length ≤ 8 ∧ S'.all okV = true then Gg (pc + 3) L (.int (if 0 ≤ x then x else 0 - x) :: S') h else none
      | _ => none)
def x_call (kd : Nat) (md : MD) (idx len : Nat) (S : List Value) : Dn := match calT md.own idx with
  | some (k, cal, n) => if len = 3 ∧ k = kd ∧ cal.frm + 1 ≤ md.frm ∧ 8 + (cal.mxl + 11) + cal.loc ≤ md.loc ∧ n + (1 - kd) ≤ S.length ∧ n + (1 - kd) ≤ cal.mxl ∧ (S.drop (n + (1 - kd))).length ≤ 8 ∧ S.all okV = true ∧ x_recv kd (S.take (n + (1 - kd))).reverse cal.own = true then
      some (.inr (.inr (cal, (S.take (n + (1 - kd))).reverse, S.drop (n + (1 - kd))))) else none
  | none => none
def x_ireturn (md : MD) (len : Nat) (S : List Value) (h : Sto) : Dn := match S with
  | [.int v] => if len = 1 ∧ (md.ret = some .int ∨ (md.ret = some .boolean ∧ (v = 0 ∨ v = 1)) ∨ (md.ret = some .char ∧ narrow .char (.int v) = .int v) ∨ (md.ret = some .byte ∧ narrow .byte (.int v) = .int v)) then some (.inl (some (.int v), h)) else none
  | _ => none
def x_areturn (md : MD) (len : Nat) (S : List Value) (h : Sto) : Dn := match S with
  | [.ref c] => if len = 1 ∧ md.ret = some (.object "java/lang/String") ∧ 100 ≤ c ∧ c < 107 then some (.inl (some (.ref c), h)) else none
  | _ => none
def x_return (md : MD) (len : Nat) (S : List Value) (h : Sto) : Dn := match S with
  | [] => if len = 1 ∧ md.ret = none then some (.inl (none, h)) else none
  | _ => none
def ins (md : MD) (len pc : Nat) (L S : List Value) (h : Sto) : Instr → Dn
  | .iconst z => x_push (.int (Int32.ofInt z)) 1 len pc L S h
  | .bipush z => x_push (.int (Int8.ofInt z).toInt32) 2 len pc L S h
  | .sipush z => x_push (.int (Int16.ofInt z).toInt32) 3 len pc L S h
  | .ldc i => x_ldc md.own i 2 len pc L S h
  | .ldc_w i => x_ldc md.own i 3 len pc L S h
  | .iload i => x_ldI i 2 len pc L S h
  | .iload_n i => x_ldI i.val 1 len pc L S h
  | .aload i => x_ldA i 2 len pc L S h
  | .aload_n i => x_ldA i.val 1 len pc L S h
  | .istore i => x_st i 2 len pc L S h
  | .istore_n i => x_st i.val 1 len pc L S h
  | .astore i => x_st i 2 len pc L S h
  | .astore_n i => x_st i.val 1 len pc L S h
  | .iinc i z => x_iinc i z len pc L S h
  | .iadd => x_bin (fun x y => x + y) len pc L S h
  | .isub => x_bin (fun x y => x - y) len pc L S h
  | .imul => x_bin (fun x y => x * y) len pc L S h
  | .iand => x_bin (fun x y => x &&& y) len pc L S h
  | .ior => x_bin (fun x y => x ||| y) len pc L S h
  | .ixor => x_bin (fun x y => x ^^^ y) len pc L S h
  | .ishl => x_bin (fun x y => x <<< (y &&& 31)) len pc L S h
  | .ishr => x_bin (fun x y => x >>> (y &&& 31)) len pc L S h
  | .idiv => x_bin0 (fun x y => x / y) len pc L S h
  | .irem => x_bin0 (fun x y => x - x / y * y) len pc L S h
  | .ineg => x_un (fun x => -x) len pc L S h
  | .i2b => x_un (fun x => x.toInt8.toInt32) len pc L S h
  | .i2c => x_un (fun x => (x.toUInt32 % 65536).toInt32) len pc L S h
  | .dup => x_dup len pc L S h
  | .pop => x_pop len pc L S h
  | .dup2 => x_dup2 len pc L S h
  | .ifCond c off => x_if c off len pc L S h
  | .if_icmp c off => x_icmp c off len pc L S h
  | .goto off => x_goto off len pc L S h
  | .tableswitch d lo hi offs => x_tsw d lo hi offs pc L S h
  | .lookupswitch d ps => x_lsw d ps pc L S h
  | .getfield i => x_getf md.own i len pc L S h
  | .putfield i => x_putf md.own i len pc L S h
  | .iaload => x_iald len pc L S h
  | .baload => x_bald len pc L S h
  | .iastore => x_iast len pc L S h
  | .arraylength => x_alen len pc L S h
  | .getstatic i => x_gets md.own i len pc L S h
  | .invokevirtual i => x_call 0 md i len S
  | .invokestatic i => (match mthT md.own i with
      | some w => x_math w md len pc L S h
      | none => x_call 1 md i len S)
  | .ireturn => x_ireturn md len S h
  | .areturn => x_areturn md len S h
  | .return_ => x_return md len S h
  | _ => none
def dsc (md : MD) (pc : Nat) (L S : List Value) (h : Sto) : Dn := match decode md.cod pc with
  | .ok (i, len) => ins md len pc L S h i
  | .error _ => none
def stp (E : MD → Nat → List Value → List Value → Sto → Rs) (md : MD) (pc : Nat) (L S : List Value) (h : Sto) : Rs := match dsc md pc L S h with
  | none => none
  | some (.inl r) => some r
  | some (.inr (.inl (pc', L', S', h'))) => E md pc' L' S' h'
  | some (.inr (.inr (cal, A, rest))) => (E cal 0 (A ++ List.replicate (cal.mxl - A.length) .null) [] h).bind (fun q => E md (pc + 3) L (q.1.toList ++ rest) q.2)
def run : Nat → MD → Nat → List Value → List Value → Sto → Rs
  | 0 => fun _ _ _ _ _ => none
  | n + 1 => stp (run n)
theorem stp_mono {E F : MD → Nat → List Value → List Value → Sto → Rs} (hEF : ∀ md pc L S h r, E md pc L S h = some r → F md pc L S h = some r) {md : MD} {pc : Nat} {L S : List Value} {h : Sto} {r : Option Value × Sto} (hr : stp E md pc L S h = some r) : stp F md pc L S h = some r := by
  unfold stp at hr ⊢
  cases hd : dsc md pc L S h with
  | none => rw [hd] at hr; cases hr
  | some d =>
    rw [hd] at hr
    rcases d with a | ⟨pc', L', S', h'⟩ | ⟨cal, A, rest⟩
    · exact hr
    · exact hEF _ _ _ _ _ _ hr
    · dsimp only at hr ⊢
      obtain ⟨q, h1, h2⟩ := Option.bind_eq_some_iff.mp hr
      exact Option.bind_eq_some_iff.mpr ⟨q, hEF _ _ _ _ _ _ h1, hEF _ _ _ _ _ _ h2⟩
theorem run_succ : ∀ (n : Nat) (md : MD) (pc : Nat) (L S : List Value) (h : Sto) (r : Option Value × Sto), run n md pc L S h = some r → run (n + 1) md pc L S h = some r := by
  intro n
  induction n with
  | zero => intro md pc L S h r hr; cases hr
  | succ n ih => intro md pc L S h r hr; exact stp_mono ih hr
theorem run_le {n k : Nat} (hk : n ≤ k) {md : MD} {pc : Nat} {L S : List Value} {h : Sto} {r : Option Value × Sto} (hr : run n md pc L S h = some r) : run k md pc L S h = some r := by
  induction hk with
  | refl => exact hr
  | step _ ih => exact run_succ _ _ _ _ _ _ _ ih
noncomputable def ev (md : MD) (pc : Nat) (L S : List Value) (h : Sto) : Rs := @dite _ (∃ n r, run n md pc L S h = some r) (Classical.propDecidable _) (fun H => run H.choose md pc L S h) (fun _ => none)
theorem ev_iff {md : MD} {pc : Nat} {L S : List Value} {h : Sto} {r : Option Value × Sto} : ev md pc L S h = some r ↔ ∃ n, run n md pc L S h = some r := by
  unfold ev
  by_cases H : ∃ n r, run n md pc L S h = some r
  · rw [dif_pos H]
    constructor
    · intro e; exact ⟨_, e⟩
    · rintro ⟨n, e⟩
      obtain ⟨r', hr'⟩ := H.choose_spec
      have h1 := run_le (Nat.le_max_left n H.choose) e
      have h2 := run_le (Nat.le_max_right n H.choose) hr'
      rw [h1] at h2
      rw [hr', h2]
  · rw [dif_neg H]
    constructor
    · intro e; cases e
    · rintro ⟨n, e⟩; exact absurd ⟨n, r, e⟩ H
theorem rs_ext {a b : Rs} (h : ∀ r, a = some r ↔ b = some r) : a = b := by
  cases a with
  | none =>
    cases b with
    | none => rfl
    | some y => exact ((h y).mpr rfl)
  | some x => exact ((h x).mp rfl).symm
theorem ev_fix (md : MD) (pc : Nat) (L S : List Value) (h : Sto) : ev md pc L S h = stp ev md pc L S h := by
  apply rs_ext
  intro r
  constructor
  · intro e
    obtain ⟨n, hn⟩ := ev_iff.mp e
    cases n with
    | zero => cases hn
    | succ n => exact stp_mono (fun md pc L S h r hr => ev_iff.mpr ⟨n, hr⟩) hn
  · intro e
    apply ev_iff.mpr
    unfold stp at e
    cases hd : dsc md pc L S h with
    | none => rw [hd] at e; cases e
    | some d =>
      rw [hd] at e
      rcases d with a | ⟨pc', L', S', h'⟩ | ⟨cal, A, rest⟩
      · exact ⟨1, by show stp (run 0) md pc L S h = _; unfold stp; rw [hd]; exact e⟩
      · obtain ⟨n, hn⟩ := ev_iff.mp e
        exact ⟨n + 1, by show stp (run n) md pc L S h = _; unfold stp; rw [hd]; exact hn⟩
      · dsimp only at e
        obtain ⟨q, h1, h2⟩ := Option.bind_eq_some_iff.mp e
        obtain ⟨n1, g1⟩ := ev_iff.mp h1
        obtain ⟨n2, g2⟩ := ev_iff.mp h2
        exact ⟨max n1 n2 + 1, by
          show stp (run (max n1 n2)) md pc L S h = _
          unfold stp
          rw [hd]
          exact Option.bind_eq_some_iff.mpr ⟨q, run_le (Nat.le_max_left _ _) g1, run_le (Nat.le_max_right _ _) g2⟩⟩
theorem ev_go {md : MD} {pc : Nat} {L S : List Value} {h : Sto} {pc' : Nat} {L' S' : List Value} {h' : Sto} (hd : dsc md pc L S h = Gg pc' L' S' h') : ev md pc L S h = ev md pc' L' S' h' := by
  rw [ev_fix]; unfold stp; rw [hd]
theorem ev_ret {md : MD} {pc : Nat} {L S : List Value} {h : Sto} {r : Option Value × Sto} (hd : dsc md pc L S h = some (.inl r)) : ev md pc L S h = some r := by
  rw [ev_fix]; unfold stp; rw [hd]
theorem ev_cal {md : MD} {pc : Nat} {L S : List Value} {h : Sto} {cal : MD} {A rest : List Value} (hd : dsc md pc L S h = some (.inr (.inr (cal, A, rest)))) : ev md pc L S h = (ev cal 0 (A ++ List.replicate (cal.mxl - A.length) .null) [] h).bind (fun q => ev md (pc + 3) L (q.1.toList ++ rest) q.2) := by
  rw [ev_fix]; unfold stp; rw [hd]
theorem ev_no {md : MD} {pc : Nat} {L S : List Value} {h : Sto} (hd : dsc md pc L S h = none) : ev md pc L S h = none := by
  rw [ev_fix]; unfold stp; rw [hd]
theorem dsc_of {md : MD} {pc len : Nat} {i : Instr} (hd : decode md.cod pc = .ok (i, len)) (L S : List Value) (h : Sto) : dsc md pc L S h = ins md len pc L S h i := by
  unfold dsc; rw [hd]
end
section
/-! One rule an instruction, as equations of 'ev'. -/
section RULES
variable {md : MD} {pc : Nat} {L S : List Value} {h : Sto} {x y v : Int32}
theorem g_iconst {z : Int} (hd : decode md.cod pc = .ok (.iconst z, 1)) (hv : Int32.ofInt z = v) : ev md pc L S h = ev md (pc + 1) L (.int v :: S) h := by subst hv; exact ev_go (by rw [dsc_of hd]; rfl)
theorem g_bipush {z : Int} (hd : decode md.cod pc = .ok (.bipush z, 2)) (hv : (Int8.ofInt z).toInt32 = v) : ev md pc L S h = ev md (pc + 2) L (.int v :: S) h := by subst hv; exact ev_go (by rw [dsc_of hd]; rfl)
theorem g_sipush {z : Int} (hd : decode md.cod pc = .ok (.sipush z, 3)) (hv : (Int16.ofInt z).toInt32 = v) : ev md pc L S h = ev md (pc + 3) L (.int v :: S) h := by subst hv; exact ev_go (by rw [dsc_of hd]; rfl)
theorem g_ldcI {i : Nat} (hd : decode md.cod pc = .ok (.ldc i, 2)) (hv : ldT md.own i = some v) : ev md pc L S h = ev md (pc + 2) L (.int v :: S) h := ev_go (by rw [dsc_of hd]; dsimp only [ins, x_ldc]; rw [hv]; rfl)
theorem g_ldcwI {i : Nat} (hd : decode md.cod pc = .ok (.ldc_w i, 3)) (hv : ldT md.own i = some v) : ev md pc L S h = ev md (pc + 3) L (.int v :: S) h := ev_go (by rw [dsc_of hd]; dsimp only [ins, x_ldc]; rw [hv]; rfl)
theorem g_ldcS {i k : Nat} (hd : decode md.cod pc = .ok (.ldc i, 2)) (hv : ldT md.own i = none) (hs : stT md.own i = some k) : ev md pc L S h = ev md (pc + 2) L (.ref (100 + k) :: S) h := ev_go (by rw [dsc_of hd]; dsimp only [ins, x_ldc]; rw [hv]; dsimp only; rw [hs]; rfl)
theorem g_iload {i : Nat} (hd : decode md.cod pc = .ok (.iload i, 2)) (hl : L[i]? = some (.int x)) : ev md pc L S h = ev md (pc + 2) L (.int x :: S) h := ev_go (by rw [dsc_of hd]; dsimp only [ins, x_ldI]; rw [hl]; rfl)
theorem g_iload_n {i : Fin 4} (hd : decode md.cod pc = .ok (.iload_n i, 1)) (hl : L[i.val]? = some (.int x)) : ev md pc L S h = ev md (pc + 1) L (.int x :: S) h := ev_go (by rw [dsc_of hd]; dsimp only [ins, x_ldI]; rw [hl]; rfl)
theorem g_aload {i c : Nat} (hd : decode md.cod pc = .ok (.aload i, 2)) (hl : L[i]? = some (.ref c)) : ev md pc L S h = ev md (pc + 2) L (.ref c :: S) h := ev_go (by rw [dsc_of hd]; dsimp only [ins, x_ldA]; rw [hl]; rfl)
theorem g_aload_n {i : Fin 4} {c : Nat} (hd : decode md.cod pc = .ok (.aload_n i, 1)) (hl : L[i.val]? = some (.ref c)) : ev md pc L S h = ev md (pc + 1) L (.ref c :: S) h := ev_go (by rw [dsc_of hd]; dsimp only [ins, x_ldA]; rw [hl]; rfl)
theorem g_istore {i : Nat} {L' : List Value} (hd : decode md.cod pc = .ok (.istore i, 2)) (hi : i < L.length) (hl : L.set i (.int x) = L') : ev md pc L (.int x :: S) h = ev md (pc + 2) L' S h := by subst hl; exact ev_go (by rw [dsc_of hd]; dsimp only [ins, x_st]; rw [if_pos ⟨rfl, hi, rfl⟩])
theorem g_istore_n {i : Fin 4} {L' : List Value} (hd : decode md.cod pc = .ok (.istore_n i, 1)) (hi : i.val < L.length) (hl : L.set i.val (.int x) = L') : ev md pc L (.int x :: S) h = ev md (pc + 1) L' S h := by subst hl; exact ev_go (by rw [dsc_of hd]; dsimp only [ins, x_st]; rw [if_pos ⟨rfl, hi, rfl⟩])
theorem g_astore {i c : Nat} {L' : List Value} (hd : decode md.cod pc = .ok (.astore i, 2)) (hi : i < L.length) (hl : L.set i (.ref c) = L') : ev md pc L (.ref c :: S) h = ev md (pc + 2) L' S h := by subst hl; exact ev_go (by rw [dsc_of hd]; dsimp only [ins, x_st]; rw [if_pos ⟨rfl, hi, rfl⟩])
theorem g_astore_n {i : Fin 4} {c : Nat} {L' : List Value} (hd : decode md.cod pc = .ok (.astore_n i, 1)) (hi : i.val < L.length) (hl : L.set i.val (.ref c) = L') : ev md pc L (.ref c :: S) h = ev md (pc + 1) L' S h := by subst hl; exact ev_go (by rw [dsc_of hd]; dsimp only [ins, x_st]; rw [if_pos ⟨rfl, hi, rfl⟩])
theorem g_iinc {i : Nat} {z : Int} {L' : List Value} (hd : decode md.cod pc = .ok (.iinc i z, 3)) (hx : L[i]? = some (.int x)) (hv : Int32.ofInt z = v) (hl : L.set i (.int (x + v)) = L') : ev md pc L S h = ev md (pc + 3) L' S h := by subst hl; subst hv; exact ev_go (by rw [dsc_of hd]; dsimp only [ins, x_iinc]; rw [hx]; rfl)
theorem g_iadd (hd : decode md.cod pc = .ok (.iadd, 1)) : ev md pc L (.int y :: .int x :: S) h = ev md (pc + 1) L (.int (x + y) :: S) h := ev_go (by rw [dsc_of hd]; rfl)
theorem g_isub (hd : decode md.cod pc = .ok (.isub, 1)) : ev md pc L (.int y :: .int x :: S) h = ev md (pc + 1) L (.int (x - y) :: S) h := ev_go (by rw [dsc_of hd]; rfl)
theorem g_imul (hd : decode md.cod pc = .ok (.imul, 1)) : ev md pc L (.int y :: .int x :: S) h = ev md (pc + 1) L (.int (x * y) :: S) h := ev_go (by rw [dsc_of hd]; rfl)
theorem g_iand (hd : decode md.cod pc = .ok (.iand, 1)) : ev md pc L (.int y :: .int x :: S) h = ev md (pc + 1) L (.int (x &&& y) :: S) h := ev_go (by rw [dsc_of hd]; rfl)
theorem g_ior (hd : decode md.cod pc = .ok (.ior, 1)) : ev md pc L (.int y :: .int x :: S) h = ev md (pc + 1) L (.int (x ||| y) :: S) h := ev_go (by rw [dsc_of hd]; rfl)
theorem g_ixor (hd : decode md.cod pc = .ok (.ixor, 1)) : ev md pc L (.int y :: .int x :: S) h = ev md (pc + 1) L (.int (x ^^^ y) :: S) h := ev_go (by rw [dsc_of hd]; rfl)
theorem g_ishl (hd : decode md.cod pc = .ok (.ishl, 1)) : ev md pc L (.int y :: .int x :: S) h = ev md (pc + 1) L (.int (x <<< (y &&& 31)) :: S) h := ev_go (by rw [dsc_of hd]; rfl)
theorem g_ishr (hd : decode md.cod pc = .ok (.ishr, 1)) : ev md pc L (.int y :: .int x :: S) h = ev md (pc + 1) L (.int (x >>> (y &&& 31)) :: S) h := ev_go (by rw [dsc_of hd]; rfl)
theorem g_idiv (hd : decode md.cod pc = .ok (.idiv, 1)) : ev md pc L (.int y :: .int x :: S) h = if y = 0 then none else ev md (pc + 1) L (.int (x / y) :: S) h := by
  by_cases hy : y = 0
  · rw [if_pos hy]; exact ev_no (by rw [dsc_of hd]; dsimp only [ins, x_bin0]; rw [if_neg (fun q => q.2 hy)])
  · rw [if_neg hy]; exact ev_go (by rw [dsc_of hd]; dsimp only [ins, x_bin0]; rw [if_pos ⟨rfl, hy⟩])
theorem g_irem (hd : decode md.cod pc = .ok (.irem, 1)) : ev md pc L (.int y :: .int x :: S) h = if y = 0 then none else ev md (pc + 1) L (.int (x - x / y * y) :: S) h := by
  by_cases hy : y = 0
  · rw [if_pos hy]; exact ev_no (by rw [dsc_of hd]; dsimp only [ins, x_bin0]; rw [if_neg (fun q => q.2 hy)])
  · rw [if_neg hy]; exact ev_go (by rw [dsc_of hd]; dsimp only [ins, x_bin0]; rw [if_pos ⟨rfl, hy⟩])
theorem g_ineg (hd : decode md.cod pc = .ok (.ineg, 1)) : ev md pc L (.int x :: S) h = ev md (pc + 1) L (.int (-x) :: S) h := ev_go (by rw [dsc_of hd]; rfl)
theorem g_i2b (hd : decode md.cod pc = .ok (.i2b, 1)) : ev md pc L (.int x :: S) h = ev md (pc + 1) L (.int x.toInt8.toInt32 :: S) h := ev_go (by rw [dsc_of hd]; rfl)
theorem g_i2c (hd : decode md.cod pc = .ok (.i2c, 1)) : ev md pc L (.int x :: S) h = ev md (pc + 1) L (.int (x.toUInt32 % 65536).toInt32 :: S) h := ev_go (by rw [dsc_of hd]; rfl)
theorem g_dupI (hd : decode md.cod pc = .ok (.dup, 1)) : ev md pc L (.int x :: S) h = ev md (pc + 1) L (.int x :: .int x :: S) h := ev_go (by rw [dsc_of hd]; rfl)
theorem g_dupA {c : Nat} (hd : decode md.cod pc = .ok (.dup, 1)) : ev md pc L (.ref c :: S) h = ev md (pc + 1) L (.ref c :: .ref c :: S) h := ev_go (by rw [dsc_of hd]; rfl)
theorem g_popI (hd : decode md.cod pc = .ok (.pop, 1)) : ev md pc L (.int x :: S) h = ev md (pc + 1) L S h := ev_go (by rw [dsc_of hd]; rfl)
theorem g_dup2IA {c : Nat} (hd : decode md.cod pc = .ok (.dup2, 1)) : ev md pc L (.int x :: .ref c :: S) h = ev md (pc + 1) L (.int x :: .ref c :: .int x :: .ref c :: S) h := ev_go (by rw [dsc_of hd]; rfl)
theorem x_jump_of {off : Int} {tgt : Nat} (ht : (pc : Int) + off = (tgt : Int)) : x_jump pc off L S h = Gg tgt L S h := by
  unfold x_jump
  rw [ht, if_pos (Int.natCast_nonneg _)]
  rfl
theorem g_goto {off : Int} {tgt : Nat} (hd : decode md.cod pc = .ok (.goto off, 3)) (ht : (pc : Int) + off = (tgt : Int)) : ev md pc L S h = ev md tgt L S h := ev_go (by rw [dsc_of hd]; exact x_jump_of ht)
theorem g_if {c : ClassFile.Cond} {off : Int} {tgt : Nat} (hd : decode md.cod pc = .ok (.ifCond c off, 3)) (ht : (pc : Int) + off = (tgt : Int)) : ev md pc L (.int x :: S) h = if x_hold1 c x = true then ev md tgt L S h else ev md (pc + 3) L S h := by
  by_cases hc : x_hold1 c x = true
  · rw [if_pos hc]; exact ev_go (by rw [dsc_of hd]; dsimp only [ins, x_if]; rw [if_pos rfl, if_pos hc]; exact x_jump_of ht)
  · rw [if_neg hc]; exact ev_go (by rw [dsc_of hd]; dsimp only [ins, x_if]; rw [if_pos rfl, if_neg hc])
theorem g_icmp {c : ClassFile.Cond} {off : Int} {tgt : Nat} (hd : decode md.cod pc = .ok (.if_icmp c off, 3)) (ht : (pc : Int) + off = (tgt : Int)) : ev md pc L (.int y :: .int x :: S) h = if x_hold2 c x y = true then ev md tgt L S h else ev md (pc + 3) L S h := by
  by_cases hc : x_hold2 c x y = true
  · rw [if_pos hc]; exact ev_go (by rw [dsc_of hd]; dsimp only [ins, x_icmp]; rw [if_pos rfl, if_pos hc]; exact x_jump_of ht)
  · rw [if_neg hc]; exact ev_go (by rw [dsc_of hd]; dsimp only [ins, x_icmp]; rw [if_pos rfl, if_neg hc])
theorem ite_b {p : Prop} [Decidable p] {b : Bool} (hb : b = decide p) {A B : Rs} : (if b = true then A else B) = if p then A else B := by
  subst hb
  by_cases hp : p
  · rw [if_pos hp, if_pos (decide_eq_true hp)]
  · rw [if_neg hp, if_neg (fun q => hp (of_decide_eq_true q))]
theorem ite_nb {p : Prop} [Decidable p] {b : Bool} (hb : b = decide (¬ p)) {A B : Rs} : (if b = true then A else B) = if p then B else A := by
  subst hb
  by_cases hp : p
  · rw [if_pos hp, if_neg (fun q => (of_decide_eq_true q : ¬ p) hp)]
  · rw [if_neg hp, if_pos (decide_eq_true hp)]
variable {off : Int} {tgt : Nat}
theorem g_ifeq (hd : decode md.cod pc = .ok (.ifCond .eq off, 3)) (ht : (pc : Int) + off = (tgt : Int)) : ev md pc L (.int x :: S) h = if x = 0 then ev md tgt L S h else ev md (pc + 3) L S h := (g_if hd ht).trans (ite_b rfl)
theorem g_ifne (hd : decode md.cod pc = .ok (.ifCond .ne off, 3)) (ht : (pc : Int) + off = (tgt : Int)) : ev md pc L (.int x :: S) h = if x = 0 then ev md (pc + 3) L S h else ev md tgt L S h := (g_if hd ht).trans (ite_nb rfl)
theorem g_iflt (hd : decode md.cod pc = .ok (.ifCond .lt off, 3)) (ht : (pc : Int) + off = (tgt : Int)) : ev md pc L (.int x :: S) h = if x < 0 then ev md tgt L S h else ev md (pc + 3) L S h := (g_if hd ht).trans (ite_b rfl)
theorem g_ifge (hd : decode md.cod pc = .ok (.ifCond .ge off, 3)) (ht : (pc : Int) + off = (tgt : Int)) : ev md pc L (.int x :: S) h = if 0 ≤ x then ev md tgt L S h else ev md (pc + 3) L S h := (g_if hd ht).trans (ite_b rfl)
theorem g_ifgt (hd : decode md.cod pc = .ok (.ifCond .gt off, 3)) (ht : (pc : Int) + off = (tgt : Int)) : ev md pc L (.int x :: S) h = if 0 < x then ev md tgt L S h else ev md (pc + 3) L S h := (g_if hd ht).trans (ite_b rfl)
theorem g_ifle (hd : decode md.cod pc = .ok (.ifCond .le off, 3)) (ht : (pc : Int) + off = (tgt : Int)) : ev md pc L (.int x :: S) h = if x ≤ 0 then ev md tgt L S h else ev md (pc + 3) L S h := (g_if hd ht).trans (ite_b rfl)
theorem g_icmpeq (hd : decode md.cod pc = .ok (.if_icmp .eq off, 3)) (ht : (pc : Int) + off = (tgt : Int)) : ev md pc L (.int y :: .int x :: S) h = if x = y then ev md tgt L S h else ev md (pc + 3) L S h := (g_icmp hd ht).trans (ite_b rfl)
theorem g_icmpne (hd : decode md.cod pc = .ok (.if_icmp .ne off, 3)) (ht : (pc : Int) + off = (tgt : Int)) : ev md pc L (.int y :: .int x :: S) h = if x = y then ev md (pc + 3) L S h else ev md tgt L S h := (g_icmp hd ht).trans (ite_nb rfl)
theorem g_icmplt (hd : decode md.cod pc = .ok (.if_icmp .lt off, 3)) (ht : (pc : Int) + off = (tgt : Int)) : ev md pc L (.int y :: .int x :: S) h = if x < y then ev md tgt L S h else ev md (pc + 3) L S h := (g_icmp hd ht).trans (ite_b rfl)
theorem g_icmpge (hd : decode md.cod pc = .ok (.if_icmp .ge off, 3)) (ht : (pc : Int) + off = (tgt : Int)) : ev md pc L (.int y :: .int x :: S) h = if y ≤ x then ev md tgt L S h else ev md (pc + 3) L S h := (g_icmp hd ht).trans (ite_b rfl)
theorem g_icmpgt (hd : decode md.cod pc = .ok (.if_icmp .gt off, 3)) (ht : (pc : Int) + off = (tgt : Int)) : ev md pc L (.int y :: .int x :: S) h = if y < x then ev md tgt L S h else ev md (pc + 3) L S h := (g_icmp hd ht).trans (ite_b rfl)
theorem g_icmple (hd : decode md.cod pc = .ok (.if_icmp .le off, 3)) (ht : (pc : Int) + off = (tgt : Int)) : ev md pc L (.int y :: .int x :: S) h = if x ≤ y then ev md tgt L S h else ev md (pc + 3) L S h := (g_icmp hd ht).trans (ite_b rfl)
theorem g_tswIn {d lo hi : Int} {offs : Array Int} {len : Nat} (hd : decode md.cod pc = .ok (.tableswitch d lo hi offs, len)) (h1 : ¬ (x.toInt < lo ∨ hi < x.toInt)) (ho : offs[(x.toInt - lo).toNat]? = some off) (ht : (pc : Int) + off = (tgt : Int)) : ev md pc L (.int x :: S) h = ev md tgt L S h := ev_go (by rw [dsc_of hd]; dsimp only [ins, x_tsw]; rw [if_neg h1, ho]; exact x_jump_of ht)
theorem g_tswOut {d lo hi : Int} {offs : Array Int} {len : Nat} (hd : decode md.cod pc = .ok (.tableswitch d lo hi offs, len)) (h1 : x.toInt < lo ∨ hi < x.toInt) (ht : (pc : Int) + d = (tgt : Int)) : ev md pc L (.int x :: S) h = ev md tgt L S h := ev_go (by rw [dsc_of hd]; dsimp only [ins, x_tsw]; rw [if_pos h1]; exact x_jump_of ht)
theorem g_lsw {d : Int} {ps : Array (Int × Int)} {len : Nat} (hd : decode md.cod pc = .ok (.lookupswitch d ps, len)) (hp : (ps.toList.zip (ps.toList.drop 1)).all (fun (a, next) => a.1 < next.1) = true) (ho : Op.lookupswitch.offset ps.toList d x.toInt = off) (ht : (pc : Int) + off = (tgt : Int)) : ev md pc L (.int x :: S) h = ev md tgt L S h := ev_go (by rw [dsc_of hd]; dsimp only [ins, x_lsw]; rw [if_pos hp, ho]; exact x_jump_of ht)
theorem ly_lt {c ci : Nat} (hc : lyC c = ci) (hi : ci ≠ 99) : c < 27 := by
  unfold lyC at hc
  split at hc <;> first | omega | exact absurd hc.symm hi
theorem ly_hem {c : Nat} (hc : lyC c = 0) : c = 1 ∨ c = 4 ∨ c = 7 := by
  unfold lyC at hc
  split at hc <;> first | (cases hc; done) | simp
theorem g_getI {i ci j c : Nat} (hd : decode md.cod pc = .ok (.getfield i, 3)) (hf : fldT md.own i = some (ci, j)) (hi : ci ≠ 99) (hr : ∀ c, lyC c = ci → lyR c j = none) (hc : lyC c = ci) : ev md pc L (.ref c :: S) h = ev md (pc + 3) L (.int (h c j) :: S) h := ev_go (by rw [dsc_of hd]; dsimp only [ins, x_getf]; rw [if_pos (ly_lt hc hi), hf]; dsimp only; rw [if_pos ⟨rfl, hc⟩, hr c hc])
theorem g_getA {i ci j c t : Nat} (hd : decode md.cod pc = .ok (.getfield i, 3)) (hf : fldT md.own i = some (ci, j)) (hi : ci ≠ 99) (hc : lyC c = ci) (hr : lyR c j = some t) : ev md pc L (.ref c :: S) h = ev md (pc + 3) L (.ref t :: S) h := ev_go (by rw [dsc_of hd]; dsimp only [ins, x_getf]; rw [if_pos (ly_lt hc hi), hf]; dsimp only; rw [if_pos ⟨rfl, hc⟩, hr])
theorem g_getV {c : Nat} (hd : decode md.cod pc = .ok (.getfield 9, 3)) (ho : md.own = 10) (h1 : 100 ≤ c ∧ c < 107) : ev md pc L (.ref c :: S) h = ev md (pc + 3) L (.ref (c + 100) :: S) h := ev_go (by rw [dsc_of hd]; dsimp only [ins, x_getf]; rw [if_neg (show ¬ c < 27 by omega), if_pos ⟨rfl, h1.1, h1.2, ho⟩, if_pos rfl])
theorem g_getC {c : Nat} (hd : decode md.cod pc = .ok (.getfield 15, 3)) (ho : md.own = 10) (h1 : 100 ≤ c ∧ c < 107) : ev md pc L (.ref c :: S) h = ev md (pc + 3) L (.int 0 :: S) h := ev_go (by rw [dsc_of hd]; dsimp only [ins, x_getf]; rw [if_neg (show ¬ c < 27 by omega), if_pos ⟨rfl, h1.1, h1.2, ho⟩, if_neg (show ¬ 15 = 9 by omega), if_pos rfl])
theorem g_putI {i ci j c : Nat} (hd : decode md.cod pc = .ok (.putfield i, 3)) (hf : fldT md.own i = some (ci, j)) (hi : ci ≠ 99) (hp : pty ci j = 1) (hc : lyC c = ci) : ev md pc L (.int v :: .ref c :: S) h = ev md (pc + 3) L S (st h c j v) := ev_go (by rw [dsc_of hd]; dsimp only [ins, x_putf]; rw [hf]; dsimp only; rw [if_pos ⟨rfl, ly_lt hc hi, hc, Or.inl hp⟩])
theorem g_putZ {i ci j c : Nat} (hd : decode md.cod pc = .ok (.putfield i, 3)) (hf : fldT md.own i = some (ci, j)) (hi : ci ≠ 99) (hp : pty ci j = 2) (hc : lyC c = ci) : ev md pc L (.int v :: .ref c :: S) h = if v = 0 ∨ v = 1 then ev md (pc + 3) L S (st h c j v) else none := by
  by_cases hv : v = 0 ∨ v = 1
  · rw [if_pos hv]; exact ev_go (by rw [dsc_of hd]; dsimp only [ins, x_putf]; rw [hf]; dsimp only; rw [if_pos ⟨rfl, ly_lt hc hi, hc, Or.inr ⟨hp, hv⟩⟩])
  · rw [if_neg hv]; exact ev_no (by rw [dsc_of hd]; dsimp only [ins, x_putf]; rw [hf]; dsimp only; rw [if_neg (fun q => q.2.2.2.elim (fun z => by omega) (fun z => hv z.2))])
theorem ly_a {c n : Nat} (hc : lyA c = some n) : c < 27 := by
  unfold lyA at hc
  split at hc <;> first | omega | cases hc
theorem g_iald {c n : Nat} (hd : decode md.cod pc = .ok (.iaload, 1)) (hc : lyA c = some n) : ev md pc L (.int x :: .ref c :: S) h = if x < 0 ∨ n ≤ x.toNatClampNeg then none else ev md (pc + 1) L (.int (h c x.toNatClampNeg) :: S) h := by
  have h4 := ly_a hc
  by_cases hx : x < 0 ∨ n ≤ x.toNatClampNeg
  · rw [if_pos hx]; exact ev_no (by rw [dsc_of hd]; dsimp only [ins, x_iald]; rw [if_neg (show ¬ c = 400 by omega), hc]; dsimp only; rw [if_pos hx])
  · rw [if_neg hx]; exact ev_go (by rw [dsc_of hd]; dsimp only [ins, x_iald]; rw [if_neg (show ¬ c = 400 by omega), hc]; dsimp only; rw [if_neg hx, if_pos rfl])
theorem g_iaX (hd : decode md.cod pc = .ok (.iaload, 1)) : ev md pc L (.int x :: .ref 400 :: S) h = if x < 0 ∨ (h 401 0).toNatClampNeg ≤ x.toNatClampNeg then none else ev md (pc + 1) L (.int (h 400 x.toNatClampNeg) :: S) h := by
  by_cases hx : x < 0 ∨ (h 401 0).toNatClampNeg ≤ x.toNatClampNeg
  · rw [if_pos hx]; exact ev_no (by rw [dsc_of hd]; dsimp only [ins, x_iald]; rw [if_pos rfl, if_pos hx])
  · rw [if_neg hx]; exact ev_go (by rw [dsc_of hd]; dsimp only [ins, x_iald]; rw [if_pos rfl, if_neg hx, if_pos rfl])
theorem g_iast {c n : Nat} (hd : decode md.cod pc = .ok (.iastore, 1)) (hc : lyA c = some n) : ev md pc L (.int v :: .int x :: .ref c :: S) h = if x < 0 ∨ n ≤ x.toNatClampNeg then none else ev md (pc + 1) L S (st h c x.toNatClampNeg v) := by
  by_cases hx : x < 0 ∨ n ≤ x.toNatClampNeg
  · rw [if_pos hx]; exact ev_no (by rw [dsc_of hd]; dsimp only [ins, x_iast]; rw [hc]; dsimp only; rw [if_pos hx])
  · rw [if_neg hx]; exact ev_go (by rw [dsc_of hd]; dsimp only [ins, x_iast]; rw [hc]; dsimp only; rw [if_neg hx, if_pos rfl])
theorem g_bald {i : Nat} (hd : decode md.cod pc = .ok (.baload, 1)) (hi : i < 7) : ev md pc L (.int x :: .ref (200 + i) :: S) h = if x < 0 ∨ sLen.getD i 0 ≤ x.toNatClampNeg then none else ev md (pc + 1) L (.int ((sByt.getD i []).getD x.toNatClampNeg 0) :: S) h := by
  have e : 200 + i - 200 = i := by omega
  by_cases hx : x < 0 ∨ sLen.getD i 0 ≤ x.toNatClampNeg
  · rw [if_pos hx]; exact ev_no (by rw [dsc_of hd]; dsimp only [ins, x_bald]; rw [e, if_neg (fun q => q.2.2.2 hx)])
  · rw [if_neg hx]; exact ev_go (by rw [dsc_of hd]; dsimp only [ins, x_bald]; rw [e, if_pos (show 1 = 1 ∧ 200 ≤ 200 + i ∧ 200 + i < 207 ∧ ¬ (x < 0 ∨ sLen.getD i 0 ≤ x.toNatClampNeg) from ⟨rfl, by omega, by omega, hx⟩)])
theorem g_alen {c n : Nat} (hd : decode md.cod pc = .ok (.arraylength, 1)) (hc : lyA c = some n) (hv : Int32.ofNat n = v) : ev md pc L (.ref c :: S) h = ev md (pc + 1) L (.int v :: S) h := by
  subst hv
  have h4 := ly_a hc
  exact ev_go (by rw [dsc_of hd]; dsimp only [ins, x_alen]; rw [if_neg (show ¬ c = 400 by omega), if_neg (show ¬ (200 ≤ c ∧ c < 207) by omega), hc]; rfl)
theorem g_alenB {i : Nat} (hd : decode md.cod pc = .ok (.arraylength, 1)) (hi : i < 7) : ev md pc L (.ref (200 + i) :: S) h = ev md (pc + 1) L (.int (Int32.ofNat (sLen.getD i 0)) :: S) h := by
  have e : 200 + i - 200 = i := by omega
  exact ev_go (by rw [dsc_of hd]; dsimp only [ins, x_alen]; rw [e, if_neg (show ¬ 200 + i = 400 by omega), if_pos (show 200 ≤ 200 + i ∧ 200 + i < 207 by omega), if_pos rfl])
theorem g_alenX (hd : decode md.cod pc = .ok (.arraylength, 1)) : ev md pc L (.ref 400 :: S) h = ev md (pc + 1) L (.int (h 401 0) :: S) h := ev_go (by rw [dsc_of hd]; rfl)
theorem g_gets38 (hd : decode md.cod pc = .ok (.getstatic 38, 3)) (ho : md.own = 10) : ev md pc L S h = ev md (pc + 3) L (.int 1 :: S) h := ev_go (by rw [dsc_of hd]; dsimp only [ins, x_gets]; rw [if_pos ⟨rfl, ho⟩, if_pos rfl])
theorem g_gets1053 (hd : decode md.cod pc = .ok (.getstatic 1053, 3)) (ho : md.own = 10) : ev md pc L S h = ev md (pc + 3) L (.ref 300 :: S) h := ev_go (by rw [dsc_of hd]; dsimp only [ins, x_gets]; rw [if_pos ⟨rfl, ho⟩, if_neg (show ¬ 1053 = 38 by omega), if_pos rfl])
theorem g_max {i : Nat} (hd : decode md.cod pc = .ok (.invokestatic i, 3)) (hm : mthT md.own i = some 0) (hr : 1 ≤ md.frm ∧ 21 ≤ md.loc) (hS : S.length ≤ 8 ∧ S.all okV = true) : ev md pc L (.int y :: .int x :: S) h = ev md (pc + 3) L (.int (if x < y then y else x) :: S) h := ev_go (by rw [dsc_of hd]; dsimp only [ins]; rw [hm]; exact if_pos (show 3 = 3 ∧ 1 ≤ md.frm ∧ 21 ≤ md.loc ∧ S.length ≤ 8 ∧ S.all okV = true from ⟨rfl, hr.1, hr.2, hS.1, hS.2⟩))
theorem g_min {i : Nat} (hd : decode md.cod pc = .ok (.invokestatic i, 3)) (hm : mthT md.own i = some 1) (hr : 1 ≤ md.frm ∧ 21 ≤ md.loc) (hS : S.length ≤ 8 ∧ S.all okV = true) : ev md pc L (.int y :: .int x :: S) h = ev md (pc + 3) L (.int (if y < x then y else x) :: S) h := ev_go (by rw [dsc_of hd]; dsimp only [ins]; rw [hm]; exact if_pos (show 3 = 3 ∧ 1 ≤ md.frm ∧ 21 ≤ md.loc ∧ S.length ≤ 8 ∧ S.all okV = true from ⟨rfl, hr.1, hr.2, hS.1, hS.2⟩))
theorem g_abs {i : Nat} (hd : decode md.cod pc = .ok (.invokestatic i, 3)) (hm : mthT md.own i = some 2) (hr : 1 ≤ md.frm ∧ 21 ≤ md.loc) (hS : S.length ≤ 8 ∧ S.all okV = true) : ev md pc L (.int x :: S) h = ev md (pc + 3) L (.int (if 0 ≤ x then x else 0 - x) :: S) h := ev_go (by rw [dsc_of hd]; dsimp only [ins]; rw [hm]; exact if_pos (show 3 = 3 ∧ 1 ≤ md.frm ∧ 21 ≤ md.loc ∧ S.length ≤ 8 ∧ S.all okV = true from ⟨rfl, hr.1, hr.2, hS.1, hS.2⟩))
theorem g_calV {i n : Nat} {cal : MD} {A rest L0 : List Value} (hd : decode md.cod pc = .ok (.invokevirtual i, 3)) (hc : calT md.own i = some (0, cal, n)) (hr : cal.frm + 1 ≤ md.frm ∧ 8 + (cal.mxl + 11) + cal.loc ≤ md.loc ∧ n + 1 ≤ cal.mxl) (hs : n + 1 ≤ S.length ∧ (S.drop (n + 1)).length ≤ 8 ∧ S.all okV = true) (hA : (S.take (n + 1)).reverse = A) (hR : S.drop (n + 1) = rest) (hv : x_recv 0 A cal.own = true) (hL : A ++ List.replicate (cal.mxl - A.length) .null = L0) : ev md pc L S h = (ev cal 0 L0 [] h).bind (fun q => ev md (pc + 3) L (q.1.toList ++ rest) q.2) := by
  subst hL
  refine ev_cal ?_
  rw [dsc_of hd]
  dsimp only [ins, x_call]
  rw [hc]
  dsimp only
  rw [if_pos ⟨rfl, rfl, hr.1, hr.2.1, hs.1, hr.2.2, hs.2.1, hs.2.2, by rw [hA]; exact hv⟩, hA, hR]
theorem g_calS {i n : Nat} {cal : MD} {A rest L0 : List Value} (hd : decode md.cod pc = .ok (.invokestatic i, 3)) (hm : mthT md.own i = none) (hc : calT md.own i = some (1, cal, n)) (hr : cal.frm + 1 ≤ md.frm ∧ 8 + (cal.mxl + 11) + cal.loc ≤ md.loc ∧ n ≤ cal.mxl) (hs : n ≤ S.length ∧ (S.drop n).length ≤ 8 ∧ S.all okV = true) (hA : (S.take n).reverse = A) (hR : S.drop n = rest) (hL : A ++ List.replicate (cal.mxl - A.length) .null = L0) : ev md pc L S h = (ev cal 0 L0 [] h).bind (fun q => ev md (pc + 3) L (q.1.toList ++ rest) q.2) := by
  subst hL
  refine ev_cal ?_
  rw [dsc_of hd]
  dsimp only [ins]
  rw [hm]
  dsimp only [x_call]
  rw [hc]
  dsimp only
  rw [if_pos ⟨rfl, rfl, hr.1, hr.2.1, hs.1, hr.2.2, hs.2.1, hs.2.2, rfl⟩]
  show some (Sum.inr (Sum.inr (cal, (S.take n).reverse, S.drop n))) = _
  rw [hA, hR]
theorem g_iretI (hd : decode md.cod pc = .ok (.ireturn, 1)) (hr : md.ret = some .int) : ev md pc L [.int v] h = some (some (.int v), h) := ev_ret (by rw [dsc_of hd]; dsimp only [ins, x_ireturn]; rw [if_pos ⟨rfl, Or.inl hr⟩])
theorem g_iretZ (hd : decode md.cod pc = .ok (.ireturn, 1)) (hr : md.ret = some .boolean) : ev md pc L [.int v] h = if v = 0 ∨ v = 1 then some (some (.int v), h) else none := by
  by_cases hv : v = 0 ∨ v = 1
  · rw [if_pos hv]; exact ev_ret (by rw [dsc_of hd]; dsimp only [ins, x_ireturn]; rw [if_pos ⟨rfl, Or.inr (Or.inl ⟨hr, hv⟩)⟩])
  · rw [if_neg hv]; exact ev_no (by rw [dsc_of hd]; dsimp only [ins, x_ireturn]; rw [if_neg]; rintro ⟨-, q | q | q | q⟩ <;> first | exact hv q.2 | (rw [hr] at q; cases q; done) | (have q1 := q.1; rw [hr] at q1; cases q1; done))
theorem g_iretC (hd : decode md.cod pc = .ok (.ireturn, 1)) (hr : md.ret = some .char) (hv : narrow .char (.int v) = .int v) : ev md pc L [.int v] h = some (some (.int v), h) := ev_ret (by rw [dsc_of hd]; dsimp only [ins, x_ireturn]; rw [if_pos ⟨rfl, Or.inr (Or.inr (Or.inl ⟨hr, hv⟩))⟩])
theorem g_iretB (hd : decode md.cod pc = .ok (.ireturn, 1)) (hr : md.ret = some .byte) (hv : narrow .byte (.int v) = .int v) : ev md pc L [.int v] h = some (some (.int v), h) := ev_ret (by rw [dsc_of hd]; dsimp only [ins, x_ireturn]; rw [if_pos ⟨rfl, Or.inr (Or.inr (Or.inr ⟨hr, hv⟩))⟩])
theorem g_aret {c : Nat} (hd : decode md.cod pc = .ok (.areturn, 1)) (hr : md.ret = some (.object "java/lang/String")) (hc : 100 ≤ c ∧ c < 107) : ev md pc L [.ref c] h = some (some (.ref c), h) := ev_ret (by rw [dsc_of hd]; dsimp only [ins, x_areturn]; rw [if_pos ⟨rfl, hr, hc.1, hc.2⟩])
theorem g_vret (hd : decode md.cod pc = .ok (.return_, 1)) (hr : md.ret = none) : ev md pc L [] h = some (none, h) := ev_ret (by rw [dsc_of hd]; dsimp only [ins, x_return]; rw [if_pos ⟨rfl, hr⟩])
end RULES
end
