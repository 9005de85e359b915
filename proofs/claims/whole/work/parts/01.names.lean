-- ===== PART A: goes FIRST, ahead of the names: the tables' words, and 'selects' of the private methods out of them =====
/-- a private method of a class that the tables say can be made, by its rows of tables_1 -/
def lw_okq (q : MethodName × Nat) : Prop := (q.1.cls ≠ "java/lang/invoke/MethodHandle" ∧ q.1.cls ≠ "java/lang/invoke/VarHandle") ∧ Cond.instantiable q.1.cls q.2 ∈ tables_1 ∧ Cond.privateMethod q.1 ∈ tables_1 ∧ Cond.instanceMethod q.1 ∈ tables_1
theorem lw_p0 : lw_okq (⟨"GoneIntoItsTunnel", "refuse", "(I)I"⟩, 9) := ⟨⟨by decide +kernel, by decide +kernel⟩, List.mem_of_getElem? (i := 16) (by decide +kernel), List.mem_of_getElem? (i := 165) (by decide +kernel), List.mem_of_getElem? (i := 166) (by decide +kernel)⟩
theorem lw_p1 : lw_okq (⟨"GoneIntoItsTunnel", "statementsCome", "()I"⟩, 9) := ⟨⟨by decide +kernel, by decide +kernel⟩, List.mem_of_getElem? (i := 16) (by decide +kernel), List.mem_of_getElem? (i := 316) (by decide +kernel), List.mem_of_getElem? (i := 317) (by decide +kernel)⟩
theorem lw_p2 : lw_okq (⟨"GoneIntoItsTunnel", "isAsItMustBe", "(I)Z"⟩, 9) := ⟨⟨by decide +kernel, by decide +kernel⟩, List.mem_of_getElem? (i := 16) (by decide +kernel), List.mem_of_getElem? (i := 336) (by decide +kernel), List.mem_of_getElem? (i := 337) (by decide +kernel)⟩
theorem lw_p3 : lw_okq (⟨"GoneIntoItsTunnel", "comes", "(I)V"⟩, 9) := ⟨⟨by decide +kernel, by decide +kernel⟩, List.mem_of_getElem? (i := 16) (by decide +kernel), List.mem_of_getElem? (i := 362) (by decide +kernel), List.mem_of_getElem? (i := 363) (by decide +kernel)⟩
theorem lw_p4 : lw_okq (⟨"GoneIntoItsTunnel", "refuseAsTold", "(I)I"⟩, 9) := ⟨⟨by decide +kernel, by decide +kernel⟩, List.mem_of_getElem? (i := 16) (by decide +kernel), List.mem_of_getElem? (i := 466) (by decide +kernel), List.mem_of_getElem? (i := 467) (by decide +kernel)⟩
theorem lw_p5 : lw_okq (⟨"GoneIntoItsTunnel$Way", "neverIsOut", "()V"⟩, 3) := ⟨⟨by decide +kernel, by decide +kernel⟩, List.mem_of_getElem? (i := 67) (by decide +kernel), List.mem_of_getElem? (i := 542) (by decide +kernel), List.mem_of_getElem? (i := 543) (by decide +kernel)⟩
theorem lw_p6 : lw_okq (⟨"GoneIntoItsTunnel", "secondsIfLost", "(I)I"⟩, 9) := ⟨⟨by decide +kernel, by decide +kernel⟩, List.mem_of_getElem? (i := 16) (by decide +kernel), List.mem_of_getElem? (i := 551) (by decide +kernel), List.mem_of_getElem? (i := 552) (by decide +kernel)⟩
theorem lw_p7 : lw_okq (⟨"GoneIntoItsTunnel", "washesTillLost", "()I"⟩, 9) := ⟨⟨by decide +kernel, by decide +kernel⟩, List.mem_of_getElem? (i := 16) (by decide +kernel), List.mem_of_getElem? (i := 577) (by decide +kernel), List.mem_of_getElem? (i := 578) (by decide +kernel)⟩
theorem lw_p8 : lw_okq (⟨"GoneIntoItsTunnel", "secondsWithStop", "(II)I"⟩, 9) := ⟨⟨by decide +kernel, by decide +kernel⟩, List.mem_of_getElem? (i := 16) (by decide +kernel), List.mem_of_getElem? (i := 599) (by decide +kernel), List.mem_of_getElem? (i := 600) (by decide +kernel)⟩
theorem lw_p9 : lw_okq (⟨"GoneIntoItsTunnel$Mending", "mend", "(LGoneIntoItsTunnel$Hem;LGoneIntoItsTunnel$Way;II)V"⟩, 2) := ⟨⟨by decide +kernel, by decide +kernel⟩, List.mem_of_getElem? (i := 87) (by decide +kernel), List.mem_of_getElem? (i := 609) (by decide +kernel), List.mem_of_getElem? (i := 610) (by decide +kernel)⟩
theorem lw_p10 : lw_okq (⟨"GoneIntoItsTunnel", "rankWithCloth", "(II)I"⟩, 9) := ⟨⟨by decide +kernel, by decide +kernel⟩, List.mem_of_getElem? (i := 16) (by decide +kernel), List.mem_of_getElem? (i := 632) (by decide +kernel), List.mem_of_getElem? (i := 633) (by decide +kernel)⟩
theorem lw_p11 : lw_okq (⟨"GoneIntoItsTunnel", "kindsByRow", "(I)I"⟩, 9) := ⟨⟨by decide +kernel, by decide +kernel⟩, List.mem_of_getElem? (i := 16) (by decide +kernel), List.mem_of_getElem? (i := 661) (by decide +kernel), List.mem_of_getElem? (i := 662) (by decide +kernel)⟩
theorem lw_p12 : lw_okq (⟨"GoneIntoItsTunnel", "strengthsByRow", "()I"⟩, 9) := ⟨⟨by decide +kernel, by decide +kernel⟩, List.mem_of_getElem? (i := 16) (by decide +kernel), List.mem_of_getElem? (i := 671) (by decide +kernel), List.mem_of_getElem? (i := 672) (by decide +kernel)⟩
theorem lw_p13 : lw_okq (⟨"GoneIntoItsTunnel", "lotSeconds", "(I)I"⟩, 9) := ⟨⟨by decide +kernel, by decide +kernel⟩, List.mem_of_getElem? (i := 16) (by decide +kernel), List.mem_of_getElem? (i := 702) (by decide +kernel), List.mem_of_getElem? (i := 703) (by decide +kernel)⟩
theorem lw_p14 : lw_okq (⟨"GoneIntoItsTunnel", "refusalsAt", "(I)I"⟩, 9) := ⟨⟨by decide +kernel, by decide +kernel⟩, List.mem_of_getElem? (i := 16) (by decide +kernel), List.mem_of_getElem? (i := 722) (by decide +kernel), List.mem_of_getElem? (i := 723) (by decide +kernel)⟩
theorem lw_p15 : lw_okq (⟨"GoneIntoItsTunnelModel", "no", "(I)I"⟩, 16) := ⟨⟨by decide +kernel, by decide +kernel⟩, List.mem_of_getElem? (i := 726) (by decide +kernel), List.mem_of_getElem? (i := 785) (by decide +kernel), List.mem_of_getElem? (i := 786) (by decide +kernel)⟩
def lw_privs_1 : List (MethodName × Nat) := [(⟨"GoneIntoItsTunnel", "refuse", "(I)I"⟩, 9), (⟨"GoneIntoItsTunnel", "statementsCome", "()I"⟩, 9), (⟨"GoneIntoItsTunnel", "isAsItMustBe", "(I)Z"⟩, 9), (⟨"GoneIntoItsTunnel", "comes", "(I)V"⟩, 9), (⟨"GoneIntoItsTunnel", "refuseAsTold", "(I)I"⟩, 9), (⟨"GoneIntoItsTunnel$Way", "neverIsOut", "()V"⟩, 3), (⟨"GoneIntoItsTunnel", "secondsIfLost", "(I)I"⟩, 9), (⟨"GoneIntoItsTunnel", "washesTillLost", "()I"⟩, 9), (⟨"GoneIntoItsTunnel", "secondsWithStop", "(II)I"⟩, 9), (⟨"GoneIntoItsTunnel$Mending", "mend", "(LGoneIntoItsTunnel$Hem;LGoneIntoItsTunnel$Way;II)V"⟩, 2), (⟨"GoneIntoItsTunnel", "rankWithCloth", "(II)I"⟩, 9), (⟨"GoneIntoItsTunnel", "kindsByRow", "(I)I"⟩, 9), (⟨"GoneIntoItsTunnel", "strengthsByRow", "()I"⟩, 9), (⟨"GoneIntoItsTunnel", "lotSeconds", "(I)I"⟩, 9), (⟨"GoneIntoItsTunnel", "refusalsAt", "(I)I"⟩, 9), (⟨"GoneIntoItsTunnelModel", "no", "(I)I"⟩, 16)]
theorem lw_r1 : ∀ q ∈ lw_privs_1, lw_okq q := List.forall_mem_cons.mpr ⟨lw_p0, List.forall_mem_cons.mpr ⟨lw_p1, List.forall_mem_cons.mpr ⟨lw_p2, List.forall_mem_cons.mpr ⟨lw_p3, List.forall_mem_cons.mpr ⟨lw_p4, List.forall_mem_cons.mpr ⟨lw_p5, List.forall_mem_cons.mpr ⟨lw_p6, List.forall_mem_cons.mpr ⟨lw_p7, List.forall_mem_cons.mpr ⟨lw_p8, List.forall_mem_cons.mpr ⟨lw_p9, List.forall_mem_cons.mpr ⟨lw_p10, List.forall_mem_cons.mpr ⟨lw_p11, List.forall_mem_cons.mpr ⟨lw_p12, List.forall_mem_cons.mpr ⟨lw_p13, List.forall_mem_cons.mpr ⟨lw_p14, List.forall_mem_cons.mpr ⟨lw_p15, fun _ h => absurd h List.not_mem_nil⟩⟩⟩⟩⟩⟩⟩⟩⟩⟩⟩⟩⟩⟩⟩⟩
theorem lw_p16 : lw_okq (⟨"GoneIntoItsTunnelModel", "readsStatement", "()Z"⟩, 16) := ⟨⟨by decide +kernel, by decide +kernel⟩, List.mem_of_getElem? (i := 726) (by decide +kernel), List.mem_of_getElem? (i := 793) (by decide +kernel), List.mem_of_getElem? (i := 794) (by decide +kernel)⟩
theorem lw_p17 : lw_okq (⟨"GoneIntoItsTunnelModel", "here", "()I"⟩, 16) := ⟨⟨by decide +kernel, by decide +kernel⟩, List.mem_of_getElem? (i := 726) (by decide +kernel), List.mem_of_getElem? (i := 797) (by decide +kernel), List.mem_of_getElem? (i := 798) (by decide +kernel)⟩
theorem lw_p18 : lw_okq (⟨"GoneIntoItsTunnelModel", "readsNumber", "(II)Z"⟩, 16) := ⟨⟨by decide +kernel, by decide +kernel⟩, List.mem_of_getElem? (i := 726) (by decide +kernel), List.mem_of_getElem? (i := 801) (by decide +kernel), List.mem_of_getElem? (i := 802) (by decide +kernel)⟩
theorem lw_p19 : lw_okq (⟨"GoneIntoItsTunnelModel", "readsKind", "()Z"⟩, 16) := ⟨⟨by decide +kernel, by decide +kernel⟩, List.mem_of_getElem? (i := 726) (by decide +kernel), List.mem_of_getElem? (i := 808) (by decide +kernel), List.mem_of_getElem? (i := 809) (by decide +kernel)⟩
theorem lw_p20 : lw_okq (⟨"GoneIntoItsTunnelModel", "readsSigned", "()Z"⟩, 16) := ⟨⟨by decide +kernel, by decide +kernel⟩, List.mem_of_getElem? (i := 726) (by decide +kernel), List.mem_of_getElem? (i := 815) (by decide +kernel), List.mem_of_getElem? (i := 816) (by decide +kernel)⟩
theorem lw_p21 : lw_okq (⟨"GoneIntoItsTunnelModel", "isDone", "(I)Z"⟩, 16) := ⟨⟨by decide +kernel, by decide +kernel⟩, List.mem_of_getElem? (i := 726) (by decide +kernel), List.mem_of_getElem? (i := 822) (by decide +kernel), List.mem_of_getElem? (i := 823) (by decide +kernel)⟩
theorem lw_p22 : lw_okq (⟨"GoneIntoItsTunnelModel", "isInch", "(I)Z"⟩, 16) := ⟨⟨by decide +kernel, by decide +kernel⟩, List.mem_of_getElem? (i := 726) (by decide +kernel), List.mem_of_getElem? (i := 826) (by decide +kernel), List.mem_of_getElem? (i := 827) (by decide +kernel)⟩
theorem lw_p23 : lw_okq (⟨"GoneIntoItsTunnelModel", "noFar", "(I)I"⟩, 16) := ⟨⟨by decide +kernel, by decide +kernel⟩, List.mem_of_getElem? (i := 726) (by decide +kernel), List.mem_of_getElem? (i := 891) (by decide +kernel), List.mem_of_getElem? (i := 892) (by decide +kernel)⟩
theorem lw_p24 : lw_okq (⟨"GoneIntoItsTunnelModel", "outSeconds", "([II)I"⟩, 16) := ⟨⟨by decide +kernel, by decide +kernel⟩, List.mem_of_getElem? (i := 726) (by decide +kernel), List.mem_of_getElem? (i := 950) (by decide +kernel), List.mem_of_getElem? (i := 951) (by decide +kernel)⟩
theorem lw_p25 : lw_okq (⟨"GoneIntoItsTunnelModel", "costliest", "(I)I"⟩, 16) := ⟨⟨by decide +kernel, by decide +kernel⟩, List.mem_of_getElem? (i := 726) (by decide +kernel), List.mem_of_getElem? (i := 954) (by decide +kernel), List.mem_of_getElem? (i := 955) (by decide +kernel)⟩
theorem lw_p26 : lw_okq (⟨"GoneIntoItsTunnelModel", "allSeconds", "([I)I"⟩, 16) := ⟨⟨by decide +kernel, by decide +kernel⟩, List.mem_of_getElem? (i := 726) (by decide +kernel), List.mem_of_getElem? (i := 966) (by decide +kernel), List.mem_of_getElem? (i := 967) (by decide +kernel)⟩
theorem lw_p27 : lw_okq (⟨"GoneIntoItsTunnelModel", "mended", "(I)I"⟩, 16) := ⟨⟨by decide +kernel, by decide +kernel⟩, List.mem_of_getElem? (i := 726) (by decide +kernel), List.mem_of_getElem? (i := 1000) (by decide +kernel), List.mem_of_getElem? (i := 1001) (by decide +kernel)⟩
theorem lw_p28 : lw_okq (⟨"GoneIntoItsTunnelModel", "firstWrong", "(II)I"⟩, 16) := ⟨⟨by decide +kernel, by decide +kernel⟩, List.mem_of_getElem? (i := 726) (by decide +kernel), List.mem_of_getElem? (i := 1036) (by decide +kernel), List.mem_of_getElem? (i := 1037) (by decide +kernel)⟩
theorem lw_p29 : lw_okq (⟨"GoneIntoItsTunnelModel", "drawn", "(I)I"⟩, 16) := ⟨⟨by decide +kernel, by decide +kernel⟩, List.mem_of_getElem? (i := 726) (by decide +kernel), List.mem_of_getElem? (i := 1048) (by decide +kernel), List.mem_of_getElem? (i := 1049) (by decide +kernel)⟩
def lw_privs_2 : List (MethodName × Nat) := [(⟨"GoneIntoItsTunnelModel", "readsStatement", "()Z"⟩, 16), (⟨"GoneIntoItsTunnelModel", "here", "()I"⟩, 16), (⟨"GoneIntoItsTunnelModel", "readsNumber", "(II)Z"⟩, 16), (⟨"GoneIntoItsTunnelModel", "readsKind", "()Z"⟩, 16), (⟨"GoneIntoItsTunnelModel", "readsSigned", "()Z"⟩, 16), (⟨"GoneIntoItsTunnelModel", "isDone", "(I)Z"⟩, 16), (⟨"GoneIntoItsTunnelModel", "isInch", "(I)Z"⟩, 16), (⟨"GoneIntoItsTunnelModel", "noFar", "(I)I"⟩, 16), (⟨"GoneIntoItsTunnelModel", "outSeconds", "([II)I"⟩, 16), (⟨"GoneIntoItsTunnelModel", "costliest", "(I)I"⟩, 16), (⟨"GoneIntoItsTunnelModel", "allSeconds", "([I)I"⟩, 16), (⟨"GoneIntoItsTunnelModel", "mended", "(I)I"⟩, 16), (⟨"GoneIntoItsTunnelModel", "firstWrong", "(II)I"⟩, 16), (⟨"GoneIntoItsTunnelModel", "drawn", "(I)I"⟩, 16)]
theorem lw_r2 : ∀ q ∈ lw_privs_2, lw_okq q := List.forall_mem_cons.mpr ⟨lw_p16, List.forall_mem_cons.mpr ⟨lw_p17, List.forall_mem_cons.mpr ⟨lw_p18, List.forall_mem_cons.mpr ⟨lw_p19, List.forall_mem_cons.mpr ⟨lw_p20, List.forall_mem_cons.mpr ⟨lw_p21, List.forall_mem_cons.mpr ⟨lw_p22, List.forall_mem_cons.mpr ⟨lw_p23, List.forall_mem_cons.mpr ⟨lw_p24, List.forall_mem_cons.mpr ⟨lw_p25, List.forall_mem_cons.mpr ⟨lw_p26, List.forall_mem_cons.mpr ⟨lw_p27, List.forall_mem_cons.mpr ⟨lw_p28, List.forall_mem_cons.mpr ⟨lw_p29, fun _ h => absurd h List.not_mem_nil⟩⟩⟩⟩⟩⟩⟩⟩⟩⟩⟩⟩⟩⟩
def lw_privs : List (MethodName × Nat) := lw_privs_1 ++ (lw_privs_2)
def lw_tbl : List Cond := k2_sels lw_privs ++ tables_1
theorem lw_privs_ok : ∀ q ∈ lw_privs, lw_okq q := by
  show ∀ q ∈ lw_privs_1 ++ (lw_privs_2), lw_okq q
  exact List.forall_mem_append.mpr ⟨lw_r1, lw_r2⟩
def RX0 : String := "GoneIntoItsTunnel$Hem"
def TX0 : u_T := fun k => match k with
  | 0 => ("GoneIntoItsTunnel$Hem", "kinds", "[I", true)
  | 1 => ("GoneIntoItsTunnel$Hem", "figures", "[I", true)
  | 2 => ("GoneIntoItsTunnel$Hem", "length", "I", false)
  | 3 => ("GoneIntoItsTunnel$Hem", "firstIn", "I", false)
  | 4 => ("GoneIntoItsTunnel$Hem", "secondIn", "I", false)
  | 5 => ("GoneIntoItsTunnel$Hem", "firstKnot", "Z", false)
  | 6 => ("GoneIntoItsTunnel$Hem", "secondKnot", "Z", false)
  | 7 => ("GoneIntoItsTunnel$Hem", "sewn", "Z", false)
  | 8 => ("GoneIntoItsTunnel$Hem", "pin", "I", false)
  | _ => ("GoneIntoItsTunnel$Hem", "strength", "I", false)
def tyX0 : Nat → FieldType := fun k => match k with
  | 0 => .array .int
  | 1 => .array .int
  | 2 => .int
  | 3 => .int
  | 4 => .int
  | 5 => .boolean
  | 6 => .boolean
  | 7 => .boolean
  | 8 => .int
  | _ => .int
theorem nmX0 : ∀ a, a < 10 → ∀ b, b < 10 → a ≠ b → (TX0 a).2.1 ≠ (TX0 b).2.1 := by decide +kernel
theorem tyX0_ok : ∀ k, k < 10 → parseFieldDescriptor (TX0 k).2.2.1 = some (tyX0 k) := by decide +kernel
abbrev cX0_init : ByteArray := prog_2_method_1_code
def yX0_init : MethodName := ⟨RX0, "<init>", "()V"⟩
abbrev cX0_copyFrom : ByteArray := prog_2_method_2_code
def yX0_copyFrom : MethodName := ⟨RX0, "copyFrom", "(LGoneIntoItsTunnel$Hem;)V"⟩
abbrev cX0_hasInch : ByteArray := prog_2_method_3_code
def yX0_hasInch : MethodName := ⟨RX0, "hasInch", "(I)Z"⟩
abbrev cX0_kindAt : ByteArray := prog_2_method_4_code
def yX0_kindAt : MethodName := ⟨RX0, "kindAt", "(I)I"⟩
abbrev cX0_figureAt : ByteArray := prog_2_method_5_code
def yX0_figureAt : MethodName := ⟨RX0, "figureAt", "(I)I"⟩
abbrev cX0_make : ByteArray := prog_2_method_6_code
def yX0_make : MethodName := ⟨RX0, "make", "(III)V"⟩
abbrev cX0_bunchMove : ByteArray := prog_2_method_7_code
def yX0_bunchMove : MethodName := ⟨RX0, "bunchMove", "(I)I"⟩
abbrev cX0_bunchSeconds : ByteArray := prog_2_method_8_code
def yX0_bunchSeconds : MethodName := ⟨RX0, "bunchSeconds", "(I)I"⟩
abbrev cX0_threadSeconds : ByteArray := prog_2_method_9_code
def yX0_threadSeconds : MethodName := ⟨RX0, "threadSeconds", "(I)I"⟩
abbrev cX0_washDraw : ByteArray := prog_2_method_10_code
def yX0_washDraw : MethodName := ⟨RX0, "washDraw", "(I)I"⟩
abbrev cX0_seams : ByteArray := prog_2_method_11_code
def yX0_seams : MethodName := ⟨RX0, "seams", "()I"⟩
abbrev cX0_secondsAnewOf : ByteArray := prog_2_method_12_code
def yX0_secondsAnewOf : MethodName := ⟨RX0, "secondsAnewOf", "(II)I"⟩
abbrev cX0_secondsAnew : ByteArray := prog_2_method_13_code
def yX0_secondsAnew : MethodName := ⟨RX0, "secondsAnew", "(I)I"⟩
abbrev cX0_threadAnew : ByteArray := prog_2_method_14_code
def yX0_threadAnew : MethodName := ⟨RX0, "threadAnew", "()V"⟩
abbrev cX0_depth : ByteArray := prog_2_method_15_code
def yX0_depth : MethodName := ⟨RX0, "depth", "(I)I"⟩
abbrev cX0_place : ByteArray := prog_2_method_16_code
def yX0_place : MethodName := ⟨RX0, "place", "(II)V"⟩
abbrev cX0_isKnotted : ByteArray := prog_2_method_17_code
def yX0_isKnotted : MethodName := ⟨RX0, "isKnotted", "(I)Z"⟩
abbrev cX0_knot : ByteArray := prog_2_method_18_code
def yX0_knot : MethodName := ⟨RX0, "knot", "(IZ)V"⟩
abbrev cX0_isLost : ByteArray := prog_2_method_19_code
def yX0_isLost : MethodName := ⟨RX0, "isLost", "(I)Z"⟩
abbrev cX0_lostEnds : ByteArray := prog_2_method_20_code
def yX0_lostEnds : MethodName := ⟨RX0, "lostEnds", "()I"⟩
abbrev cX0_inchAt : ByteArray := prog_2_method_21_code
def yX0_inchAt : MethodName := ⟨RX0, "inchAt", "(II)I"⟩
abbrev cX0_canDraw : ByteArray := prog_2_method_22_code
def yX0_canDraw : MethodName := ⟨RX0, "canDraw", "(II)I"⟩
abbrev cX0_draw : ByteArray := prog_2_method_23_code
def yX0_draw : MethodName := ⟨RX0, "draw", "(II)I"⟩
abbrev cX0_washOnce : ByteArray := prog_2_method_24_code
def yX0_washOnce : MethodName := ⟨RX0, "washOnce", "()I"⟩
abbrev cX0_washTimes : ByteArray := prog_2_method_25_code
def yX0_washTimes : MethodName := ⟨RX0, "washTimes", "(I)V"⟩
def RX1 : String := "GoneIntoItsTunnel$Kind"
def TX1 : u_T := fun k => match k with
  | _ => ("", "", "", false)
def tyX1 : Nat → FieldType := fun k => match k with
  | _ => .int
theorem nmX1 : ∀ a, a < 0 → ∀ b, b < 0 → a ≠ b → (TX1 a).2.1 ≠ (TX1 b).2.1 := by decide +kernel
theorem tyX1_ok : ∀ k, k < 0 → parseFieldDescriptor (TX1 k).2.2.1 = some (tyX1 k) := by decide +kernel
abbrev cX1_isSign : ByteArray := prog_3_method_2_code
def yX1_isSign : MethodName := ⟨RX1, "isSign", "(I)Z"⟩
abbrev cX1_ofSign : ByteArray := prog_3_method_3_code
def yX1_ofSign : MethodName := ⟨RX1, "ofSign", "(I)I"⟩
abbrev cX1_isSeam : ByteArray := prog_3_method_4_code
def yX1_isSeam : MethodName := ⟨RX1, "isSeam", "(I)Z"⟩
abbrev cX1_bunchMove : ByteArray := prog_3_method_5_code
def yX1_bunchMove : MethodName := ⟨RX1, "bunchMove", "(I)I"⟩
abbrev cX1_bunchSeconds : ByteArray := prog_3_method_6_code
def yX1_bunchSeconds : MethodName := ⟨RX1, "bunchSeconds", "(II)I"⟩
abbrev cX1_threadSeconds : ByteArray := prog_3_method_7_code
def yX1_threadSeconds : MethodName := ⟨RX1, "threadSeconds", "(II)I"⟩
abbrev cX1_washDraw : ByteArray := prog_3_method_8_code
def yX1_washDraw : MethodName := ⟨RX1, "washDraw", "(II)I"⟩
def RX2 : String := "GoneIntoItsTunnel$Letters"
def TX2 : u_T := fun k => match k with
  | 0 => ("GoneIntoItsTunnel$Letters", "signs", "[I", true)
  | _ => ("GoneIntoItsTunnel$Letters", "size", "I", false)
def tyX2 : Nat → FieldType := fun k => match k with
  | 0 => .array .int
  | _ => .int
theorem nmX2 : ∀ a, a < 2 → ∀ b, b < 2 → a ≠ b → (TX2 a).2.1 ≠ (TX2 b).2.1 := by decide +kernel
theorem tyX2_ok : ∀ k, k < 2 → parseFieldDescriptor (TX2 k).2.2.1 = some (tyX2 k) := by decide +kernel
abbrev cX2_init : ByteArray := prog_4_method_1_code
def yX2_init : MethodName := ⟨RX2, "<init>", "()V"⟩
abbrev cX2_isFull : ByteArray := prog_4_method_2_code
def yX2_isFull : MethodName := ⟨RX2, "isFull", "()Z"⟩
abbrev cX2_add : ByteArray := prog_4_method_3_code
def yX2_add : MethodName := ⟨RX2, "add", "(I)V"⟩
abbrev cX2_clear : ByteArray := prog_4_method_4_code
def yX2_clear : MethodName := ⟨RX2, "clear", "()V"⟩
abbrev cX2_signAt : ByteArray := prog_4_method_5_code
def yX2_signAt : MethodName := ⟨RX2, "signAt", "(I)I"⟩
abbrev cX2_digit : ByteArray := prog_4_method_6_code
def yX2_digit : MethodName := ⟨RX2, "digit", "(I)I"⟩
abbrev cX2_number : ByteArray := prog_4_method_7_code
def yX2_number : MethodName := ⟨RX2, "number", "(I)I"⟩
abbrev cX2_signed : ByteArray := prog_4_method_8_code
def yX2_signed : MethodName := ⟨RX2, "signed", "(I)I"⟩
abbrev cX2_lengthBehind : ByteArray := prog_4_method_9_code
def yX2_lengthBehind : MethodName := ⟨RX2, "lengthBehind", "(I)I"⟩
abbrev cX2_firstUnfit : ByteArray := prog_4_method_10_code
def yX2_firstUnfit : MethodName := ⟨RX2, "firstUnfit", "()I"⟩
abbrev cX2_formBehind : ByteArray := prog_4_method_11_code
def yX2_formBehind : MethodName := ⟨RX2, "formBehind", "(I)Ljava/lang/String;"⟩
abbrev cX2_fits : ByteArray := prog_4_method_12_code
def yX2_fits : MethodName := ⟨RX2, "fits", "(II)Z"⟩
def RX3 : String := "GoneIntoItsTunnel$Mending"
def TX3 : u_T := fun k => match k with
  | 0 => ("GoneIntoItsTunnel$Mending", "times", "I", false)
  | _ => ("GoneIntoItsTunnel$Mending", "seconds", "I", false)
def tyX3 : Nat → FieldType := fun k => match k with
  | 0 => .int
  | _ => .int
theorem nmX3 : ∀ a, a < 2 → ∀ b, b < 2 → a ≠ b → (TX3 a).2.1 ≠ (TX3 b).2.1 := by decide +kernel
theorem tyX3_ok : ∀ k, k < 2 → parseFieldDescriptor (TX3 k).2.2.1 = some (tyX3 k) := by decide +kernel
abbrev cX3_init : ByteArray := prog_5_method_1_code
def yX3_init : MethodName := ⟨RX3, "<init>", "()V"⟩
abbrev cX3_goOn : ByteArray := prog_5_method_2_code
def yX3_goOn : MethodName := ⟨RX3, "goOn", "(LGoneIntoItsTunnel$Hem;LGoneIntoItsTunnel$Way;I)V"⟩
abbrev cX3_mend : ByteArray := prog_5_method_3_code
def yX3_mend : MethodName := ⟨RX3, "mend", "(LGoneIntoItsTunnel$Hem;LGoneIntoItsTunnel$Way;II)V"⟩
def RX4 : String := "GoneIntoItsTunnel$Row"
def TX4 : u_T := fun k => match k with
  | 0 => ("GoneIntoItsTunnel$Row", "numbers", "[I", true)
  | _ => ("GoneIntoItsTunnel$Row", "size", "I", false)
def tyX4 : Nat → FieldType := fun k => match k with
  | 0 => .array .int
  | _ => .int
theorem nmX4 : ∀ a, a < 2 → ∀ b, b < 2 → a ≠ b → (TX4 a).2.1 ≠ (TX4 b).2.1 := by decide +kernel
theorem tyX4_ok : ∀ k, k < 2 → parseFieldDescriptor (TX4 k).2.2.1 = some (tyX4 k) := by decide +kernel
abbrev cX4_init : ByteArray := prog_6_method_1_code
def yX4_init : MethodName := ⟨RX4, "<init>", "()V"⟩
abbrev cX4_isFull : ByteArray := prog_6_method_2_code
def yX4_isFull : MethodName := ⟨RX4, "isFull", "()Z"⟩
abbrev cX4_add : ByteArray := prog_6_method_3_code
def yX4_add : MethodName := ⟨RX4, "add", "(I)V"⟩
abbrev cX4_clear : ByteArray := prog_6_method_4_code
def yX4_clear : MethodName := ⟨RX4, "clear", "()V"⟩
abbrev cX4_firstNotSo : ByteArray := prog_6_method_5_code
def yX4_firstNotSo : MethodName := ⟨RX4, "firstNotSo", "(LGoneIntoItsTunnel$Hem;I)I"⟩
def RX5 : String := "GoneIntoItsTunnel$Way"
def TX5 : u_T := fun k => match k with
  | 0 => ("GoneIntoItsTunnel$Way", "bunches", "I", false)
  | 1 => ("GoneIntoItsTunnel$Way", "seconds", "I", false)
  | _ => ("GoneIntoItsTunnel$Way", "dearest", "I", false)
def tyX5 : Nat → FieldType := fun k => match k with
  | 0 => .int
  | 1 => .int
  | _ => .int
theorem nmX5 : ∀ a, a < 3 → ∀ b, b < 3 → a ≠ b → (TX5 a).2.1 ≠ (TX5 b).2.1 := by decide +kernel
theorem tyX5_ok : ∀ k, k < 3 → parseFieldDescriptor (TX5 k).2.2.1 = some (tyX5 k) := by decide +kernel
abbrev cX5_init : ByteArray := prog_7_method_1_code
def yX5_init : MethodName := ⟨RX5, "<init>", "()V"⟩
abbrev cX5_measure : ByteArray := prog_7_method_2_code
def yX5_measure : MethodName := ⟨RX5, "measure", "(LGoneIntoItsTunnel$Hem;II)V"⟩
abbrev cX5_neverIsOut : ByteArray := prog_7_method_3_code
def yX5_neverIsOut : MethodName := ⟨RX5, "neverIsOut", "()V"⟩
abbrev cX5_isAWay : ByteArray := prog_7_method_4_code
def yX5_isAWay : MethodName := ⟨RX5, "isAWay", "()Z"⟩
abbrev cX5_rank : ByteArray := prog_7_method_5_code
def yX5_rank : MethodName := ⟨RX5, "rank", "()I"⟩
abbrev cX5_secondsOfAll : ByteArray := prog_7_method_6_code
def yX5_secondsOfAll : MethodName := ⟨RX5, "secondsOfAll", "(LGoneIntoItsTunnel$Hem;)I"⟩
def RX6 : String := "GoneIntoItsTunnel"
def TX6 : u_T := fun k => match k with
  | 0 => ("GoneIntoItsTunnel", "now", "LGoneIntoItsTunnel$Hem;", true)
  | 1 => ("GoneIntoItsTunnel", "mind", "LGoneIntoItsTunnel$Hem;", true)
  | 2 => ("GoneIntoItsTunnel", "taken", "LGoneIntoItsTunnel$Hem;", true)
  | 3 => ("GoneIntoItsTunnel", "anyTaken", "Z", false)
  | 4 => ("GoneIntoItsTunnel", "way", "LGoneIntoItsTunnel$Way;", true)
  | 5 => ("GoneIntoItsTunnel", "mending", "LGoneIntoItsTunnel$Mending;", true)
  | 6 => ("GoneIntoItsTunnel", "letters", "LGoneIntoItsTunnel$Letters;", true)
  | 7 => ("GoneIntoItsTunnel", "told", "LGoneIntoItsTunnel$Row;", true)
  | _ => ("GoneIntoItsTunnel", "refusals", "[I", true)
def tyX6 : Nat → FieldType := fun k => match k with
  | 0 => .object "GoneIntoItsTunnel$Hem"
  | 1 => .object "GoneIntoItsTunnel$Hem"
  | 2 => .object "GoneIntoItsTunnel$Hem"
  | 3 => .boolean
  | 4 => .object "GoneIntoItsTunnel$Way"
  | 5 => .object "GoneIntoItsTunnel$Mending"
  | 6 => .object "GoneIntoItsTunnel$Letters"
  | 7 => .object "GoneIntoItsTunnel$Row"
  | _ => .array .int
theorem nmX6 : ∀ a, a < 9 → ∀ b, b < 9 → a ≠ b → (TX6 a).2.1 ≠ (TX6 b).2.1 := by decide +kernel
theorem tyX6_ok : ∀ k, k < 9 → parseFieldDescriptor (TX6 k).2.2.1 = some (tyX6 k) := by decide +kernel
abbrev cX6_init : ByteArray := prog_1_method_1_code
def yX6_init : MethodName := ⟨RX6, "<init>", "()V"⟩
abbrev cX6_letter : ByteArray := prog_1_method_2_code
def yX6_letter : MethodName := ⟨RX6, "letter", "(I)I"⟩
abbrev cX6_hem : ByteArray := prog_1_method_3_code
def yX6_hem : MethodName := ⟨RX6, "hem", "()I"⟩
abbrev cX6_inch : ByteArray := prog_1_method_4_code
def yX6_inch : MethodName := ⟨RX6, "inch", "(II)I"⟩
abbrev cX6_turn : ByteArray := prog_1_method_5_code
def yX6_turn : MethodName := ⟨RX6, "turn", "(III)I"⟩
abbrev cX6_inches : ByteArray := prog_1_method_6_code
def yX6_inches : MethodName := ⟨RX6, "inches", "(I)I"⟩
abbrev cX6_end : ByteArray := prog_1_method_7_code
def yX6_end : MethodName := ⟨RX6, "end", "(II)I"⟩
abbrev cX6_tie : ByteArray := prog_1_method_8_code
def yX6_tie : MethodName := ⟨RX6, "tie", "(I)I"⟩
abbrev cX6_sew : ByteArray := prog_1_method_9_code
def yX6_sew : MethodName := ⟨RX6, "sew", "()I"⟩
abbrev cX6_set : ByteArray := prog_1_method_10_code
def yX6_set : MethodName := ⟨RX6, "set", "(II)I"⟩
abbrev cX6_pull : ByteArray := prog_1_method_11_code
def yX6_pull : MethodName := ⟨RX6, "pull", "(II)I"⟩
abbrev cX6_bunch : ByteArray := prog_1_method_12_code
def yX6_bunch : MethodName := ⟨RX6, "bunch", "(I)I"⟩
abbrev cX6_anew : ByteArray := prog_1_method_13_code
def yX6_anew : MethodName := ⟨RX6, "anew", "()I"⟩
abbrev cX6_wash : ByteArray := prog_1_method_14_code
def yX6_wash : MethodName := ⟨RX6, "wash", "(I)I"⟩
abbrev cX6_of : ByteArray := prog_1_method_15_code
def yX6_of : MethodName := ⟨RX6, "of", "(II)I"⟩
abbrev cX6_out : ByteArray := prog_1_method_16_code
def yX6_out : MethodName := ⟨RX6, "out", "(II)I"⟩
abbrev cX6_soonest : ByteArray := prog_1_method_17_code
def yX6_soonest : MethodName := ⟨RX6, "soonest", "()I"⟩
abbrev cX6_better : ByteArray := prog_1_method_18_code
def yX6_better : MethodName := ⟨RX6, "better", "(I)I"⟩
abbrev cX6_inIn : ByteArray := prog_1_method_19_code
def yX6_inIn : MethodName := ⟨RX6, "inIn", "(II)I"⟩
abbrev cX6_lost : ByteArray := prog_1_method_20_code
def yX6_lost : MethodName := ⟨RX6, "lost", "(I)I"⟩
abbrev cX6_still : ByteArray := prog_1_method_21_code
def yX6_still : MethodName := ⟨RX6, "still", "()I"⟩
abbrev cX6_keep : ByteArray := prog_1_method_22_code
def yX6_keep : MethodName := ⟨RX6, "keep", "(I)I"⟩
abbrev cX6_deep : ByteArray := prog_1_method_23_code
def yX6_deep : MethodName := ⟨RX6, "deep", "(II)I"⟩
abbrev cX6_stops : ByteArray := prog_1_method_24_code
def yX6_stops : MethodName := ⟨RX6, "stops", "(II)I"⟩
abbrev cX6_care : ByteArray := prog_1_method_25_code
def yX6_care : MethodName := ⟨RX6, "care", "(I)I"⟩
abbrev cX6_holdsUp : ByteArray := prog_1_method_26_code
def yX6_holdsUp : MethodName := ⟨RX6, "holdsUp", "(I)I"⟩
abbrev cX6_middle : ByteArray := prog_1_method_27_code
def yX6_middle : MethodName := ⟨RX6, "middle", "()I"⟩
abbrev cX6_cutOff : ByteArray := prog_1_method_28_code
def yX6_cutOff : MethodName := ⟨RX6, "cutOff", "()I"⟩
abbrev cX6_bestPin : ByteArray := prog_1_method_29_code
def yX6_bestPin : MethodName := ⟨RX6, "bestPin", "(I)I"⟩
abbrev cX6_worst : ByteArray := prog_1_method_30_code
def yX6_worst : MethodName := ⟨RX6, "worst", "()I"⟩
abbrev cX6_which : ByteArray := prog_1_method_31_code
def yX6_which : MethodName := ⟨RX6, "which", "(II)I"⟩
abbrev cX6_row : ByteArray := prog_1_method_32_code
def yX6_row : MethodName := ⟨RX6, "row", "(I)I"⟩
abbrev cX6_judge : ByteArray := prog_1_method_33_code
def yX6_judge : MethodName := ⟨RX6, "judge", "(I)I"⟩
abbrev cX6_lots : ByteArray := prog_1_method_34_code
def yX6_lots : MethodName := ⟨RX6, "lots", "(III)I"⟩
abbrev cX6_image : ByteArray := prog_1_method_35_code
def yX6_image : MethodName := ⟨RX6, "image", "()I"⟩
abbrev cX6_on : ByteArray := prog_1_method_36_code
def yX6_on : MethodName := ⟨RX6, "on", "()I"⟩
abbrev cX6_count : ByteArray := prog_1_method_37_code
def yX6_count : MethodName := ⟨RX6, "count", "(I)I"⟩
abbrev cX6_isEnd : ByteArray := prog_1_method_38_code
def yX6_isEnd : MethodName := ⟨RX6, "isEnd", "(I)Z"⟩
abbrev cX6_outside : ByteArray := prog_1_method_39_code
def yX6_outside : MethodName := ⟨RX6, "outside", "(III)I"⟩
abbrev cX6_refuse : ByteArray := prog_1_method_40_code
def yX6_refuse : MethodName := ⟨RX6, "refuse", "(I)I"⟩
abbrev cX6_refuseAsTold : ByteArray := prog_1_method_41_code
def yX6_refuseAsTold : MethodName := ⟨RX6, "refuseAsTold", "(I)I"⟩
abbrev cX6_refusalsAt : ByteArray := prog_1_method_42_code
def yX6_refusalsAt : MethodName := ⟨RX6, "refusalsAt", "(I)I"⟩
abbrev cX6_statementsCome : ByteArray := prog_1_method_43_code
def yX6_statementsCome : MethodName := ⟨RX6, "statementsCome", "()I"⟩
abbrev cX6_isAsItMustBe : ByteArray := prog_1_method_44_code
def yX6_isAsItMustBe : MethodName := ⟨RX6, "isAsItMustBe", "(I)Z"⟩
abbrev cX6_comes : ByteArray := prog_1_method_45_code
def yX6_comes : MethodName := ⟨RX6, "comes", "(I)V"⟩
abbrev cX6_secondsIfLost : ByteArray := prog_1_method_46_code
def yX6_secondsIfLost : MethodName := ⟨RX6, "secondsIfLost", "(I)I"⟩
abbrev cX6_washesTillLost : ByteArray := prog_1_method_47_code
def yX6_washesTillLost : MethodName := ⟨RX6, "washesTillLost", "()I"⟩
abbrev cX6_secondsWithStop : ByteArray := prog_1_method_48_code
def yX6_secondsWithStop : MethodName := ⟨RX6, "secondsWithStop", "(II)I"⟩
abbrev cX6_rankWithCloth : ByteArray := prog_1_method_49_code
def yX6_rankWithCloth : MethodName := ⟨RX6, "rankWithCloth", "(II)I"⟩
abbrev cX6_kindsByRow : ByteArray := prog_1_method_50_code
def yX6_kindsByRow : MethodName := ⟨RX6, "kindsByRow", "(I)I"⟩
abbrev cX6_strengthsByRow : ByteArray := prog_1_method_51_code
def yX6_strengthsByRow : MethodName := ⟨RX6, "strengthsByRow", "()I"⟩
abbrev cX6_lotSeconds : ByteArray := prog_1_method_52_code
def yX6_lotSeconds : MethodName := ⟨RX6, "lotSeconds", "(I)I"⟩
def RX7 : String := "GoneIntoItsTunnelModel"
def TX7 : u_T := fun k => match k with
  | 0 => ("GoneIntoItsTunnelModel", "s", "[I", true)
  | 1 => ("GoneIntoItsTunnelModel", "m", "[I", true)
  | 2 => ("GoneIntoItsTunnelModel", "image", "[I", true)
  | 3 => ("GoneIntoItsTunnelModel", "was", "[I", true)
  | 4 => ("GoneIntoItsTunnelModel", "hasImage", "Z", false)
  | 5 => ("GoneIntoItsTunnelModel", "letters", "[I", true)
  | 6 => ("GoneIntoItsTunnelModel", "row", "[I", true)
  | 7 => ("GoneIntoItsTunnelModel", "refused", "[I", true)
  | 8 => ("GoneIntoItsTunnelModel", "letterMany", "I", false)
  | 9 => ("GoneIntoItsTunnelModel", "rowMany", "I", false)
  | 10 => ("GoneIntoItsTunnelModel", "costs", "[I", true)
  | 11 => ("GoneIntoItsTunnelModel", "bunchesMany", "I", false)
  | 12 => ("GoneIntoItsTunnelModel", "place", "I", false)
  | 13 => ("GoneIntoItsTunnelModel", "numbers", "[I", true)
  | 14 => ("GoneIntoItsTunnelModel", "mends", "I", false)
  | _ => ("GoneIntoItsTunnelModel", "seed", "I", false)
def tyX7 : Nat → FieldType := fun k => match k with
  | 0 => .array .int
  | 1 => .array .int
  | 2 => .array .int
  | 3 => .array .int
  | 4 => .boolean
  | 5 => .array .int
  | 6 => .array .int
  | 7 => .array .int
  | 8 => .int
  | 9 => .int
  | 10 => .array .int
  | 11 => .int
  | 12 => .int
  | 13 => .array .int
  | 14 => .int
  | _ => .int
theorem nmX7 : ∀ a, a < 16 → ∀ b, b < 16 → a ≠ b → (TX7 a).2.1 ≠ (TX7 b).2.1 := by decide +kernel
theorem tyX7_ok : ∀ k, k < 16 → parseFieldDescriptor (TX7 k).2.2.1 = some (tyX7 k) := by decide +kernel
abbrev cX7_init : ByteArray := prog_9_method_1_code
def yX7_init : MethodName := ⟨RX7, "<init>", "()V"⟩
abbrev cX7_isIn : ByteArray := prog_9_method_2_code
def yX7_isIn : MethodName := ⟨RX7, "isIn", "(III)Z"⟩
abbrev cX7_least : ByteArray := prog_9_method_3_code
def yX7_least : MethodName := ⟨RX7, "least", "(II)I"⟩
abbrev cX7_most : ByteArray := prog_9_method_4_code
def yX7_most : MethodName := ⟨RX7, "most", "(II)I"⟩
abbrev cX7_lays : ByteArray := prog_9_method_5_code
def yX7_lays : MethodName := ⟨RX7, "lays", "([I[I)V"⟩
abbrev cX7_no : ByteArray := prog_9_method_6_code
def yX7_no : MethodName := ⟨RX7, "no", "(I)I"⟩
abbrev cX7_noFar : ByteArray := prog_9_method_7_code
def yX7_noFar : MethodName := ⟨RX7, "noFar", "(I)I"⟩
abbrev cX7_isInch : ByteArray := prog_9_method_8_code
def yX7_isInch : MethodName := ⟨RX7, "isInch", "(I)Z"⟩
abbrev cX7_isEnd : ByteArray := prog_9_method_9_code
def yX7_isEnd : MethodName := ⟨RX7, "isEnd", "(I)Z"⟩
abbrev cX7_kindOf : ByteArray := prog_9_method_10_code
def yX7_kindOf : MethodName := ⟨RX7, "kindOf", "([II)I"⟩
abbrev cX7_figureOf : ByteArray := prog_9_method_11_code
def yX7_figureOf : MethodName := ⟨RX7, "figureOf", "([II)I"⟩
abbrev cX7_isSeam : ByteArray := prog_9_method_12_code
def yX7_isSeam : MethodName := ⟨RX7, "isSeam", "(I)Z"⟩
abbrev cX7_movesAt : ByteArray := prog_9_method_13_code
def yX7_movesAt : MethodName := ⟨RX7, "movesAt", "([II)I"⟩
abbrev cX7_bunchAt : ByteArray := prog_9_method_14_code
def yX7_bunchAt : MethodName := ⟨RX7, "bunchAt", "([II)I"⟩
abbrev cX7_threadAt : ByteArray := prog_9_method_15_code
def yX7_threadAt : MethodName := ⟨RX7, "threadAt", "([II)I"⟩
abbrev cX7_drawsAt : ByteArray := prog_9_method_16_code
def yX7_drawsAt : MethodName := ⟨RX7, "drawsAt", "([II)I"⟩
abbrev cX7_inchOf : ByteArray := prog_9_method_17_code
def yX7_inchOf : MethodName := ⟨RX7, "inchOf", "([II)I"⟩
abbrev cX7_isLost : ByteArray := prog_9_method_18_code
def yX7_isLost : MethodName := ⟨RX7, "isLost", "([II)Z"⟩
abbrev cX7_canPull : ByteArray := prog_9_method_19_code
def yX7_canPull : MethodName := ⟨RX7, "canPull", "([III)I"⟩
abbrev cX7_pulls : ByteArray := prog_9_method_20_code
def yX7_pulls : MethodName := ⟨RX7, "pulls", "([III)I"⟩
abbrev cX7_washes : ByteArray := prog_9_method_21_code
def yX7_washes : MethodName := ⟨RX7, "washes", "([I)I"⟩
abbrev cX7_washesOn : ByteArray := prog_9_method_22_code
def yX7_washesOn : MethodName := ⟨RX7, "washesOn", "([II)V"⟩
abbrev cX7_bunches : ByteArray := prog_9_method_23_code
def yX7_bunches : MethodName := ⟨RX7, "bunches", "([II)V"⟩
abbrev cX7_anewSeconds : ByteArray := prog_9_method_24_code
def yX7_anewSeconds : MethodName := ⟨RX7, "anewSeconds", "([I)I"⟩
abbrev cX7_threadBy : ByteArray := prog_9_method_25_code
def yX7_threadBy : MethodName := ⟨RX7, "threadBy", "([II)I"⟩
abbrev cX7_threads : ByteArray := prog_9_method_26_code
def yX7_threads : MethodName := ⟨RX7, "threads", "([I)V"⟩
abbrev cX7_outSeconds : ByteArray := prog_9_method_27_code
def yX7_outSeconds : MethodName := ⟨RX7, "outSeconds", "([II)I"⟩
abbrev cX7_allSeconds : ByteArray := prog_9_method_28_code
def yX7_allSeconds : MethodName := ⟨RX7, "allSeconds", "([I)I"⟩
abbrev cX7_lostMany : ByteArray := prog_9_method_29_code
def yX7_lostMany : MethodName := ⟨RX7, "lostMany", "([I)I"⟩
abbrev cX7_letter : ByteArray := prog_9_method_30_code
def yX7_letter : MethodName := ⟨RX7, "letter", "(I)I"⟩
abbrev cX7_here : ByteArray := prog_9_method_31_code
def yX7_here : MethodName := ⟨RX7, "here", "()I"⟩
abbrev cX7_readsNumber : ByteArray := prog_9_method_32_code
def yX7_readsNumber : MethodName := ⟨RX7, "readsNumber", "(II)Z"⟩
abbrev cX7_kindBy : ByteArray := prog_9_method_33_code
def yX7_kindBy : MethodName := ⟨RX7, "kindBy", "(I)I"⟩
abbrev cX7_readsKind : ByteArray := prog_9_method_34_code
def yX7_readsKind : MethodName := ⟨RX7, "readsKind", "()Z"⟩
abbrev cX7_readsSigned : ByteArray := prog_9_method_35_code
def yX7_readsSigned : MethodName := ⟨RX7, "readsSigned", "()Z"⟩
abbrev cX7_readsStatement : ByteArray := prog_9_method_36_code
def yX7_readsStatement : MethodName := ⟨RX7, "readsStatement", "()Z"⟩
abbrev cX7_isDone : ByteArray := prog_9_method_37_code
def yX7_isDone : MethodName := ⟨RX7, "isDone", "(I)Z"⟩
abbrev cX7_hem : ByteArray := prog_9_method_38_code
def yX7_hem : MethodName := ⟨RX7, "hem", "()I"⟩
abbrev cX7_inch : ByteArray := prog_9_method_39_code
def yX7_inch : MethodName := ⟨RX7, "inch", "(II)I"⟩
abbrev cX7_turn : ByteArray := prog_9_method_40_code
def yX7_turn : MethodName := ⟨RX7, "turn", "(III)I"⟩
abbrev cX7_inches : ByteArray := prog_9_method_41_code
def yX7_inches : MethodName := ⟨RX7, "inches", "(I)I"⟩
abbrev cX7_end : ByteArray := prog_9_method_42_code
def yX7_end : MethodName := ⟨RX7, "end", "(II)I"⟩
abbrev cX7_tie : ByteArray := prog_9_method_43_code
def yX7_tie : MethodName := ⟨RX7, "tie", "(I)I"⟩
abbrev cX7_sew : ByteArray := prog_9_method_44_code
def yX7_sew : MethodName := ⟨RX7, "sew", "()I"⟩
abbrev cX7_set : ByteArray := prog_9_method_45_code
def yX7_set : MethodName := ⟨RX7, "set", "(II)I"⟩
abbrev cX7_pull : ByteArray := prog_9_method_46_code
def yX7_pull : MethodName := ⟨RX7, "pull", "(II)I"⟩
abbrev cX7_bunch : ByteArray := prog_9_method_47_code
def yX7_bunch : MethodName := ⟨RX7, "bunch", "(I)I"⟩
abbrev cX7_anew : ByteArray := prog_9_method_48_code
def yX7_anew : MethodName := ⟨RX7, "anew", "()I"⟩
abbrev cX7_wash : ByteArray := prog_9_method_49_code
def yX7_wash : MethodName := ⟨RX7, "wash", "(I)I"⟩
abbrev cX7_of : ByteArray := prog_9_method_50_code
def yX7_of : MethodName := ⟨RX7, "of", "(II)I"⟩
abbrev cX7_costliest : ByteArray := prog_9_method_51_code
def yX7_costliest : MethodName := ⟨RX7, "costliest", "(I)I"⟩
abbrev cX7_out : ByteArray := prog_9_method_52_code
def yX7_out : MethodName := ⟨RX7, "out", "(II)I"⟩
abbrev cX7_soonest : ByteArray := prog_9_method_53_code
def yX7_soonest : MethodName := ⟨RX7, "soonest", "()I"⟩
abbrev cX7_better : ByteArray := prog_9_method_54_code
def yX7_better : MethodName := ⟨RX7, "better", "(I)I"⟩
abbrev cX7_wrongWashes : ByteArray := prog_9_method_55_code
def yX7_wrongWashes : MethodName := ⟨RX7, "wrongWashes", "(I)I"⟩
abbrev cX7_inIn : ByteArray := prog_9_method_56_code
def yX7_inIn : MethodName := ⟨RX7, "inIn", "(II)I"⟩
abbrev cX7_lost : ByteArray := prog_9_method_57_code
def yX7_lost : MethodName := ⟨RX7, "lost", "(I)I"⟩
abbrev cX7_still : ByteArray := prog_9_method_58_code
def yX7_still : MethodName := ⟨RX7, "still", "()I"⟩
abbrev cX7_wrongSeconds : ByteArray := prog_9_method_59_code
def yX7_wrongSeconds : MethodName := ⟨RX7, "wrongSeconds", "(I)I"⟩
abbrev cX7_keep : ByteArray := prog_9_method_60_code
def yX7_keep : MethodName := ⟨RX7, "keep", "(I)I"⟩
abbrev cX7_deep : ByteArray := prog_9_method_61_code
def yX7_deep : MethodName := ⟨RX7, "deep", "(II)I"⟩
abbrev cX7_mended : ByteArray := prog_9_method_62_code
def yX7_mended : MethodName := ⟨RX7, "mended", "(I)I"⟩
abbrev cX7_stops : ByteArray := prog_9_method_63_code
def yX7_stops : MethodName := ⟨RX7, "stops", "(II)I"⟩
abbrev cX7_care : ByteArray := prog_9_method_64_code
def yX7_care : MethodName := ⟨RX7, "care", "(I)I"⟩
abbrev cX7_holdsUp : ByteArray := prog_9_method_65_code
def yX7_holdsUp : MethodName := ⟨RX7, "holdsUp", "(I)I"⟩
abbrev cX7_middle : ByteArray := prog_9_method_66_code
def yX7_middle : MethodName := ⟨RX7, "middle", "()I"⟩
abbrev cX7_cutOff : ByteArray := prog_9_method_67_code
def yX7_cutOff : MethodName := ⟨RX7, "cutOff", "()I"⟩
abbrev cX7_bestPin : ByteArray := prog_9_method_68_code
def yX7_bestPin : MethodName := ⟨RX7, "bestPin", "(I)I"⟩
abbrev cX7_worst : ByteArray := prog_9_method_69_code
def yX7_worst : MethodName := ⟨RX7, "worst", "()I"⟩
abbrev cX7_row : ByteArray := prog_9_method_70_code
def yX7_row : MethodName := ⟨RX7, "row", "(I)I"⟩
abbrev cX7_firstWrong : ByteArray := prog_9_method_71_code
def yX7_firstWrong : MethodName := ⟨RX7, "firstWrong", "(II)I"⟩
abbrev cX7_which : ByteArray := prog_9_method_72_code
def yX7_which : MethodName := ⟨RX7, "which", "(II)I"⟩
abbrev cX7_judge : ByteArray := prog_9_method_73_code
def yX7_judge : MethodName := ⟨RX7, "judge", "(I)I"⟩
abbrev cX7_drawn : ByteArray := prog_9_method_74_code
def yX7_drawn : MethodName := ⟨RX7, "drawn", "(I)I"⟩
abbrev cX7_lots : ByteArray := prog_9_method_75_code
def yX7_lots : MethodName := ⟨RX7, "lots", "(III)I"⟩
abbrev cX7_image : ByteArray := prog_9_method_76_code
def yX7_image : MethodName := ⟨RX7, "image", "()I"⟩
abbrev cX7_on : ByteArray := prog_9_method_77_code
def yX7_on : MethodName := ⟨RX7, "on", "()I"⟩
abbrev cX7_count : ByteArray := prog_9_method_78_code
def yX7_count : MethodName := ⟨RX7, "count", "(I)I"⟩
def RJ11 : String := "java/lang/Character"
def TJ11 : u_T := fun k => match k with
  | _ => ("", "", "", false)
def tyJ11 : Nat → FieldType := fun k => match k with
  | _ => .int
abbrev cJ11_isValidCodePoint_9a6ad : ByteArray := prog_10_method_11_code
def yJ11_isValidCodePoint_9a6ad : MethodName := ⟨RJ11, "isValidCodePoint", "(I)Z"⟩
abbrev cJ11_highSurrogate_5068e : ByteArray := prog_10_method_28_code
def yJ11_highSurrogate_5068e : MethodName := ⟨RJ11, "highSurrogate", "(I)C"⟩
abbrev cJ11_lowSurrogate_5068e : ByteArray := prog_10_method_29_code
def yJ11_lowSurrogate_5068e : MethodName := ⟨RJ11, "lowSurrogate", "(I)C"⟩
def RJ9 : String := "java/lang/Math"
def TJ9 : u_T := fun k => match k with
  | _ => ("", "", "", false)
def tyJ9 : Nat → FieldType := fun k => match k with
  | _ => .int
abbrev cJ9_abs_0f7a4 : ByteArray := prog_11_method_59_code
def yJ9_abs_0f7a4 : MethodName := ⟨RJ9, "abs", "(I)I"⟩
abbrev cJ9_max_7cf53 : ByteArray := prog_11_method_65_code
def yJ9_max_7cf53 : MethodName := ⟨RJ9, "max", "(II)I"⟩
abbrev cJ9_min_7cf53 : ByteArray := prog_11_method_69_code
def yJ9_min_7cf53 : MethodName := ⟨RJ9, "min", "(II)I"⟩
def RJ0 : String := "java/lang/String"
def TJ0 : u_T := fun k => match k with
  | _ => ("", "", "", false)
def tyJ0 : Nat → FieldType := fun k => match k with
  | _ => .int
abbrev cJ0_length_8abf5 : ByteArray := prog_12_method_54_code
def yJ0_length_8abf5 : MethodName := ⟨RJ0, "length", "()I"⟩
abbrev cJ0_isEmpty_aae02 : ByteArray := prog_12_method_55_code
def yJ0_isEmpty_aae02 : MethodName := ⟨RJ0, "isEmpty", "()Z"⟩
abbrev cJ0_charAt_5068e : ByteArray := prog_12_method_56_code
def yJ0_charAt_5068e : MethodName := ⟨RJ0, "charAt", "(I)C"⟩
abbrev cJ0_indexOf_0f7a4 : ByteArray := prog_12_method_79_code
def yJ0_indexOf_0f7a4 : MethodName := ⟨RJ0, "indexOf", "(I)I"⟩
abbrev cJ0_indexOf_7cf53 : ByteArray := prog_12_method_80_code
def yJ0_indexOf_7cf53 : MethodName := ⟨RJ0, "indexOf", "(II)I"⟩
abbrev cJ0_coder_7d493 : ByteArray := prog_12_method_152_code
def yJ0_coder_7d493 : MethodName := ⟨RJ0, "coder", "()B"⟩
abbrev cJ0_isLatin1_aae02 : ByteArray := prog_12_method_154_code
def yJ0_isLatin1_aae02 : MethodName := ⟨RJ0, "isLatin1", "()Z"⟩
abbrev cJ0_checkIndex_df160 : ByteArray := prog_12_method_155_code
def yJ0_checkIndex_df160 : MethodName := ⟨RJ0, "checkIndex", "(II)V"⟩
abbrev cJ0_checkBoundsBeginEnd_23922 : ByteArray := prog_12_method_158_code
def yJ0_checkBoundsBeginEnd_23922 : MethodName := ⟨RJ0, "checkBoundsBeginEnd", "(III)V"⟩
def RJ1 : String := "java/lang/StringLatin1"
def TJ1 : u_T := fun k => match k with
  | _ => ("", "", "", false)
def tyJ1 : Nat → FieldType := fun k => match k with
  | _ => .int
abbrev cJ1_charAt_3b067 : ByteArray := prog_13_method_2_code
def yJ1_charAt_3b067 : MethodName := ⟨RJ1, "charAt", "([BI)C"⟩
abbrev cJ1_canEncode_9a6ad : ByteArray := prog_13_method_4_code
def yJ1_canEncode_9a6ad : MethodName := ⟨RJ1, "canEncode", "(I)Z"⟩
abbrev cJ1_indexOf_4cfef : ByteArray := prog_13_method_22_code
def yJ1_indexOf_4cfef : MethodName := ⟨RJ1, "indexOf", "([BIII)I"⟩
abbrev cJ1_indexOfChar_4cfef : ByteArray := prog_13_method_23_code
def yJ1_indexOfChar_4cfef : MethodName := ⟨RJ1, "indexOfChar", "([BIII)I"⟩
def RJ2 : String := "java/lang/StringUTF16"
def TJ2 : u_T := fun k => match k with
  | _ => ("", "", "", false)
def tyJ2 : Nat → FieldType := fun k => match k with
  | _ => .int
abbrev cJ2_getChar_3b067 : ByteArray := prog_14_method_5_code
def yJ2_getChar_3b067 : MethodName := ⟨RJ2, "getChar", "([BI)C"⟩
abbrev cJ2_length_9d52b : ByteArray := prog_14_method_6_code
def yJ2_length_9d52b : MethodName := ⟨RJ2, "length", "([B)I"⟩
abbrev cJ2_indexOf_4cfef : ByteArray := prog_14_method_40_code
def yJ2_indexOf_4cfef : MethodName := ⟨RJ2, "indexOf", "([BIII)I"⟩
abbrev cJ2_indexOfChar_4cfef : ByteArray := prog_14_method_47_code
def yJ2_indexOfChar_4cfef : MethodName := ⟨RJ2, "indexOfChar", "([BIII)I"⟩
abbrev cJ2_indexOfCharUnsafe_4cfef : ByteArray := prog_14_method_48_code
def yJ2_indexOfCharUnsafe_4cfef : MethodName := ⟨RJ2, "indexOfCharUnsafe", "([BIII)I"⟩
abbrev cJ2_indexOfSupplementary_4cfef : ByteArray := prog_14_method_49_code
def yJ2_indexOfSupplementary_4cfef : MethodName := ⟨RJ2, "indexOfSupplementary", "([BIII)I"⟩
abbrev cJ2_charAt_3b067 : ByteArray := prog_14_method_83_code
def yJ2_charAt_3b067 : MethodName := ⟨RJ2, "charAt", "([BI)C"⟩
abbrev cJ2_checkIndex_2214a : ByteArray := prog_14_method_91_code
def yJ2_checkIndex_2214a : MethodName := ⟨RJ2, "checkIndex", "(I[B)V"⟩
abbrev cJ2_checkBoundsBeginEnd_d044e : ByteArray := prog_14_method_93_code
def yJ2_checkBoundsBeginEnd_d044e : MethodName := ⟨RJ2, "checkBoundsBeginEnd", "(II[B)V"⟩
def RJ3 : String := "jdk/internal/util/Preconditions"
def TJ3 : u_T := fun k => match k with
  | _ => ("", "", "", false)
def tyJ3 : Nat → FieldType := fun k => match k with
  | _ => .int
abbrev cJ3_checkIndex_8e157 : ByteArray := prog_15_method_11_code
def yJ3_checkIndex_8e157 : MethodName := ⟨RJ3, "checkIndex", "(IILjava/util/function/BiFunction;)I"⟩
abbrev cJ3_checkFromToIndex_8c36e : ByteArray := prog_15_method_12_code
def yJ3_checkFromToIndex_8c36e : MethodName := ⟨RJ3, "checkFromToIndex", "(IIILjava/util/function/BiFunction;)I"⟩
def RL : String := "GoneIntoItsTunnelLaw"
abbrev cL_law : ByteArray := code
def yL_law : MethodName := ⟨RL, "law", "([I)Z"⟩
