/-! THE TABLES of a small machine of my own over the claim's classes: methods, what their constant pools name, by the places of the words in lw_tbl. Written by wip/whole/gen/g03.py. -/
abbrev MD : Type := Nat × MethodName × ByteArray × Nat × Option FieldType × Nat × Nat
def TBg : List Cond := lw_tbl.filter goodWord
theorem tb_at {w : Cond} (i : Nat) (h : lw_tbl[i]? = some w) (hg : goodWord w = true) : w ∈ TBg := List.mem_filter.mpr ⟨List.mem_of_getElem? h, hg⟩
theorem tb_1 {w : Cond} (i : Nat) (h : tables_1_1[i]? = some w) (hg : goodWord w = true) : w ∈ TBg := List.mem_filter.mpr ⟨by
  show w ∈ k2_sels lw_privs ++ (tables_1_1 ++ (tables_1_2 ++ (tables_1_3 ++ (tables_1_4 ++ tables_1_5))))
  simp only [List.mem_append]
  exact Or.inr (Or.inl (List.mem_of_getElem? h)), hg⟩
theorem tb_2 {w : Cond} (i : Nat) (h : tables_1_2[i]? = some w) (hg : goodWord w = true) : w ∈ TBg := List.mem_filter.mpr ⟨by
  show w ∈ k2_sels lw_privs ++ (tables_1_1 ++ (tables_1_2 ++ (tables_1_3 ++ (tables_1_4 ++ tables_1_5))))
  simp only [List.mem_append]
  exact Or.inr (Or.inr (Or.inl (List.mem_of_getElem? h))), hg⟩
theorem tb_3 {w : Cond} (i : Nat) (h : tables_1_3[i]? = some w) (hg : goodWord w = true) : w ∈ TBg := List.mem_filter.mpr ⟨by
  show w ∈ k2_sels lw_privs ++ (tables_1_1 ++ (tables_1_2 ++ (tables_1_3 ++ (tables_1_4 ++ tables_1_5))))
  simp only [List.mem_append]
  exact Or.inr (Or.inr (Or.inr (Or.inl (List.mem_of_getElem? h)))), hg⟩
theorem tb_4 {w : Cond} (i : Nat) (h : tables_1_4[i]? = some w) (hg : goodWord w = true) : w ∈ TBg := List.mem_filter.mpr ⟨by
  show w ∈ k2_sels lw_privs ++ (tables_1_1 ++ (tables_1_2 ++ (tables_1_3 ++ (tables_1_4 ++ tables_1_5))))
  simp only [List.mem_append]
  exact Or.inr (Or.inr (Or.inr (Or.inr (Or.inl (List.mem_of_getElem? h))))), hg⟩
theorem tb_5 {w : Cond} (i : Nat) (h : tables_1_5[i]? = some w) (hg : goodWord w = true) : w ∈ TBg := List.mem_filter.mpr ⟨by
  show w ∈ k2_sels lw_privs ++ (tables_1_1 ++ (tables_1_2 ++ (tables_1_3 ++ (tables_1_4 ++ tables_1_5))))
  simp only [List.mem_append]
  exact Or.inr (Or.inr (Or.inr (Or.inr (Or.inr (List.mem_of_getElem? h))))), hg⟩
theorem tb_good : GoodIn TBg TBg := fun w h => ⟨h, good_of_word (List.mem_filter.mp h).2⟩
def cn : Nat → String
  | 0 => RX0
  | 1 => RX2
  | 2 => RX3
  | 3 => RX4
  | 4 => RX5
  | 5 => RX6
  | 6 => RX7
  | 7 => RX1
  | 10 => RJ0
  | 11 => RJ1
  | 13 => RJ3
  | 19 => RJ9
  | _ => RL
abbrev clz : List vw_C := [(RX0, TX0, 10), (RX2, TX2, 2), (RX3, TX3, 2), (RX4, TX4, 2), (RX5, TX5, 3), (RX6, TX6, 9), (RX7, TX7, 16)]
def mX0_copyFrom : MD := (0, yX0_copyFrom, cX0_copyFrom, 3, (Option.none : Option Jvm.ClassFile.FieldType), 1, 23)
def mX0_hasInch : MD := (0, yX0_hasInch, cX0_hasInch, 2, (Option.some Jvm.ClassFile.FieldType.boolean), 0, 0)
def mX0_kindAt : MD := (0, yX0_kindAt, cX0_kindAt, 2, (Option.some Jvm.ClassFile.FieldType.int), 0, 0)
def mX0_figureAt : MD := (0, yX0_figureAt, cX0_figureAt, 2, (Option.some Jvm.ClassFile.FieldType.int), 0, 0)
def mX0_make : MD := (0, yX0_make, cX0_make, 4, (Option.none : Option Jvm.ClassFile.FieldType), 0, 0)
def mX0_bunchMove : MD := (0, yX0_bunchMove, cX0_bunchMove, 2, (Option.some Jvm.ClassFile.FieldType.int), 1, 21)
def mX0_bunchSeconds : MD := (0, yX0_bunchSeconds, cX0_bunchSeconds, 2, (Option.some Jvm.ClassFile.FieldType.int), 1, 21)
def mX0_threadSeconds : MD := (0, yX0_threadSeconds, cX0_threadSeconds, 2, (Option.some Jvm.ClassFile.FieldType.int), 1, 21)
def mX0_washDraw : MD := (0, yX0_washDraw, cX0_washDraw, 2, (Option.some Jvm.ClassFile.FieldType.int), 1, 21)
def mX0_seams : MD := (0, yX0_seams, cX0_seams, 3, (Option.some Jvm.ClassFile.FieldType.int), 1, 21)
def mX0_secondsAnewOf : MD := (0, yX0_secondsAnewOf, cX0_secondsAnewOf, 3, (Option.some Jvm.ClassFile.FieldType.int), 2, 42)
def mX0_secondsAnew : MD := (0, yX0_secondsAnew, cX0_secondsAnew, 4, (Option.some Jvm.ClassFile.FieldType.int), 3, 64)
def mX0_threadAnew : MD := (0, yX0_threadAnew, cX0_threadAnew, 1, (Option.none : Option Jvm.ClassFile.FieldType), 0, 0)
def mX0_depth : MD := (0, yX0_depth, cX0_depth, 2, (Option.some Jvm.ClassFile.FieldType.int), 0, 0)
def mX0_place : MD := (0, yX0_place, cX0_place, 3, (Option.none : Option Jvm.ClassFile.FieldType), 0, 0)
def mX0_isKnotted : MD := (0, yX0_isKnotted, cX0_isKnotted, 2, (Option.some Jvm.ClassFile.FieldType.boolean), 0, 0)
def mX0_knot : MD := (0, yX0_knot, cX0_knot, 3, (Option.none : Option Jvm.ClassFile.FieldType), 0, 0)
def mX0_isLost : MD := (0, yX0_isLost, cX0_isLost, 2, (Option.some Jvm.ClassFile.FieldType.boolean), 1, 21)
def mX0_lostEnds : MD := (0, yX0_lostEnds, cX0_lostEnds, 1, (Option.some Jvm.ClassFile.FieldType.int), 2, 42)
def mX0_inchAt : MD := (0, yX0_inchAt, cX0_inchAt, 4, (Option.some Jvm.ClassFile.FieldType.int), 1, 21)
def mX0_canDraw : MD := (0, yX0_canDraw, cX0_canDraw, 7, (Option.some Jvm.ClassFile.FieldType.int), 1, 21)
def mX0_draw : MD := (0, yX0_draw, cX0_draw, 5, (Option.some Jvm.ClassFile.FieldType.int), 2, 47)
def mX0_washOnce : MD := (0, yX0_washOnce, cX0_washOnce, 2, (Option.some Jvm.ClassFile.FieldType.int), 3, 71)
def mX0_washTimes : MD := (0, yX0_washTimes, cX0_washTimes, 3, (Option.none : Option Jvm.ClassFile.FieldType), 4, 92)
def mX1_isSign : MD := (7, yX1_isSign, cX1_isSign, 1, (Option.some Jvm.ClassFile.FieldType.boolean), 4, 91)
def mX1_ofSign : MD := (7, yX1_ofSign, cX1_ofSign, 1, (Option.some Jvm.ClassFile.FieldType.int), 4, 91)
def mX1_isSeam : MD := (7, yX1_isSeam, cX1_isSeam, 1, (Option.some Jvm.ClassFile.FieldType.boolean), 0, 0)
def mX1_bunchMove : MD := (7, yX1_bunchMove, cX1_bunchMove, 1, (Option.some Jvm.ClassFile.FieldType.int), 0, 0)
def mX1_bunchSeconds : MD := (7, yX1_bunchSeconds, cX1_bunchSeconds, 2, (Option.some Jvm.ClassFile.FieldType.int), 0, 0)
def mX1_threadSeconds : MD := (7, yX1_threadSeconds, cX1_threadSeconds, 2, (Option.some Jvm.ClassFile.FieldType.int), 0, 0)
def mX1_washDraw : MD := (7, yX1_washDraw, cX1_washDraw, 2, (Option.some Jvm.ClassFile.FieldType.int), 0, 0)
def mX2_isFull : MD := (1, yX2_isFull, cX2_isFull, 1, (Option.some Jvm.ClassFile.FieldType.boolean), 0, 0)
def mX2_add : MD := (1, yX2_add, cX2_add, 2, (Option.none : Option Jvm.ClassFile.FieldType), 0, 0)
def mX2_clear : MD := (1, yX2_clear, cX2_clear, 1, (Option.none : Option Jvm.ClassFile.FieldType), 0, 0)
def mX2_signAt : MD := (1, yX2_signAt, cX2_signAt, 2, (Option.some Jvm.ClassFile.FieldType.int), 0, 0)
def mX2_digit : MD := (1, yX2_digit, cX2_digit, 2, (Option.some Jvm.ClassFile.FieldType.int), 1, 21)
def mX2_number : MD := (1, yX2_number, cX2_number, 2, (Option.some Jvm.ClassFile.FieldType.int), 2, 42)
def mX2_signed : MD := (1, yX2_signed, cX2_signed, 2, (Option.some Jvm.ClassFile.FieldType.int), 3, 63)
def mX2_lengthBehind : MD := (1, yX2_lengthBehind, cX2_lengthBehind, 2, (Option.some Jvm.ClassFile.FieldType.int), 2, 40)
def mX2_firstUnfit : MD := (1, yX2_firstUnfit, cX2_firstUnfit, 4, (Option.some Jvm.ClassFile.FieldType.int), 6, 132)
def mX2_formBehind : MD := (1, yX2_formBehind, cX2_formBehind, 1, (Option.some (Jvm.ClassFile.FieldType.object "java/lang/String")), 0, 0)
def mX2_fits : MD := (1, yX2_fits, cX2_fits, 2, (Option.some Jvm.ClassFile.FieldType.boolean), 5, 111)
def mX3_goOn : MD := (2, yX3_goOn, cX3_goOn, 8, (Option.none : Option Jvm.ClassFile.FieldType), 4, 98)
def mX3_mend : MD := (2, yX3_mend, cX3_mend, 5, (Option.none : Option Jvm.ClassFile.FieldType), 3, 74)
def mX4_isFull : MD := (3, yX4_isFull, cX4_isFull, 1, (Option.some Jvm.ClassFile.FieldType.boolean), 0, 0)
def mX4_add : MD := (3, yX4_add, cX4_add, 2, (Option.none : Option Jvm.ClassFile.FieldType), 0, 0)
def mX4_clear : MD := (3, yX4_clear, cX4_clear, 1, (Option.none : Option Jvm.ClassFile.FieldType), 0, 0)
def mX4_firstNotSo : MD := (3, yX4_firstNotSo, cX4_firstNotSo, 4, (Option.some Jvm.ClassFile.FieldType.int), 4, 92)
def mX5_measure : MD := (4, yX5_measure, cX5_measure, 11, (Option.none : Option Jvm.ClassFile.FieldType), 2, 44)
def mX5_neverIsOut : MD := (4, yX5_neverIsOut, cX5_neverIsOut, 1, (Option.none : Option Jvm.ClassFile.FieldType), 0, 0)
def mX5_isAWay : MD := (4, yX5_isAWay, cX5_isAWay, 1, (Option.some Jvm.ClassFile.FieldType.boolean), 0, 0)
def mX5_rank : MD := (4, yX5_rank, cX5_rank, 1, (Option.some Jvm.ClassFile.FieldType.int), 1, 20)
def mX5_secondsOfAll : MD := (4, yX5_secondsOfAll, cX5_secondsOfAll, 4, (Option.some Jvm.ClassFile.FieldType.int), 3, 74)
def mX6_letter : MD := (5, yX6_letter, cX6_letter, 3, (Option.some Jvm.ClassFile.FieldType.int), 1, 22)
def mX6_hem : MD := (5, yX6_hem, cX6_hem, 3, (Option.some Jvm.ClassFile.FieldType.int), 7, 158)
def mX6_inch : MD := (5, yX6_inch, cX6_inch, 3, (Option.some Jvm.ClassFile.FieldType.int), 2, 42)
def mX6_turn : MD := (5, yX6_turn, cX6_turn, 6, (Option.some Jvm.ClassFile.FieldType.int), 1, 23)
def mX6_inches : MD := (5, yX6_inches, cX6_inches, 4, (Option.some Jvm.ClassFile.FieldType.int), 1, 22)
def mX6_end : MD := (5, yX6_end, cX6_end, 5, (Option.some Jvm.ClassFile.FieldType.int), 2, 43)
def mX6_tie : MD := (5, yX6_tie, cX6_tie, 2, (Option.some Jvm.ClassFile.FieldType.int), 1, 22)
def mX6_sew : MD := (5, yX6_sew, cX6_sew, 1, (Option.some Jvm.ClassFile.FieldType.int), 0, 0)
def mX6_set : MD := (5, yX6_set, cX6_set, 5, (Option.some Jvm.ClassFile.FieldType.int), 1, 22)
def mX6_pull : MD := (5, yX6_pull, cX6_pull, 4, (Option.some Jvm.ClassFile.FieldType.int), 3, 71)
def mX6_bunch : MD := (5, yX6_bunch, cX6_bunch, 3, (Option.some Jvm.ClassFile.FieldType.int), 2, 44)
def mX6_anew : MD := (5, yX6_anew, cX6_anew, 1, (Option.some Jvm.ClassFile.FieldType.int), 4, 87)
def mX6_wash : MD := (5, yX6_wash, cX6_wash, 3, (Option.some Jvm.ClassFile.FieldType.int), 5, 114)
def mX6_of : MD := (5, yX6_of, cX6_of, 4, (Option.some Jvm.ClassFile.FieldType.int), 2, 44)
def mX6_out : MD := (5, yX6_out, cX6_out, 3, (Option.some Jvm.ClassFile.FieldType.int), 3, 74)
def mX6_soonest : MD := (5, yX6_soonest, cX6_soonest, 3, (Option.some Jvm.ClassFile.FieldType.int), 4, 95)
def mX6_better : MD := (5, yX6_better, cX6_better, 4, (Option.some Jvm.ClassFile.FieldType.int), 4, 97)
def mX6_inIn : MD := (5, yX6_inIn, cX6_inIn, 4, (Option.some Jvm.ClassFile.FieldType.int), 5, 114)
def mX6_lost : MD := (5, yX6_lost, cX6_lost, 3, (Option.some Jvm.ClassFile.FieldType.int), 5, 113)
def mX6_still : MD := (5, yX6_still, cX6_still, 2, (Option.some Jvm.ClassFile.FieldType.int), 4, 92)
def mX6_keep : MD := (5, yX6_keep, cX6_keep, 5, (Option.some Jvm.ClassFile.FieldType.int), 4, 97)
def mX6_deep : MD := (5, yX6_deep, cX6_deep, 5, (Option.some Jvm.ClassFile.FieldType.int), 3, 74)
def mX6_stops : MD := (5, yX6_stops, cX6_stops, 8, (Option.some Jvm.ClassFile.FieldType.int), 6, 148)
def mX6_care : MD := (5, yX6_care, cX6_care, 3, (Option.some Jvm.ClassFile.FieldType.int), 5, 125)
def mX6_holdsUp : MD := (5, yX6_holdsUp, cX6_holdsUp, 6, (Option.some Jvm.ClassFile.FieldType.int), 4, 96)
def mX6_middle : MD := (5, yX6_middle, cX6_middle, 4, (Option.some Jvm.ClassFile.FieldType.int), 2, 47)
def mX6_cutOff : MD := (5, yX6_cutOff, cX6_cutOff, 1, (Option.some Jvm.ClassFile.FieldType.int), 1, 21)
def mX6_bestPin : MD := (5, yX6_bestPin, cX6_bestPin, 4, (Option.some Jvm.ClassFile.FieldType.int), 4, 87)
def mX6_worst : MD := (5, yX6_worst, cX6_worst, 3, (Option.some Jvm.ClassFile.FieldType.int), 3, 64)
def mX6_which : MD := (5, yX6_which, cX6_which, 3, (Option.some Jvm.ClassFile.FieldType.int), 6, 138)
def mX6_row : MD := (5, yX6_row, cX6_row, 3, (Option.some Jvm.ClassFile.FieldType.int), 1, 22)
def mX6_judge : MD := (5, yX6_judge, cX6_judge, 3, (Option.some Jvm.ClassFile.FieldType.int), 5, 115)
def mX6_lots : MD := (5, yX6_lots, cX6_lots, 9, (Option.some Jvm.ClassFile.FieldType.int), 5, 114)
def mX6_image : MD := (5, yX6_image, cX6_image, 1, (Option.some Jvm.ClassFile.FieldType.int), 2, 45)
def mX6_on : MD := (5, yX6_on, cX6_on, 1, (Option.some Jvm.ClassFile.FieldType.int), 2, 45)
def mX6_count : MD := (5, yX6_count, cX6_count, 2, (Option.some Jvm.ClassFile.FieldType.int), 3, 62)
def mX6_isEnd : MD := (5, yX6_isEnd, cX6_isEnd, 1, (Option.some Jvm.ClassFile.FieldType.boolean), 0, 0)
def mX6_outside : MD := (5, yX6_outside, cX6_outside, 3, (Option.some Jvm.ClassFile.FieldType.int), 0, 0)
def mX6_refuse : MD := (5, yX6_refuse, cX6_refuse, 3, (Option.some Jvm.ClassFile.FieldType.int), 0, 0)
def mX6_refuseAsTold : MD := (5, yX6_refuseAsTold, cX6_refuseAsTold, 2, (Option.some Jvm.ClassFile.FieldType.int), 1, 22)
def mX6_refusalsAt : MD := (5, yX6_refusalsAt, cX6_refusalsAt, 2, (Option.some Jvm.ClassFile.FieldType.int), 0, 0)
def mX6_statementsCome : MD := (5, yX6_statementsCome, cX6_statementsCome, 3, (Option.some Jvm.ClassFile.FieldType.int), 6, 136)
def mX6_isAsItMustBe : MD := (5, yX6_isAsItMustBe, cX6_isAsItMustBe, 2, (Option.some Jvm.ClassFile.FieldType.boolean), 4, 84)
def mX6_comes : MD := (5, yX6_comes, cX6_comes, 3, (Option.none : Option Jvm.ClassFile.FieldType), 5, 114)
def mX6_secondsIfLost : MD := (5, yX6_secondsIfLost, cX6_secondsIfLost, 2, (Option.some Jvm.ClassFile.FieldType.int), 3, 74)
def mX6_washesTillLost : MD := (5, yX6_washesTillLost, cX6_washesTillLost, 2, (Option.some Jvm.ClassFile.FieldType.int), 4, 92)
def mX6_secondsWithStop : MD := (5, yX6_secondsWithStop, cX6_secondsWithStop, 4, (Option.some Jvm.ClassFile.FieldType.int), 5, 125)
def mX6_rankWithCloth : MD := (5, yX6_rankWithCloth, cX6_rankWithCloth, 3, (Option.some Jvm.ClassFile.FieldType.int), 3, 74)
def mX6_kindsByRow : MD := (5, yX6_kindsByRow, cX6_kindsByRow, 4, (Option.some Jvm.ClassFile.FieldType.int), 5, 115)
def mX6_strengthsByRow : MD := (5, yX6_strengthsByRow, cX6_strengthsByRow, 3, (Option.some Jvm.ClassFile.FieldType.int), 5, 115)
def mX6_lotSeconds : MD := (5, yX6_lotSeconds, cX6_lotSeconds, 2, (Option.some Jvm.ClassFile.FieldType.int), 3, 74)
def mX7_isIn : MD := (6, yX7_isIn, cX7_isIn, 3, (Option.some Jvm.ClassFile.FieldType.boolean), 0, 0)
def mX7_least : MD := (6, yX7_least, cX7_least, 2, (Option.some Jvm.ClassFile.FieldType.int), 0, 0)
def mX7_most : MD := (6, yX7_most, cX7_most, 2, (Option.some Jvm.ClassFile.FieldType.int), 0, 0)
def mX7_lays : MD := (6, yX7_lays, cX7_lays, 3, (Option.none : Option Jvm.ClassFile.FieldType), 0, 0)
def mX7_no : MD := (6, yX7_no, cX7_no, 2, (Option.some Jvm.ClassFile.FieldType.int), 0, 0)
def mX7_noFar : MD := (6, yX7_noFar, cX7_noFar, 2, (Option.some Jvm.ClassFile.FieldType.int), 1, 21)
def mX7_isInch : MD := (6, yX7_isInch, cX7_isInch, 2, (Option.some Jvm.ClassFile.FieldType.boolean), 1, 22)
def mX7_isEnd : MD := (6, yX7_isEnd, cX7_isEnd, 1, (Option.some Jvm.ClassFile.FieldType.boolean), 1, 22)
def mX7_kindOf : MD := (6, yX7_kindOf, cX7_kindOf, 2, (Option.some Jvm.ClassFile.FieldType.int), 0, 0)
def mX7_figureOf : MD := (6, yX7_figureOf, cX7_figureOf, 2, (Option.some Jvm.ClassFile.FieldType.int), 0, 0)
def mX7_isSeam : MD := (6, yX7_isSeam, cX7_isSeam, 1, (Option.some Jvm.ClassFile.FieldType.boolean), 0, 0)
def mX7_movesAt : MD := (6, yX7_movesAt, cX7_movesAt, 3, (Option.some Jvm.ClassFile.FieldType.int), 1, 21)
def mX7_bunchAt : MD := (6, yX7_bunchAt, cX7_bunchAt, 3, (Option.some Jvm.ClassFile.FieldType.int), 1, 21)
def mX7_threadAt : MD := (6, yX7_threadAt, cX7_threadAt, 3, (Option.some Jvm.ClassFile.FieldType.int), 1, 21)
def mX7_drawsAt : MD := (6, yX7_drawsAt, cX7_drawsAt, 3, (Option.some Jvm.ClassFile.FieldType.int), 1, 21)
def mX7_inchOf : MD := (6, yX7_inchOf, cX7_inchOf, 3, (Option.some Jvm.ClassFile.FieldType.int), 1, 21)
def mX7_isLost : MD := (6, yX7_isLost, cX7_isLost, 2, (Option.some Jvm.ClassFile.FieldType.boolean), 0, 0)
def mX7_canPull : MD := (6, yX7_canPull, cX7_canPull, 5, (Option.some Jvm.ClassFile.FieldType.int), 1, 21)
def mX7_pulls : MD := (6, yX7_pulls, cX7_pulls, 4, (Option.some Jvm.ClassFile.FieldType.int), 2, 45)
def mX7_washes : MD := (6, yX7_washes, cX7_washes, 2, (Option.some Jvm.ClassFile.FieldType.int), 3, 68)
def mX7_washesOn : MD := (6, yX7_washesOn, cX7_washesOn, 4, (Option.none : Option Jvm.ClassFile.FieldType), 4, 89)
def mX7_bunches : MD := (6, yX7_bunches, cX7_bunches, 2, (Option.none : Option Jvm.ClassFile.FieldType), 2, 43)
def mX7_anewSeconds : MD := (6, yX7_anewSeconds, cX7_anewSeconds, 3, (Option.some Jvm.ClassFile.FieldType.int), 3, 64)
def mX7_threadBy : MD := (6, yX7_threadBy, cX7_threadBy, 2, (Option.some Jvm.ClassFile.FieldType.int), 2, 43)
def mX7_threads : MD := (6, yX7_threads, cX7_threads, 1, (Option.none : Option Jvm.ClassFile.FieldType), 0, 0)
def mX7_outSeconds : MD := (6, yX7_outSeconds, cX7_outSeconds, 6, (Option.some Jvm.ClassFile.FieldType.int), 3, 64)
def mX7_allSeconds : MD := (6, yX7_allSeconds, cX7_allSeconds, 4, (Option.some Jvm.ClassFile.FieldType.int), 4, 89)
def mX7_lostMany : MD := (6, yX7_lostMany, cX7_lostMany, 1, (Option.some Jvm.ClassFile.FieldType.int), 1, 21)
def mX7_letter : MD := (6, yX7_letter, cX7_letter, 2, (Option.some Jvm.ClassFile.FieldType.int), 1, 21)
def mX7_here : MD := (6, yX7_here, cX7_here, 1, (Option.some Jvm.ClassFile.FieldType.int), 0, 0)
def mX7_readsNumber : MD := (6, yX7_readsNumber, cX7_readsNumber, 4, (Option.some Jvm.ClassFile.FieldType.boolean), 1, 22)
def mX7_kindBy : MD := (6, yX7_kindBy, cX7_kindBy, 1, (Option.some Jvm.ClassFile.FieldType.int), 0, 0)
def mX7_readsKind : MD := (6, yX7_readsKind, cX7_readsKind, 1, (Option.some Jvm.ClassFile.FieldType.boolean), 1, 20)
def mX7_readsSigned : MD := (6, yX7_readsSigned, cX7_readsSigned, 3, (Option.some Jvm.ClassFile.FieldType.boolean), 2, 45)
def mX7_readsStatement : MD := (6, yX7_readsStatement, cX7_readsStatement, 3, (Option.some Jvm.ClassFile.FieldType.boolean), 3, 67)
def mX7_isDone : MD := (6, yX7_isDone, cX7_isDone, 4, (Option.some Jvm.ClassFile.FieldType.boolean), 5, 112)
def mX7_hem : MD := (6, yX7_hem, cX7_hem, 6, (Option.some Jvm.ClassFile.FieldType.int), 6, 135)
def mX7_inch : MD := (6, yX7_inch, cX7_inch, 3, (Option.some Jvm.ClassFile.FieldType.int), 2, 43)
def mX7_turn : MD := (6, yX7_turn, cX7_turn, 5, (Option.some Jvm.ClassFile.FieldType.int), 2, 43)
def mX7_inches : MD := (6, yX7_inches, cX7_inches, 3, (Option.some Jvm.ClassFile.FieldType.int), 1, 21)
def mX7_end : MD := (6, yX7_end, cX7_end, 4, (Option.some Jvm.ClassFile.FieldType.int), 2, 42)
def mX7_tie : MD := (6, yX7_tie, cX7_tie, 2, (Option.some Jvm.ClassFile.FieldType.int), 2, 42)
def mX7_sew : MD := (6, yX7_sew, cX7_sew, 1, (Option.some Jvm.ClassFile.FieldType.int), 0, 0)
def mX7_set : MD := (6, yX7_set, cX7_set, 4, (Option.some Jvm.ClassFile.FieldType.int), 1, 22)
def mX7_pull : MD := (6, yX7_pull, cX7_pull, 4, (Option.some Jvm.ClassFile.FieldType.int), 3, 68)
def mX7_bunch : MD := (6, yX7_bunch, cX7_bunch, 2, (Option.some Jvm.ClassFile.FieldType.int), 3, 64)
def mX7_anew : MD := (6, yX7_anew, cX7_anew, 1, (Option.some Jvm.ClassFile.FieldType.int), 4, 86)
def mX7_wash : MD := (6, yX7_wash, cX7_wash, 2, (Option.some Jvm.ClassFile.FieldType.int), 5, 112)
def mX7_of : MD := (6, yX7_of, cX7_of, 4, (Option.some Jvm.ClassFile.FieldType.int), 2, 43)
def mX7_costliest : MD := (6, yX7_costliest, cX7_costliest, 5, (Option.some Jvm.ClassFile.FieldType.int), 0, 0)
def mX7_out : MD := (6, yX7_out, cX7_out, 4, (Option.some Jvm.ClassFile.FieldType.int), 4, 89)
def mX7_soonest : MD := (6, yX7_soonest, cX7_soonest, 3, (Option.some Jvm.ClassFile.FieldType.int), 4, 89)
def mX7_better : MD := (6, yX7_better, cX7_better, 4, (Option.some Jvm.ClassFile.FieldType.int), 5, 112)
def mX7_wrongWashes : MD := (6, yX7_wrongWashes, cX7_wrongWashes, 1, (Option.some Jvm.ClassFile.FieldType.int), 0, 0)
def mX7_inIn : MD := (6, yX7_inIn, cX7_inIn, 4, (Option.some Jvm.ClassFile.FieldType.int), 5, 112)
def mX7_lost : MD := (6, yX7_lost, cX7_lost, 4, (Option.some Jvm.ClassFile.FieldType.int), 4, 89)
def mX7_still : MD := (6, yX7_still, cX7_still, 2, (Option.some Jvm.ClassFile.FieldType.int), 4, 89)
def mX7_wrongSeconds : MD := (6, yX7_wrongSeconds, cX7_wrongSeconds, 1, (Option.some Jvm.ClassFile.FieldType.int), 0, 0)
def mX7_keep : MD := (6, yX7_keep, cX7_keep, 6, (Option.some Jvm.ClassFile.FieldType.int), 5, 112)
def mX7_deep : MD := (6, yX7_deep, cX7_deep, 6, (Option.some Jvm.ClassFile.FieldType.int), 4, 89)
def mX7_mended : MD := (6, yX7_mended, cX7_mended, 7, (Option.some Jvm.ClassFile.FieldType.int), 4, 89)
def mX7_stops : MD := (6, yX7_stops, cX7_stops, 8, (Option.some Jvm.ClassFile.FieldType.int), 5, 115)
def mX7_care : MD := (6, yX7_care, cX7_care, 4, (Option.some Jvm.ClassFile.FieldType.int), 5, 115)
def mX7_holdsUp : MD := (6, yX7_holdsUp, cX7_holdsUp, 6, (Option.some Jvm.ClassFile.FieldType.int), 4, 89)
def mX7_middle : MD := (6, yX7_middle, cX7_middle, 3, (Option.some Jvm.ClassFile.FieldType.int), 2, 45)
def mX7_cutOff : MD := (6, yX7_cutOff, cX7_cutOff, 1, (Option.some Jvm.ClassFile.FieldType.int), 1, 21)
def mX7_bestPin : MD := (6, yX7_bestPin, cX7_bestPin, 4, (Option.some Jvm.ClassFile.FieldType.int), 4, 86)
def mX7_worst : MD := (6, yX7_worst, cX7_worst, 3, (Option.some Jvm.ClassFile.FieldType.int), 3, 64)
def mX7_row : MD := (6, yX7_row, cX7_row, 2, (Option.some Jvm.ClassFile.FieldType.int), 1, 21)
def mX7_firstWrong : MD := (6, yX7_firstWrong, cX7_firstWrong, 5, (Option.some Jvm.ClassFile.FieldType.int), 4, 89)
def mX7_which : MD := (6, yX7_which, cX7_which, 5, (Option.some Jvm.ClassFile.FieldType.int), 5, 113)
def mX7_judge : MD := (6, yX7_judge, cX7_judge, 3, (Option.some Jvm.ClassFile.FieldType.int), 5, 113)
def mX7_drawn : MD := (6, yX7_drawn, cX7_drawn, 2, (Option.some Jvm.ClassFile.FieldType.int), 0, 0)
def mX7_lots : MD := (6, yX7_lots, cX7_lots, 7, (Option.some Jvm.ClassFile.FieldType.int), 5, 112)
def mX7_image : MD := (6, yX7_image, cX7_image, 1, (Option.some Jvm.ClassFile.FieldType.int), 1, 22)
def mX7_on : MD := (6, yX7_on, cX7_on, 1, (Option.some Jvm.ClassFile.FieldType.int), 1, 22)
def mX7_count : MD := (6, yX7_count, cX7_count, 4, (Option.some Jvm.ClassFile.FieldType.int), 2, 41)
def mJ0_length_8abf5 : MD := (10, yJ0_length_8abf5, cJ0_length_8abf5, 1, (Option.some Jvm.ClassFile.FieldType.int), 1, 20)
def mJ0_isEmpty_aae02 : MD := (10, yJ0_isEmpty_aae02, cJ0_isEmpty_aae02, 1, (Option.some Jvm.ClassFile.FieldType.boolean), 0, 0)
def mJ0_charAt_5068e : MD := (10, yJ0_charAt_5068e, cJ0_charAt_5068e, 2, (Option.some Jvm.ClassFile.FieldType.char), 3, 64)
def mJ0_indexOf_0f7a4 : MD := (10, yJ0_indexOf_0f7a4, cJ0_indexOf_0f7a4, 2, (Option.some Jvm.ClassFile.FieldType.int), 3, 70)
def mJ0_indexOf_7cf53 : MD := (10, yJ0_indexOf_7cf53, cJ0_indexOf_7cf53, 3, (Option.some Jvm.ClassFile.FieldType.int), 2, 48)
def mJ0_coder_7d493 : MD := (10, yJ0_coder_7d493, cJ0_coder_7d493, 1, (Option.some Jvm.ClassFile.FieldType.byte), 0, 0)
def mJ0_isLatin1_aae02 : MD := (10, yJ0_isLatin1_aae02, cJ0_isLatin1_aae02, 1, (Option.some Jvm.ClassFile.FieldType.boolean), 0, 0)
def mJ0_checkIndex_df160 : MD := (10, yJ0_checkIndex_df160, cJ0_checkIndex_df160, 2, (Option.none : Option Jvm.ClassFile.FieldType), 1, 22)
def mJ1_charAt_3b067 : MD := (11, yJ1_charAt_3b067, cJ1_charAt_3b067, 2, (Option.some Jvm.ClassFile.FieldType.char), 2, 43)
def mJ1_canEncode_9a6ad : MD := (11, yJ1_canEncode_9a6ad, cJ1_canEncode_9a6ad, 1, (Option.some Jvm.ClassFile.FieldType.boolean), 0, 0)
def mJ1_indexOf_4cfef : MD := (11, yJ1_indexOf_4cfef, cJ1_indexOf_4cfef, 4, (Option.some Jvm.ClassFile.FieldType.int), 1, 25)
def mJ1_indexOfChar_4cfef : MD := (11, yJ1_indexOfChar_4cfef, cJ1_indexOfChar_4cfef, 6, (Option.some Jvm.ClassFile.FieldType.int), 0, 0)
def mJ3_checkIndex_8e157 : MD := (13, yJ3_checkIndex_8e157, cJ3_checkIndex_8e157, 3, (Option.some Jvm.ClassFile.FieldType.int), 0, 0)
def mL_law : MD := (30, yL_law, cL_law, 4, ret, 8, 180)
theorem wd_1 : (Jvm.Cond.initialized "GoneIntoItsTunnel") ∈ TBg := tb_1 1 (by decide +kernel) rfl
theorem wd_2 : (Jvm.Cond.initialized "GoneIntoItsTunnel$Hem") ∈ TBg := tb_1 2 (by decide +kernel) rfl
theorem wd_3 : (Jvm.Cond.initialized "GoneIntoItsTunnel$Way") ∈ TBg := tb_1 3 (by decide +kernel) rfl
theorem wd_4 : (Jvm.Cond.initialized "GoneIntoItsTunnel$Mending") ∈ TBg := tb_1 4 (by decide +kernel) rfl
theorem wd_5 : (Jvm.Cond.initialized "GoneIntoItsTunnel$Letters") ∈ TBg := tb_1 5 (by decide +kernel) rfl
theorem wd_6 : (Jvm.Cond.initialized "GoneIntoItsTunnel$Row") ∈ TBg := tb_1 6 (by decide +kernel) rfl
theorem wd_7 : (Jvm.Cond.initialized "GoneIntoItsTunnelModel") ∈ TBg := tb_1 7 (by decide +kernel) rfl
theorem wd_8 : (Jvm.Cond.initialized "java/lang/String") ∈ TBg := tb_1 8 (by decide +kernel) rfl
theorem wd_9 : (Jvm.Cond.initialized "java/lang/StringLatin1") ∈ TBg := tb_1 9 (by decide +kernel) rfl
theorem wd_10 : (Jvm.Cond.initialized "jdk/internal/util/Preconditions") ∈ TBg := tb_1 10 (by decide +kernel) rfl
theorem wd_12 : (Jvm.Cond.initialized "GoneIntoItsTunnel$Kind") ∈ TBg := tb_1 12 (by decide +kernel) rfl
theorem wd_13 : (Jvm.Cond.initialized "java/lang/Math") ∈ TBg := tb_1 13 (by decide +kernel) rfl
theorem wd_29 : (Jvm.Cond.fieldLink "GoneIntoItsTunnel$Hem" (9 : Nat) "GoneIntoItsTunnel$Hem" "kinds" "[I") ∈ TBg := tb_1 29 (by decide +kernel) rfl
theorem wd_30 : (Jvm.Cond.fieldLink "GoneIntoItsTunnel$Hem" (15 : Nat) "GoneIntoItsTunnel$Hem" "figures" "[I") ∈ TBg := tb_1 30 (by decide +kernel) rfl
theorem wd_31 : (Jvm.Cond.fieldLink "GoneIntoItsTunnel$Hem" (18 : Nat) "GoneIntoItsTunnel$Hem" "length" "I") ∈ TBg := tb_1 31 (by decide +kernel) rfl
theorem wd_33 : (Jvm.Cond.fieldLink "GoneIntoItsTunnel$Hem" (22 : Nat) "GoneIntoItsTunnel$Hem" "firstIn" "I") ∈ TBg := tb_1 33 (by decide +kernel) rfl
theorem wd_34 : (Jvm.Cond.fieldLink "GoneIntoItsTunnel$Hem" (25 : Nat) "GoneIntoItsTunnel$Hem" "secondIn" "I") ∈ TBg := tb_1 34 (by decide +kernel) rfl
theorem wd_35 : (Jvm.Cond.fieldLink "GoneIntoItsTunnel$Hem" (28 : Nat) "GoneIntoItsTunnel$Hem" "firstKnot" "Z") ∈ TBg := tb_1 35 (by decide +kernel) rfl
theorem wd_36 : (Jvm.Cond.fieldLink "GoneIntoItsTunnel$Hem" (32 : Nat) "GoneIntoItsTunnel$Hem" "secondKnot" "Z") ∈ TBg := tb_1 36 (by decide +kernel) rfl
theorem wd_37 : (Jvm.Cond.fieldLink "GoneIntoItsTunnel$Hem" (35 : Nat) "GoneIntoItsTunnel$Hem" "sewn" "Z") ∈ TBg := tb_1 37 (by decide +kernel) rfl
theorem wd_39 : (Jvm.Cond.fieldLink "GoneIntoItsTunnel$Hem" (38 : Nat) "GoneIntoItsTunnel$Hem" "pin" "I") ∈ TBg := tb_1 39 (by decide +kernel) rfl
theorem wd_42 : (Jvm.Cond.fieldLink "GoneIntoItsTunnel$Hem" (41 : Nat) "GoneIntoItsTunnel$Hem" "strength" "I") ∈ TBg := tb_1 42 (by decide +kernel) rfl
theorem wd_72 : (Jvm.Cond.fieldLink "GoneIntoItsTunnel$Way" (9 : Nat) "GoneIntoItsTunnel$Way" "bunches" "I") ∈ TBg := tb_1 72 (by decide +kernel) rfl
theorem wd_74 : (Jvm.Cond.fieldLink "GoneIntoItsTunnel$Way" (15 : Nat) "GoneIntoItsTunnel$Way" "seconds" "I") ∈ TBg := tb_1 74 (by decide +kernel) rfl
theorem wd_77 : (Jvm.Cond.fieldLink "GoneIntoItsTunnel$Way" (18 : Nat) "GoneIntoItsTunnel$Way" "dearest" "I") ∈ TBg := tb_1 77 (by decide +kernel) rfl
theorem wd_92 : (Jvm.Cond.fieldLink "GoneIntoItsTunnel$Mending" (7 : Nat) "GoneIntoItsTunnel$Mending" "times" "I") ∈ TBg := tb_1 92 (by decide +kernel) rfl
theorem wd_94 : (Jvm.Cond.fieldLink "GoneIntoItsTunnel$Mending" (13 : Nat) "GoneIntoItsTunnel$Mending" "seconds" "I") ∈ TBg := tb_1 94 (by decide +kernel) rfl
theorem wd_107 : (Jvm.Cond.fieldLink "GoneIntoItsTunnel$Letters" (11 : Nat) "GoneIntoItsTunnel$Letters" "signs" "[I") ∈ TBg := tb_1 107 (by decide +kernel) rfl
theorem wd_108 : (Jvm.Cond.fieldLink "GoneIntoItsTunnel$Letters" (15 : Nat) "GoneIntoItsTunnel$Letters" "size" "I") ∈ TBg := tb_1 108 (by decide +kernel) rfl
theorem wd_121 : (Jvm.Cond.fieldLink "GoneIntoItsTunnel$Row" (11 : Nat) "GoneIntoItsTunnel$Row" "numbers" "[I") ∈ TBg := tb_1 121 (by decide +kernel) rfl
theorem wd_122 : (Jvm.Cond.fieldLink "GoneIntoItsTunnel$Row" (15 : Nat) "GoneIntoItsTunnel$Row" "size" "I") ∈ TBg := tb_1 122 (by decide +kernel) rfl
theorem wd_129 : (Jvm.Cond.fieldLink "GoneIntoItsTunnel" (10 : Nat) "GoneIntoItsTunnel" "now" "LGoneIntoItsTunnel$Hem;") ∈ TBg := tb_1 129 (by decide +kernel) rfl
theorem wd_130 : (Jvm.Cond.fieldLink "GoneIntoItsTunnel" (16 : Nat) "GoneIntoItsTunnel" "mind" "LGoneIntoItsTunnel$Hem;") ∈ TBg := tb_1 130 (by decide +kernel) rfl
theorem wd_131 : (Jvm.Cond.fieldLink "GoneIntoItsTunnel" (19 : Nat) "GoneIntoItsTunnel" "taken" "LGoneIntoItsTunnel$Hem;") ∈ TBg := tb_1 131 (by decide +kernel) rfl
theorem wd_132 : (Jvm.Cond.fieldLink "GoneIntoItsTunnel" (22 : Nat) "GoneIntoItsTunnel" "anyTaken" "Z") ∈ TBg := tb_1 132 (by decide +kernel) rfl
theorem wd_133 : (Jvm.Cond.fieldLink "GoneIntoItsTunnel" (29 : Nat) "GoneIntoItsTunnel" "way" "LGoneIntoItsTunnel$Way;") ∈ TBg := tb_1 133 (by decide +kernel) rfl
theorem wd_134 : (Jvm.Cond.fieldLink "GoneIntoItsTunnel" (36 : Nat) "GoneIntoItsTunnel" "mending" "LGoneIntoItsTunnel$Mending;") ∈ TBg := tb_1 134 (by decide +kernel) rfl
theorem wd_135 : (Jvm.Cond.fieldLink "GoneIntoItsTunnel" (43 : Nat) "GoneIntoItsTunnel" "letters" "LGoneIntoItsTunnel$Letters;") ∈ TBg := tb_1 135 (by decide +kernel) rfl
theorem wd_136 : (Jvm.Cond.fieldLink "GoneIntoItsTunnel" (50 : Nat) "GoneIntoItsTunnel" "told" "LGoneIntoItsTunnel$Row;") ∈ TBg := tb_1 136 (by decide +kernel) rfl
theorem wd_137 : (Jvm.Cond.fieldLink "GoneIntoItsTunnel" (54 : Nat) "GoneIntoItsTunnel" "refusals" "[I") ∈ TBg := tb_1 137 (by decide +kernel) rfl
theorem wd_157 : (Jvm.Cond.methodLink "GoneIntoItsTunnelLaw" (13 : Nat) ({ cls := "GoneIntoItsTunnel", name := "letter", desc := "(I)I" } : Jvm.MethodName)) ∈ TBg := tb_1 157 (by decide +kernel) rfl
theorem wd_158 : (Jvm.Cond.instanceMethod ({ cls := "GoneIntoItsTunnel", name := "letter", desc := "(I)I" } : Jvm.MethodName)) ∈ TBg := tb_1 158 (by decide +kernel) rfl
theorem wd_159 : (Jvm.Cond.selects "GoneIntoItsTunnel" ({ cls := "GoneIntoItsTunnel", name := "letter", desc := "(I)I" } : Jvm.MethodName) ({ cls := "GoneIntoItsTunnel", name := "letter", desc := "(I)I" } : Jvm.MethodName)) ∈ TBg := tb_1 159 (by decide +kernel) rfl
theorem wd_160 : (Jvm.Cond.code ({ cls := "GoneIntoItsTunnel", name := "letter", desc := "(I)I" } : Jvm.MethodName) prog_1_method_2_code (3 : Nat) (Option.some Jvm.ClassFile.FieldType.int)) ∈ TBg := tb_1 160 (by decide +kernel) rfl
theorem wd_161 : (Jvm.Cond.methodLink "GoneIntoItsTunnel" (58 : Nat) ({ cls := "GoneIntoItsTunnel", name := "outside", desc := "(III)I" } : Jvm.MethodName)) ∈ TBg := tb_1 161 (by decide +kernel) rfl
theorem wd_162 : (Jvm.Cond.static ({ cls := "GoneIntoItsTunnel", name := "outside", desc := "(III)I" } : Jvm.MethodName)) ∈ TBg := tb_1 162 (by decide +kernel) rfl
theorem wd_163 : (Jvm.Cond.code ({ cls := "GoneIntoItsTunnel", name := "outside", desc := "(III)I" } : Jvm.MethodName) prog_1_method_39_code (3 : Nat) (Option.some Jvm.ClassFile.FieldType.int)) ∈ TBg := tb_1 163 (by decide +kernel) rfl
theorem wd_164 : (Jvm.Cond.methodLink "GoneIntoItsTunnel" (62 : Nat) ({ cls := "GoneIntoItsTunnel", name := "refuse", desc := "(I)I" } : Jvm.MethodName)) ∈ TBg := tb_1 164 (by decide +kernel) rfl
theorem wd_166 : (Jvm.Cond.instanceMethod ({ cls := "GoneIntoItsTunnel", name := "refuse", desc := "(I)I" } : Jvm.MethodName)) ∈ TBg := tb_1 166 (by decide +kernel) rfl
theorem wd_167 : (Jvm.Cond.code ({ cls := "GoneIntoItsTunnel", name := "refuse", desc := "(I)I" } : Jvm.MethodName) prog_1_method_40_code (3 : Nat) (Option.some Jvm.ClassFile.FieldType.int)) ∈ TBg := tb_1 167 (by decide +kernel) rfl
theorem wd_168 : (Jvm.Cond.methodLink "GoneIntoItsTunnel" (66 : Nat) ({ cls := "GoneIntoItsTunnel$Letters", name := "isFull", desc := "()Z" } : Jvm.MethodName)) ∈ TBg := tb_1 168 (by decide +kernel) rfl
theorem wd_169 : (Jvm.Cond.instanceMethod ({ cls := "GoneIntoItsTunnel$Letters", name := "isFull", desc := "()Z" } : Jvm.MethodName)) ∈ TBg := tb_1 169 (by decide +kernel) rfl
theorem wd_170 : (Jvm.Cond.selects "GoneIntoItsTunnel$Letters" ({ cls := "GoneIntoItsTunnel$Letters", name := "isFull", desc := "()Z" } : Jvm.MethodName) ({ cls := "GoneIntoItsTunnel$Letters", name := "isFull", desc := "()Z" } : Jvm.MethodName)) ∈ TBg := tb_1 170 (by decide +kernel) rfl
theorem wd_171 : (Jvm.Cond.code ({ cls := "GoneIntoItsTunnel$Letters", name := "isFull", desc := "()Z" } : Jvm.MethodName) prog_4_method_2_code (1 : Nat) (Option.some Jvm.ClassFile.FieldType.boolean)) ∈ TBg := tb_1 171 (by decide +kernel) rfl
theorem wd_172 : (Jvm.Cond.methodLink "GoneIntoItsTunnel" (70 : Nat) ({ cls := "GoneIntoItsTunnel$Letters", name := "add", desc := "(I)V" } : Jvm.MethodName)) ∈ TBg := tb_1 172 (by decide +kernel) rfl
theorem wd_173 : (Jvm.Cond.instanceMethod ({ cls := "GoneIntoItsTunnel$Letters", name := "add", desc := "(I)V" } : Jvm.MethodName)) ∈ TBg := tb_1 173 (by decide +kernel) rfl
theorem wd_174 : (Jvm.Cond.selects "GoneIntoItsTunnel$Letters" ({ cls := "GoneIntoItsTunnel$Letters", name := "add", desc := "(I)V" } : Jvm.MethodName) ({ cls := "GoneIntoItsTunnel$Letters", name := "add", desc := "(I)V" } : Jvm.MethodName)) ∈ TBg := tb_1 174 (by decide +kernel) rfl
theorem wd_175 : (Jvm.Cond.code ({ cls := "GoneIntoItsTunnel$Letters", name := "add", desc := "(I)V" } : Jvm.MethodName) prog_4_method_3_code (2 : Nat) (Option.none : Option Jvm.ClassFile.FieldType)) ∈ TBg := tb_1 175 (by decide +kernel) rfl
theorem wd_176 : (Jvm.Cond.methodLink "GoneIntoItsTunnelLaw" (18 : Nat) ({ cls := "GoneIntoItsTunnel", name := "hem", desc := "()I" } : Jvm.MethodName)) ∈ TBg := tb_1 176 (by decide +kernel) rfl
theorem wd_177 : (Jvm.Cond.instanceMethod ({ cls := "GoneIntoItsTunnel", name := "hem", desc := "()I" } : Jvm.MethodName)) ∈ TBg := tb_1 177 (by decide +kernel) rfl
theorem wd_178 : (Jvm.Cond.selects "GoneIntoItsTunnel" ({ cls := "GoneIntoItsTunnel", name := "hem", desc := "()I" } : Jvm.MethodName) ({ cls := "GoneIntoItsTunnel", name := "hem", desc := "()I" } : Jvm.MethodName)) ∈ TBg := tb_1 178 (by decide +kernel) rfl
theorem wd_179 : (Jvm.Cond.code ({ cls := "GoneIntoItsTunnel", name := "hem", desc := "()I" } : Jvm.MethodName) prog_1_method_3_code (3 : Nat) (Option.some Jvm.ClassFile.FieldType.int)) ∈ TBg := tb_1 179 (by decide +kernel) rfl
theorem wd_180 : (Jvm.Cond.methodLink "GoneIntoItsTunnel" (78 : Nat) ({ cls := "GoneIntoItsTunnel$Letters", name := "firstUnfit", desc := "()I" } : Jvm.MethodName)) ∈ TBg := tb_1 180 (by decide +kernel) rfl
theorem wd_181 : (Jvm.Cond.instanceMethod ({ cls := "GoneIntoItsTunnel$Letters", name := "firstUnfit", desc := "()I" } : Jvm.MethodName)) ∈ TBg := tb_1 181 (by decide +kernel) rfl
theorem wd_182 : (Jvm.Cond.selects "GoneIntoItsTunnel$Letters" ({ cls := "GoneIntoItsTunnel$Letters", name := "firstUnfit", desc := "()I" } : Jvm.MethodName) ({ cls := "GoneIntoItsTunnel$Letters", name := "firstUnfit", desc := "()I" } : Jvm.MethodName)) ∈ TBg := tb_1 182 (by decide +kernel) rfl
theorem wd_183 : (Jvm.Cond.code ({ cls := "GoneIntoItsTunnel$Letters", name := "firstUnfit", desc := "()I" } : Jvm.MethodName) prog_4_method_10_code (4 : Nat) (Option.some Jvm.ClassFile.FieldType.int)) ∈ TBg := tb_1 183 (by decide +kernel) rfl
theorem wd_184 : (Jvm.Cond.methodLink "GoneIntoItsTunnel$Letters" (19 : Nat) ({ cls := "GoneIntoItsTunnel$Letters", name := "signAt", desc := "(I)I" } : Jvm.MethodName)) ∈ TBg := tb_1 184 (by decide +kernel) rfl
theorem wd_185 : (Jvm.Cond.instanceMethod ({ cls := "GoneIntoItsTunnel$Letters", name := "signAt", desc := "(I)I" } : Jvm.MethodName)) ∈ TBg := tb_1 185 (by decide +kernel) rfl
theorem wd_186 : (Jvm.Cond.selects "GoneIntoItsTunnel$Letters" ({ cls := "GoneIntoItsTunnel$Letters", name := "signAt", desc := "(I)I" } : Jvm.MethodName) ({ cls := "GoneIntoItsTunnel$Letters", name := "signAt", desc := "(I)I" } : Jvm.MethodName)) ∈ TBg := tb_1 186 (by decide +kernel) rfl
theorem wd_187 : (Jvm.Cond.code ({ cls := "GoneIntoItsTunnel$Letters", name := "signAt", desc := "(I)I" } : Jvm.MethodName) prog_4_method_5_code (2 : Nat) (Option.some Jvm.ClassFile.FieldType.int)) ∈ TBg := tb_1 187 (by decide +kernel) rfl
theorem wd_188 : (Jvm.Cond.methodLink "GoneIntoItsTunnel$Letters" (29 : Nat) ({ cls := "GoneIntoItsTunnel$Letters", name := "formBehind", desc := "(I)Ljava/lang/String;" } : Jvm.MethodName)) ∈ TBg := tb_1 188 (by decide +kernel) rfl
theorem wd_189 : (Jvm.Cond.static ({ cls := "GoneIntoItsTunnel$Letters", name := "formBehind", desc := "(I)Ljava/lang/String;" } : Jvm.MethodName)) ∈ TBg := tb_1 189 (by decide +kernel) rfl
theorem wd_190 : (Jvm.Cond.code ({ cls := "GoneIntoItsTunnel$Letters", name := "formBehind", desc := "(I)Ljava/lang/String;" } : Jvm.MethodName) prog_4_method_11_code (1 : Nat) (Option.some (Jvm.ClassFile.FieldType.object "java/lang/String"))) ∈ TBg := tb_1 190 (by decide +kernel) rfl
theorem wd_197 : (Jvm.Cond.methodLink "GoneIntoItsTunnel$Letters" (39 : Nat) ({ cls := "java/lang/String", name := "isEmpty", desc := "()Z" } : Jvm.MethodName)) ∈ TBg := tb_1 197 (by decide +kernel) rfl
theorem wd_198 : (Jvm.Cond.instanceMethod ({ cls := "java/lang/String", name := "isEmpty", desc := "()Z" } : Jvm.MethodName)) ∈ TBg := tb_1 198 (by decide +kernel) rfl
theorem wd_199 : (Jvm.Cond.selects "java/lang/String" ({ cls := "java/lang/String", name := "isEmpty", desc := "()Z" } : Jvm.MethodName) ({ cls := "java/lang/String", name := "isEmpty", desc := "()Z" } : Jvm.MethodName)) ∈ TBg := tb_1 199 (by decide +kernel) rfl
theorem wd_200 : (Jvm.Cond.code ({ cls := "java/lang/String", name := "isEmpty", desc := "()Z" } : Jvm.MethodName) prog_12_method_55_code (1 : Nat) (Option.some Jvm.ClassFile.FieldType.boolean)) ∈ TBg := tb_1 200 (by decide +kernel) rfl
theorem wd_201 : (Jvm.Cond.methodLink "GoneIntoItsTunnel$Letters" (33 : Nat) ({ cls := "java/lang/String", name := "length", desc := "()I" } : Jvm.MethodName)) ∈ TBg := tb_1 201 (by decide +kernel) rfl
theorem wd_202 : (Jvm.Cond.instanceMethod ({ cls := "java/lang/String", name := "length", desc := "()I" } : Jvm.MethodName)) ∈ TBg := tb_1 202 (by decide +kernel) rfl
theorem wd_203 : (Jvm.Cond.selects "java/lang/String" ({ cls := "java/lang/String", name := "length", desc := "()I" } : Jvm.MethodName) ({ cls := "java/lang/String", name := "length", desc := "()I" } : Jvm.MethodName)) ∈ TBg := tb_1 203 (by decide +kernel) rfl
theorem wd_204 : (Jvm.Cond.code ({ cls := "java/lang/String", name := "length", desc := "()I" } : Jvm.MethodName) prog_12_method_54_code (1 : Nat) (Option.some Jvm.ClassFile.FieldType.int)) ∈ TBg := tb_1 204 (by decide +kernel) rfl
theorem wd_205 : (Jvm.Cond.methodLink "java/lang/String" (335 : Nat) ({ cls := "java/lang/String", name := "coder", desc := "()B" } : Jvm.MethodName)) ∈ TBg := tb_1 205 (by decide +kernel) rfl
theorem wd_206 : (Jvm.Cond.instanceMethod ({ cls := "java/lang/String", name := "coder", desc := "()B" } : Jvm.MethodName)) ∈ TBg := tb_1 206 (by decide +kernel) rfl
theorem wd_207 : (Jvm.Cond.selects "java/lang/String" ({ cls := "java/lang/String", name := "coder", desc := "()B" } : Jvm.MethodName) ({ cls := "java/lang/String", name := "coder", desc := "()B" } : Jvm.MethodName)) ∈ TBg := tb_1 207 (by decide +kernel) rfl
theorem wd_208 : (Jvm.Cond.code ({ cls := "java/lang/String", name := "coder", desc := "()B" } : Jvm.MethodName) prog_12_method_152_code (1 : Nat) (Option.some Jvm.ClassFile.FieldType.byte)) ∈ TBg := tb_1 208 (by decide +kernel) rfl
theorem wd_209 : (Jvm.Cond.fieldLink "java/lang/String" (38 : Nat) "java/lang/String" "COMPACT_STRINGS" "Z") ∈ TBg := tb_1 209 (by decide +kernel) rfl
theorem wd_211 : (Jvm.Cond.methodLink "GoneIntoItsTunnel$Letters" (43 : Nat) ({ cls := "java/lang/String", name := "charAt", desc := "(I)C" } : Jvm.MethodName)) ∈ TBg := tb_1 211 (by decide +kernel) rfl
theorem wd_212 : (Jvm.Cond.instanceMethod ({ cls := "java/lang/String", name := "charAt", desc := "(I)C" } : Jvm.MethodName)) ∈ TBg := tb_1 212 (by decide +kernel) rfl
theorem wd_213 : (Jvm.Cond.selects "java/lang/String" ({ cls := "java/lang/String", name := "charAt", desc := "(I)C" } : Jvm.MethodName) ({ cls := "java/lang/String", name := "charAt", desc := "(I)C" } : Jvm.MethodName)) ∈ TBg := tb_1 213 (by decide +kernel) rfl
theorem wd_214 : (Jvm.Cond.code ({ cls := "java/lang/String", name := "charAt", desc := "(I)C" } : Jvm.MethodName) prog_12_method_56_code (2 : Nat) (Option.some Jvm.ClassFile.FieldType.char)) ∈ TBg := tb_1 214 (by decide +kernel) rfl
theorem wd_215 : (Jvm.Cond.methodLink "java/lang/String" (492 : Nat) ({ cls := "java/lang/String", name := "isLatin1", desc := "()Z" } : Jvm.MethodName)) ∈ TBg := tb_1 215 (by decide +kernel) rfl
theorem wd_216 : (Jvm.Cond.instanceMethod ({ cls := "java/lang/String", name := "isLatin1", desc := "()Z" } : Jvm.MethodName)) ∈ TBg := tb_1 216 (by decide +kernel) rfl
theorem wd_217 : (Jvm.Cond.selects "java/lang/String" ({ cls := "java/lang/String", name := "isLatin1", desc := "()Z" } : Jvm.MethodName) ({ cls := "java/lang/String", name := "isLatin1", desc := "()Z" } : Jvm.MethodName)) ∈ TBg := tb_1 217 (by decide +kernel) rfl
theorem wd_218 : (Jvm.Cond.code ({ cls := "java/lang/String", name := "isLatin1", desc := "()Z" } : Jvm.MethodName) prog_12_method_154_code (1 : Nat) (Option.some Jvm.ClassFile.FieldType.boolean)) ∈ TBg := tb_1 218 (by decide +kernel) rfl
theorem wd_219 : (Jvm.Cond.methodLink "java/lang/String" (495 : Nat) ({ cls := "java/lang/StringLatin1", name := "charAt", desc := "([BI)C" } : Jvm.MethodName)) ∈ TBg := tb_1 219 (by decide +kernel) rfl
theorem wd_220 : (Jvm.Cond.static ({ cls := "java/lang/StringLatin1", name := "charAt", desc := "([BI)C" } : Jvm.MethodName)) ∈ TBg := tb_1 220 (by decide +kernel) rfl
theorem wd_221 : (Jvm.Cond.code ({ cls := "java/lang/StringLatin1", name := "charAt", desc := "([BI)C" } : Jvm.MethodName) prog_13_method_2_code (2 : Nat) (Option.some Jvm.ClassFile.FieldType.char)) ∈ TBg := tb_1 221 (by decide +kernel) rfl
theorem wd_222 : (Jvm.Cond.methodLink "java/lang/StringLatin1" (9 : Nat) ({ cls := "java/lang/String", name := "checkIndex", desc := "(II)V" } : Jvm.MethodName)) ∈ TBg := tb_1 222 (by decide +kernel) rfl
theorem wd_223 : (Jvm.Cond.static ({ cls := "java/lang/String", name := "checkIndex", desc := "(II)V" } : Jvm.MethodName)) ∈ TBg := tb_1 223 (by decide +kernel) rfl
theorem wd_224 : (Jvm.Cond.code ({ cls := "java/lang/String", name := "checkIndex", desc := "(II)V" } : Jvm.MethodName) prog_12_method_155_code (2 : Nat) (Option.none : Option Jvm.ClassFile.FieldType)) ∈ TBg := tb_1 224 (by decide +kernel) rfl
theorem wd_225 : (Jvm.Cond.fieldLink "java/lang/String" (1053 : Nat) "jdk/internal/util/Preconditions" "SIOOBE_FORMATTER" "Ljava/util/function/BiFunction;") ∈ TBg := tb_1 225 (by decide +kernel) rfl
theorem wd_227 : (Jvm.Cond.methodLink "java/lang/String" (1059 : Nat) ({ cls := "jdk/internal/util/Preconditions", name := "checkIndex", desc := "(IILjava/util/function/BiFunction;)I" } : Jvm.MethodName)) ∈ TBg := tb_1 227 (by decide +kernel) rfl
theorem wd_228 : (Jvm.Cond.static ({ cls := "jdk/internal/util/Preconditions", name := "checkIndex", desc := "(IILjava/util/function/BiFunction;)I" } : Jvm.MethodName)) ∈ TBg := tb_1 228 (by decide +kernel) rfl
theorem wd_229 : (Jvm.Cond.code ({ cls := "jdk/internal/util/Preconditions", name := "checkIndex", desc := "(IILjava/util/function/BiFunction;)I" } : Jvm.MethodName) prog_15_method_11_code (3 : Nat) (Option.some Jvm.ClassFile.FieldType.int)) ∈ TBg := tb_1 229 (by decide +kernel) rfl
theorem wd_249 : (Jvm.Cond.methodLink "GoneIntoItsTunnel$Letters" (47 : Nat) ({ cls := "GoneIntoItsTunnel$Letters", name := "fits", desc := "(II)Z" } : Jvm.MethodName)) ∈ TBg := tb_2 9 (by decide +kernel) rfl
theorem wd_250 : (Jvm.Cond.static ({ cls := "GoneIntoItsTunnel$Letters", name := "fits", desc := "(II)Z" } : Jvm.MethodName)) ∈ TBg := tb_2 10 (by decide +kernel) rfl
theorem wd_251 : (Jvm.Cond.code ({ cls := "GoneIntoItsTunnel$Letters", name := "fits", desc := "(II)Z" } : Jvm.MethodName) prog_4_method_12_code (2 : Nat) (Option.some Jvm.ClassFile.FieldType.boolean)) ∈ TBg := tb_2 11 (by decide +kernel) rfl
theorem wd_252 : (Jvm.Cond.methodLink "GoneIntoItsTunnel$Letters" (63 : Nat) ({ cls := "GoneIntoItsTunnel$Kind", name := "isSign", desc := "(I)Z" } : Jvm.MethodName)) ∈ TBg := tb_2 12 (by decide +kernel) rfl
theorem wd_253 : (Jvm.Cond.static ({ cls := "GoneIntoItsTunnel$Kind", name := "isSign", desc := "(I)Z" } : Jvm.MethodName)) ∈ TBg := tb_2 13 (by decide +kernel) rfl
theorem wd_254 : (Jvm.Cond.code ({ cls := "GoneIntoItsTunnel$Kind", name := "isSign", desc := "(I)Z" } : Jvm.MethodName) prog_3_method_2_code (1 : Nat) (Option.some Jvm.ClassFile.FieldType.boolean)) ∈ TBg := tb_2 14 (by decide +kernel) rfl
theorem wd_256 : (Jvm.Cond.methodLink "GoneIntoItsTunnel$Kind" (11 : Nat) ({ cls := "java/lang/String", name := "indexOf", desc := "(I)I" } : Jvm.MethodName)) ∈ TBg := tb_2 16 (by decide +kernel) rfl
theorem wd_257 : (Jvm.Cond.instanceMethod ({ cls := "java/lang/String", name := "indexOf", desc := "(I)I" } : Jvm.MethodName)) ∈ TBg := tb_2 17 (by decide +kernel) rfl
theorem wd_258 : (Jvm.Cond.selects "java/lang/String" ({ cls := "java/lang/String", name := "indexOf", desc := "(I)I" } : Jvm.MethodName) ({ cls := "java/lang/String", name := "indexOf", desc := "(I)I" } : Jvm.MethodName)) ∈ TBg := tb_2 18 (by decide +kernel) rfl
theorem wd_259 : (Jvm.Cond.code ({ cls := "java/lang/String", name := "indexOf", desc := "(I)I" } : Jvm.MethodName) prog_12_method_79_code (2 : Nat) (Option.some Jvm.ClassFile.FieldType.int)) ∈ TBg := tb_2 19 (by decide +kernel) rfl
theorem wd_260 : (Jvm.Cond.methodLink "java/lang/String" (633 : Nat) ({ cls := "java/lang/String", name := "indexOf", desc := "(II)I" } : Jvm.MethodName)) ∈ TBg := tb_2 20 (by decide +kernel) rfl
theorem wd_261 : (Jvm.Cond.instanceMethod ({ cls := "java/lang/String", name := "indexOf", desc := "(II)I" } : Jvm.MethodName)) ∈ TBg := tb_2 21 (by decide +kernel) rfl
theorem wd_262 : (Jvm.Cond.selects "java/lang/String" ({ cls := "java/lang/String", name := "indexOf", desc := "(II)I" } : Jvm.MethodName) ({ cls := "java/lang/String", name := "indexOf", desc := "(II)I" } : Jvm.MethodName)) ∈ TBg := tb_2 22 (by decide +kernel) rfl
theorem wd_263 : (Jvm.Cond.code ({ cls := "java/lang/String", name := "indexOf", desc := "(II)I" } : Jvm.MethodName) prog_12_method_80_code (3 : Nat) (Option.some Jvm.ClassFile.FieldType.int)) ∈ TBg := tb_2 23 (by decide +kernel) rfl
theorem wd_264 : (Jvm.Cond.methodLink "java/lang/String" (505 : Nat) ({ cls := "java/lang/String", name := "length", desc := "()I" } : Jvm.MethodName)) ∈ TBg := tb_2 24 (by decide +kernel) rfl
theorem wd_265 : (Jvm.Cond.methodLink "java/lang/String" (637 : Nat) ({ cls := "java/lang/StringLatin1", name := "indexOf", desc := "([BIII)I" } : Jvm.MethodName)) ∈ TBg := tb_2 25 (by decide +kernel) rfl
theorem wd_266 : (Jvm.Cond.static ({ cls := "java/lang/StringLatin1", name := "indexOf", desc := "([BIII)I" } : Jvm.MethodName)) ∈ TBg := tb_2 26 (by decide +kernel) rfl
theorem wd_267 : (Jvm.Cond.code ({ cls := "java/lang/StringLatin1", name := "indexOf", desc := "([BIII)I" } : Jvm.MethodName) prog_13_method_22_code (4 : Nat) (Option.some Jvm.ClassFile.FieldType.int)) ∈ TBg := tb_2 27 (by decide +kernel) rfl
theorem wd_268 : (Jvm.Cond.methodLink "java/lang/StringLatin1" (88 : Nat) ({ cls := "java/lang/StringLatin1", name := "canEncode", desc := "(I)Z" } : Jvm.MethodName)) ∈ TBg := tb_2 28 (by decide +kernel) rfl
theorem wd_269 : (Jvm.Cond.static ({ cls := "java/lang/StringLatin1", name := "canEncode", desc := "(I)Z" } : Jvm.MethodName)) ∈ TBg := tb_2 29 (by decide +kernel) rfl
theorem wd_270 : (Jvm.Cond.code ({ cls := "java/lang/StringLatin1", name := "canEncode", desc := "(I)Z" } : Jvm.MethodName) prog_13_method_4_code (1 : Nat) (Option.some Jvm.ClassFile.FieldType.boolean)) ∈ TBg := tb_2 30 (by decide +kernel) rfl
theorem wd_271 : (Jvm.Cond.methodLink "java/lang/StringLatin1" (92 : Nat) ({ cls := "java/lang/Math", name := "max", desc := "(II)I" } : Jvm.MethodName)) ∈ TBg := tb_2 31 (by decide +kernel) rfl
theorem wd_272 : (Jvm.Cond.static ({ cls := "java/lang/Math", name := "max", desc := "(II)I" } : Jvm.MethodName)) ∈ TBg := tb_2 32 (by decide +kernel) rfl
theorem wd_274 : (Jvm.Cond.methodLink "java/lang/StringLatin1" (38 : Nat) ({ cls := "java/lang/Math", name := "min", desc := "(II)I" } : Jvm.MethodName)) ∈ TBg := tb_2 34 (by decide +kernel) rfl
theorem wd_275 : (Jvm.Cond.static ({ cls := "java/lang/Math", name := "min", desc := "(II)I" } : Jvm.MethodName)) ∈ TBg := tb_2 35 (by decide +kernel) rfl
theorem wd_277 : (Jvm.Cond.methodLink "java/lang/StringLatin1" (95 : Nat) ({ cls := "java/lang/StringLatin1", name := "indexOfChar", desc := "([BIII)I" } : Jvm.MethodName)) ∈ TBg := tb_2 37 (by decide +kernel) rfl
theorem wd_278 : (Jvm.Cond.static ({ cls := "java/lang/StringLatin1", name := "indexOfChar", desc := "([BIII)I" } : Jvm.MethodName)) ∈ TBg := tb_2 38 (by decide +kernel) rfl
theorem wd_279 : (Jvm.Cond.code ({ cls := "java/lang/StringLatin1", name := "indexOfChar", desc := "([BIII)I" } : Jvm.MethodName) prog_13_method_23_code (6 : Nat) (Option.some Jvm.ClassFile.FieldType.int)) ∈ TBg := tb_2 39 (by decide +kernel) rfl
theorem wd_315 : (Jvm.Cond.methodLink "GoneIntoItsTunnel" (82 : Nat) ({ cls := "GoneIntoItsTunnel", name := "statementsCome", desc := "()I" } : Jvm.MethodName)) ∈ TBg := tb_2 75 (by decide +kernel) rfl
theorem wd_317 : (Jvm.Cond.instanceMethod ({ cls := "GoneIntoItsTunnel", name := "statementsCome", desc := "()I" } : Jvm.MethodName)) ∈ TBg := tb_2 77 (by decide +kernel) rfl
theorem wd_318 : (Jvm.Cond.code ({ cls := "GoneIntoItsTunnel", name := "statementsCome", desc := "()I" } : Jvm.MethodName) prog_1_method_43_code (3 : Nat) (Option.some Jvm.ClassFile.FieldType.int)) ∈ TBg := tb_2 78 (by decide +kernel) rfl
theorem wd_319 : (Jvm.Cond.methodLink "GoneIntoItsTunnel" (195 : Nat) ({ cls := "GoneIntoItsTunnel$Hem", name := "copyFrom", desc := "(LGoneIntoItsTunnel$Hem;)V" } : Jvm.MethodName)) ∈ TBg := tb_2 79 (by decide +kernel) rfl
theorem wd_320 : (Jvm.Cond.instanceMethod ({ cls := "GoneIntoItsTunnel$Hem", name := "copyFrom", desc := "(LGoneIntoItsTunnel$Hem;)V" } : Jvm.MethodName)) ∈ TBg := tb_2 80 (by decide +kernel) rfl
theorem wd_321 : (Jvm.Cond.selects "GoneIntoItsTunnel$Hem" ({ cls := "GoneIntoItsTunnel$Hem", name := "copyFrom", desc := "(LGoneIntoItsTunnel$Hem;)V" } : Jvm.MethodName) ({ cls := "GoneIntoItsTunnel$Hem", name := "copyFrom", desc := "(LGoneIntoItsTunnel$Hem;)V" } : Jvm.MethodName)) ∈ TBg := tb_2 81 (by decide +kernel) rfl
theorem wd_322 : (Jvm.Cond.code ({ cls := "GoneIntoItsTunnel$Hem", name := "copyFrom", desc := "(LGoneIntoItsTunnel$Hem;)V" } : Jvm.MethodName) prog_2_method_2_code (3 : Nat) (Option.none : Option Jvm.ClassFile.FieldType)) ∈ TBg := tb_2 82 (by decide +kernel) rfl
theorem wd_323 : (Jvm.Cond.methodLink "GoneIntoItsTunnel$Hem" (44 : Nat) ({ cls := "GoneIntoItsTunnel$Hem", name := "kindAt", desc := "(I)I" } : Jvm.MethodName)) ∈ TBg := tb_2 83 (by decide +kernel) rfl
theorem wd_324 : (Jvm.Cond.instanceMethod ({ cls := "GoneIntoItsTunnel$Hem", name := "kindAt", desc := "(I)I" } : Jvm.MethodName)) ∈ TBg := tb_2 84 (by decide +kernel) rfl
theorem wd_325 : (Jvm.Cond.selects "GoneIntoItsTunnel$Hem" ({ cls := "GoneIntoItsTunnel$Hem", name := "kindAt", desc := "(I)I" } : Jvm.MethodName) ({ cls := "GoneIntoItsTunnel$Hem", name := "kindAt", desc := "(I)I" } : Jvm.MethodName)) ∈ TBg := tb_2 85 (by decide +kernel) rfl
theorem wd_326 : (Jvm.Cond.code ({ cls := "GoneIntoItsTunnel$Hem", name := "kindAt", desc := "(I)I" } : Jvm.MethodName) prog_2_method_4_code (2 : Nat) (Option.some Jvm.ClassFile.FieldType.int)) ∈ TBg := tb_2 86 (by decide +kernel) rfl
theorem wd_327 : (Jvm.Cond.methodLink "GoneIntoItsTunnel$Hem" (48 : Nat) ({ cls := "GoneIntoItsTunnel$Hem", name := "figureAt", desc := "(I)I" } : Jvm.MethodName)) ∈ TBg := tb_2 87 (by decide +kernel) rfl
theorem wd_328 : (Jvm.Cond.instanceMethod ({ cls := "GoneIntoItsTunnel$Hem", name := "figureAt", desc := "(I)I" } : Jvm.MethodName)) ∈ TBg := tb_2 88 (by decide +kernel) rfl
theorem wd_329 : (Jvm.Cond.selects "GoneIntoItsTunnel$Hem" ({ cls := "GoneIntoItsTunnel$Hem", name := "figureAt", desc := "(I)I" } : Jvm.MethodName) ({ cls := "GoneIntoItsTunnel$Hem", name := "figureAt", desc := "(I)I" } : Jvm.MethodName)) ∈ TBg := tb_2 89 (by decide +kernel) rfl
theorem wd_330 : (Jvm.Cond.code ({ cls := "GoneIntoItsTunnel$Hem", name := "figureAt", desc := "(I)I" } : Jvm.MethodName) prog_2_method_5_code (2 : Nat) (Option.some Jvm.ClassFile.FieldType.int)) ∈ TBg := tb_2 90 (by decide +kernel) rfl
theorem wd_331 : (Jvm.Cond.methodLink "GoneIntoItsTunnel$Hem" (51 : Nat) ({ cls := "GoneIntoItsTunnel$Hem", name := "make", desc := "(III)V" } : Jvm.MethodName)) ∈ TBg := tb_2 91 (by decide +kernel) rfl
theorem wd_332 : (Jvm.Cond.instanceMethod ({ cls := "GoneIntoItsTunnel$Hem", name := "make", desc := "(III)V" } : Jvm.MethodName)) ∈ TBg := tb_2 92 (by decide +kernel) rfl
theorem wd_333 : (Jvm.Cond.selects "GoneIntoItsTunnel$Hem" ({ cls := "GoneIntoItsTunnel$Hem", name := "make", desc := "(III)V" } : Jvm.MethodName) ({ cls := "GoneIntoItsTunnel$Hem", name := "make", desc := "(III)V" } : Jvm.MethodName)) ∈ TBg := tb_2 93 (by decide +kernel) rfl
theorem wd_334 : (Jvm.Cond.code ({ cls := "GoneIntoItsTunnel$Hem", name := "make", desc := "(III)V" } : Jvm.MethodName) prog_2_method_6_code (4 : Nat) (Option.none : Option Jvm.ClassFile.FieldType)) ∈ TBg := tb_2 94 (by decide +kernel) rfl
theorem wd_335 : (Jvm.Cond.methodLink "GoneIntoItsTunnel" (260 : Nat) ({ cls := "GoneIntoItsTunnel", name := "isAsItMustBe", desc := "(I)Z" } : Jvm.MethodName)) ∈ TBg := tb_2 95 (by decide +kernel) rfl
theorem wd_337 : (Jvm.Cond.instanceMethod ({ cls := "GoneIntoItsTunnel", name := "isAsItMustBe", desc := "(I)Z" } : Jvm.MethodName)) ∈ TBg := tb_2 97 (by decide +kernel) rfl
theorem wd_338 : (Jvm.Cond.code ({ cls := "GoneIntoItsTunnel", name := "isAsItMustBe", desc := "(I)Z" } : Jvm.MethodName) prog_1_method_44_code (2 : Nat) (Option.some Jvm.ClassFile.FieldType.boolean)) ∈ TBg := tb_2 98 (by decide +kernel) rfl
theorem wd_339 : (Jvm.Cond.methodLink "GoneIntoItsTunnel" (269 : Nat) ({ cls := "GoneIntoItsTunnel$Letters", name := "signAt", desc := "(I)I" } : Jvm.MethodName)) ∈ TBg := tb_2 99 (by decide +kernel) rfl
theorem wd_340 : (Jvm.Cond.methodLink "GoneIntoItsTunnel" (272 : Nat) ({ cls := "GoneIntoItsTunnel$Letters", name := "number", desc := "(I)I" } : Jvm.MethodName)) ∈ TBg := tb_2 100 (by decide +kernel) rfl
theorem wd_341 : (Jvm.Cond.instanceMethod ({ cls := "GoneIntoItsTunnel$Letters", name := "number", desc := "(I)I" } : Jvm.MethodName)) ∈ TBg := tb_2 101 (by decide +kernel) rfl
theorem wd_342 : (Jvm.Cond.selects "GoneIntoItsTunnel$Letters" ({ cls := "GoneIntoItsTunnel$Letters", name := "number", desc := "(I)I" } : Jvm.MethodName) ({ cls := "GoneIntoItsTunnel$Letters", name := "number", desc := "(I)I" } : Jvm.MethodName)) ∈ TBg := tb_2 102 (by decide +kernel) rfl
theorem wd_343 : (Jvm.Cond.code ({ cls := "GoneIntoItsTunnel$Letters", name := "number", desc := "(I)I" } : Jvm.MethodName) prog_4_method_7_code (2 : Nat) (Option.some Jvm.ClassFile.FieldType.int)) ∈ TBg := tb_2 103 (by decide +kernel) rfl
theorem wd_344 : (Jvm.Cond.methodLink "GoneIntoItsTunnel$Letters" (23 : Nat) ({ cls := "GoneIntoItsTunnel$Letters", name := "digit", desc := "(I)I" } : Jvm.MethodName)) ∈ TBg := tb_2 104 (by decide +kernel) rfl
theorem wd_345 : (Jvm.Cond.instanceMethod ({ cls := "GoneIntoItsTunnel$Letters", name := "digit", desc := "(I)I" } : Jvm.MethodName)) ∈ TBg := tb_2 105 (by decide +kernel) rfl
theorem wd_346 : (Jvm.Cond.selects "GoneIntoItsTunnel$Letters" ({ cls := "GoneIntoItsTunnel$Letters", name := "digit", desc := "(I)I" } : Jvm.MethodName) ({ cls := "GoneIntoItsTunnel$Letters", name := "digit", desc := "(I)I" } : Jvm.MethodName)) ∈ TBg := tb_2 106 (by decide +kernel) rfl
theorem wd_347 : (Jvm.Cond.code ({ cls := "GoneIntoItsTunnel$Letters", name := "digit", desc := "(I)I" } : Jvm.MethodName) prog_4_method_6_code (2 : Nat) (Option.some Jvm.ClassFile.FieldType.int)) ∈ TBg := tb_2 107 (by decide +kernel) rfl
theorem wd_348 : (Jvm.Cond.methodLink "GoneIntoItsTunnel" (88 : Nat) ({ cls := "GoneIntoItsTunnel$Hem", name := "hasInch", desc := "(I)Z" } : Jvm.MethodName)) ∈ TBg := tb_2 108 (by decide +kernel) rfl
theorem wd_349 : (Jvm.Cond.instanceMethod ({ cls := "GoneIntoItsTunnel$Hem", name := "hasInch", desc := "(I)Z" } : Jvm.MethodName)) ∈ TBg := tb_2 109 (by decide +kernel) rfl
theorem wd_350 : (Jvm.Cond.selects "GoneIntoItsTunnel$Hem" ({ cls := "GoneIntoItsTunnel$Hem", name := "hasInch", desc := "(I)Z" } : Jvm.MethodName) ({ cls := "GoneIntoItsTunnel$Hem", name := "hasInch", desc := "(I)Z" } : Jvm.MethodName)) ∈ TBg := tb_2 110 (by decide +kernel) rfl
theorem wd_351 : (Jvm.Cond.code ({ cls := "GoneIntoItsTunnel$Hem", name := "hasInch", desc := "(I)Z" } : Jvm.MethodName) prog_2_method_3_code (2 : Nat) (Option.some Jvm.ClassFile.FieldType.boolean)) ∈ TBg := tb_2 111 (by decide +kernel) rfl
theorem wd_352 : (Jvm.Cond.methodLink "GoneIntoItsTunnel" (275 : Nat) ({ cls := "GoneIntoItsTunnel$Letters", name := "digit", desc := "(I)I" } : Jvm.MethodName)) ∈ TBg := tb_2 112 (by decide +kernel) rfl
theorem wd_353 : (Jvm.Cond.methodLink "GoneIntoItsTunnel" (119 : Nat) ({ cls := "GoneIntoItsTunnel", name := "isEnd", desc := "(I)Z" } : Jvm.MethodName)) ∈ TBg := tb_2 113 (by decide +kernel) rfl
theorem wd_354 : (Jvm.Cond.static ({ cls := "GoneIntoItsTunnel", name := "isEnd", desc := "(I)Z" } : Jvm.MethodName)) ∈ TBg := tb_2 114 (by decide +kernel) rfl
theorem wd_355 : (Jvm.Cond.code ({ cls := "GoneIntoItsTunnel", name := "isEnd", desc := "(I)Z" } : Jvm.MethodName) prog_1_method_38_code (1 : Nat) (Option.some Jvm.ClassFile.FieldType.boolean)) ∈ TBg := tb_2 115 (by decide +kernel) rfl
theorem wd_356 : (Jvm.Cond.methodLink "GoneIntoItsTunnel" (278 : Nat) ({ cls := "GoneIntoItsTunnel$Letters", name := "signed", desc := "(I)I" } : Jvm.MethodName)) ∈ TBg := tb_2 116 (by decide +kernel) rfl
theorem wd_357 : (Jvm.Cond.instanceMethod ({ cls := "GoneIntoItsTunnel$Letters", name := "signed", desc := "(I)I" } : Jvm.MethodName)) ∈ TBg := tb_2 117 (by decide +kernel) rfl
theorem wd_358 : (Jvm.Cond.selects "GoneIntoItsTunnel$Letters" ({ cls := "GoneIntoItsTunnel$Letters", name := "signed", desc := "(I)I" } : Jvm.MethodName) ({ cls := "GoneIntoItsTunnel$Letters", name := "signed", desc := "(I)I" } : Jvm.MethodName)) ∈ TBg := tb_2 118 (by decide +kernel) rfl
theorem wd_359 : (Jvm.Cond.code ({ cls := "GoneIntoItsTunnel$Letters", name := "signed", desc := "(I)I" } : Jvm.MethodName) prog_4_method_8_code (2 : Nat) (Option.some Jvm.ClassFile.FieldType.int)) ∈ TBg := tb_2 119 (by decide +kernel) rfl
theorem wd_360 : (Jvm.Cond.methodLink "GoneIntoItsTunnel$Letters" (26 : Nat) ({ cls := "GoneIntoItsTunnel$Letters", name := "number", desc := "(I)I" } : Jvm.MethodName)) ∈ TBg := tb_2 120 (by decide +kernel) rfl
theorem wd_361 : (Jvm.Cond.methodLink "GoneIntoItsTunnel" (263 : Nat) ({ cls := "GoneIntoItsTunnel", name := "comes", desc := "(I)V" } : Jvm.MethodName)) ∈ TBg := tb_2 121 (by decide +kernel) rfl
theorem wd_363 : (Jvm.Cond.instanceMethod ({ cls := "GoneIntoItsTunnel", name := "comes", desc := "(I)V" } : Jvm.MethodName)) ∈ TBg := tb_2 123 (by decide +kernel) rfl
theorem wd_364 : (Jvm.Cond.code ({ cls := "GoneIntoItsTunnel", name := "comes", desc := "(I)V" } : Jvm.MethodName) prog_1_method_45_code (3 : Nat) (Option.none : Option Jvm.ClassFile.FieldType)) ∈ TBg := tb_2 124 (by decide +kernel) rfl
theorem wd_365 : (Jvm.Cond.methodLink "GoneIntoItsTunnel" (281 : Nat) ({ cls := "GoneIntoItsTunnel$Kind", name := "ofSign", desc := "(I)I" } : Jvm.MethodName)) ∈ TBg := tb_2 125 (by decide +kernel) rfl
theorem wd_366 : (Jvm.Cond.static ({ cls := "GoneIntoItsTunnel$Kind", name := "ofSign", desc := "(I)I" } : Jvm.MethodName)) ∈ TBg := tb_2 126 (by decide +kernel) rfl
theorem wd_367 : (Jvm.Cond.code ({ cls := "GoneIntoItsTunnel$Kind", name := "ofSign", desc := "(I)I" } : Jvm.MethodName) prog_3_method_3_code (1 : Nat) (Option.some Jvm.ClassFile.FieldType.int)) ∈ TBg := tb_2 127 (by decide +kernel) rfl
theorem wd_368 : (Jvm.Cond.methodLink "GoneIntoItsTunnel$Kind" (17 : Nat) ({ cls := "java/lang/Math", name := "max", desc := "(II)I" } : Jvm.MethodName)) ∈ TBg := tb_2 128 (by decide +kernel) rfl
theorem wd_369 : (Jvm.Cond.methodLink "GoneIntoItsTunnel" (112 : Nat) ({ cls := "GoneIntoItsTunnel$Hem", name := "make", desc := "(III)V" } : Jvm.MethodName)) ∈ TBg := tb_2 129 (by decide +kernel) rfl
theorem wd_370 : (Jvm.Cond.methodLink "GoneIntoItsTunnel" (128 : Nat) ({ cls := "GoneIntoItsTunnel$Hem", name := "place", desc := "(II)V" } : Jvm.MethodName)) ∈ TBg := tb_2 130 (by decide +kernel) rfl
theorem wd_371 : (Jvm.Cond.instanceMethod ({ cls := "GoneIntoItsTunnel$Hem", name := "place", desc := "(II)V" } : Jvm.MethodName)) ∈ TBg := tb_2 131 (by decide +kernel) rfl
theorem wd_372 : (Jvm.Cond.selects "GoneIntoItsTunnel$Hem" ({ cls := "GoneIntoItsTunnel$Hem", name := "place", desc := "(II)V" } : Jvm.MethodName) ({ cls := "GoneIntoItsTunnel$Hem", name := "place", desc := "(II)V" } : Jvm.MethodName)) ∈ TBg := tb_2 132 (by decide +kernel) rfl
theorem wd_373 : (Jvm.Cond.code ({ cls := "GoneIntoItsTunnel$Hem", name := "place", desc := "(II)V" } : Jvm.MethodName) prog_2_method_16_code (3 : Nat) (Option.none : Option Jvm.ClassFile.FieldType)) ∈ TBg := tb_2 133 (by decide +kernel) rfl
theorem wd_374 : (Jvm.Cond.methodLink "GoneIntoItsTunnel" (132 : Nat) ({ cls := "GoneIntoItsTunnel$Hem", name := "isKnotted", desc := "(I)Z" } : Jvm.MethodName)) ∈ TBg := tb_2 134 (by decide +kernel) rfl
theorem wd_375 : (Jvm.Cond.instanceMethod ({ cls := "GoneIntoItsTunnel$Hem", name := "isKnotted", desc := "(I)Z" } : Jvm.MethodName)) ∈ TBg := tb_2 135 (by decide +kernel) rfl
theorem wd_376 : (Jvm.Cond.selects "GoneIntoItsTunnel$Hem" ({ cls := "GoneIntoItsTunnel$Hem", name := "isKnotted", desc := "(I)Z" } : Jvm.MethodName) ({ cls := "GoneIntoItsTunnel$Hem", name := "isKnotted", desc := "(I)Z" } : Jvm.MethodName)) ∈ TBg := tb_2 136 (by decide +kernel) rfl
theorem wd_377 : (Jvm.Cond.code ({ cls := "GoneIntoItsTunnel$Hem", name := "isKnotted", desc := "(I)Z" } : Jvm.MethodName) prog_2_method_17_code (2 : Nat) (Option.some Jvm.ClassFile.FieldType.boolean)) ∈ TBg := tb_2 137 (by decide +kernel) rfl
theorem wd_378 : (Jvm.Cond.methodLink "GoneIntoItsTunnel" (135 : Nat) ({ cls := "GoneIntoItsTunnel$Hem", name := "knot", desc := "(IZ)V" } : Jvm.MethodName)) ∈ TBg := tb_2 138 (by decide +kernel) rfl
theorem wd_379 : (Jvm.Cond.instanceMethod ({ cls := "GoneIntoItsTunnel$Hem", name := "knot", desc := "(IZ)V" } : Jvm.MethodName)) ∈ TBg := tb_2 139 (by decide +kernel) rfl
theorem wd_380 : (Jvm.Cond.selects "GoneIntoItsTunnel$Hem" ({ cls := "GoneIntoItsTunnel$Hem", name := "knot", desc := "(IZ)V" } : Jvm.MethodName) ({ cls := "GoneIntoItsTunnel$Hem", name := "knot", desc := "(IZ)V" } : Jvm.MethodName)) ∈ TBg := tb_2 140 (by decide +kernel) rfl
theorem wd_381 : (Jvm.Cond.code ({ cls := "GoneIntoItsTunnel$Hem", name := "knot", desc := "(IZ)V" } : Jvm.MethodName) prog_2_method_18_code (3 : Nat) (Option.none : Option Jvm.ClassFile.FieldType)) ∈ TBg := tb_2 141 (by decide +kernel) rfl
theorem wd_382 : (Jvm.Cond.methodLink "GoneIntoItsTunnel" (169 : Nat) ({ cls := "GoneIntoItsTunnel$Hem", name := "washTimes", desc := "(I)V" } : Jvm.MethodName)) ∈ TBg := tb_2 142 (by decide +kernel) rfl
theorem wd_383 : (Jvm.Cond.instanceMethod ({ cls := "GoneIntoItsTunnel$Hem", name := "washTimes", desc := "(I)V" } : Jvm.MethodName)) ∈ TBg := tb_2 143 (by decide +kernel) rfl
theorem wd_384 : (Jvm.Cond.selects "GoneIntoItsTunnel$Hem" ({ cls := "GoneIntoItsTunnel$Hem", name := "washTimes", desc := "(I)V" } : Jvm.MethodName) ({ cls := "GoneIntoItsTunnel$Hem", name := "washTimes", desc := "(I)V" } : Jvm.MethodName)) ∈ TBg := tb_2 144 (by decide +kernel) rfl
theorem wd_385 : (Jvm.Cond.code ({ cls := "GoneIntoItsTunnel$Hem", name := "washTimes", desc := "(I)V" } : Jvm.MethodName) prog_2_method_25_code (3 : Nat) (Option.none : Option Jvm.ClassFile.FieldType)) ∈ TBg := tb_2 145 (by decide +kernel) rfl
theorem wd_386 : (Jvm.Cond.methodLink "GoneIntoItsTunnel$Hem" (108 : Nat) ({ cls := "GoneIntoItsTunnel$Hem", name := "washOnce", desc := "()I" } : Jvm.MethodName)) ∈ TBg := tb_2 146 (by decide +kernel) rfl
theorem wd_387 : (Jvm.Cond.instanceMethod ({ cls := "GoneIntoItsTunnel$Hem", name := "washOnce", desc := "()I" } : Jvm.MethodName)) ∈ TBg := tb_2 147 (by decide +kernel) rfl
theorem wd_388 : (Jvm.Cond.selects "GoneIntoItsTunnel$Hem" ({ cls := "GoneIntoItsTunnel$Hem", name := "washOnce", desc := "()I" } : Jvm.MethodName) ({ cls := "GoneIntoItsTunnel$Hem", name := "washOnce", desc := "()I" } : Jvm.MethodName)) ∈ TBg := tb_2 148 (by decide +kernel) rfl
theorem wd_389 : (Jvm.Cond.code ({ cls := "GoneIntoItsTunnel$Hem", name := "washOnce", desc := "()I" } : Jvm.MethodName) prog_2_method_24_code (2 : Nat) (Option.some Jvm.ClassFile.FieldType.int)) ∈ TBg := tb_2 149 (by decide +kernel) rfl
theorem wd_390 : (Jvm.Cond.methodLink "GoneIntoItsTunnel$Hem" (79 : Nat) ({ cls := "GoneIntoItsTunnel$Hem", name := "depth", desc := "(I)I" } : Jvm.MethodName)) ∈ TBg := tb_2 150 (by decide +kernel) rfl
theorem wd_391 : (Jvm.Cond.instanceMethod ({ cls := "GoneIntoItsTunnel$Hem", name := "depth", desc := "(I)I" } : Jvm.MethodName)) ∈ TBg := tb_2 151 (by decide +kernel) rfl
theorem wd_392 : (Jvm.Cond.selects "GoneIntoItsTunnel$Hem" ({ cls := "GoneIntoItsTunnel$Hem", name := "depth", desc := "(I)I" } : Jvm.MethodName) ({ cls := "GoneIntoItsTunnel$Hem", name := "depth", desc := "(I)I" } : Jvm.MethodName)) ∈ TBg := tb_2 152 (by decide +kernel) rfl
theorem wd_393 : (Jvm.Cond.code ({ cls := "GoneIntoItsTunnel$Hem", name := "depth", desc := "(I)I" } : Jvm.MethodName) prog_2_method_15_code (2 : Nat) (Option.some Jvm.ClassFile.FieldType.int)) ∈ TBg := tb_2 153 (by decide +kernel) rfl
theorem wd_394 : (Jvm.Cond.methodLink "GoneIntoItsTunnel$Hem" (100 : Nat) ({ cls := "GoneIntoItsTunnel$Hem", name := "inchAt", desc := "(II)I" } : Jvm.MethodName)) ∈ TBg := tb_2 154 (by decide +kernel) rfl
theorem wd_395 : (Jvm.Cond.instanceMethod ({ cls := "GoneIntoItsTunnel$Hem", name := "inchAt", desc := "(II)I" } : Jvm.MethodName)) ∈ TBg := tb_2 155 (by decide +kernel) rfl
theorem wd_396 : (Jvm.Cond.selects "GoneIntoItsTunnel$Hem" ({ cls := "GoneIntoItsTunnel$Hem", name := "inchAt", desc := "(II)I" } : Jvm.MethodName) ({ cls := "GoneIntoItsTunnel$Hem", name := "inchAt", desc := "(II)I" } : Jvm.MethodName)) ∈ TBg := tb_2 156 (by decide +kernel) rfl
theorem wd_397 : (Jvm.Cond.code ({ cls := "GoneIntoItsTunnel$Hem", name := "inchAt", desc := "(II)I" } : Jvm.MethodName) prog_2_method_21_code (4 : Nat) (Option.some Jvm.ClassFile.FieldType.int)) ∈ TBg := tb_2 157 (by decide +kernel) rfl
theorem wd_398 : (Jvm.Cond.methodLink "GoneIntoItsTunnel$Hem" (85 : Nat) ({ cls := "java/lang/Math", name := "min", desc := "(II)I" } : Jvm.MethodName)) ∈ TBg := tb_2 158 (by decide +kernel) rfl
theorem wd_399 : (Jvm.Cond.methodLink "GoneIntoItsTunnel$Hem" (103 : Nat) ({ cls := "GoneIntoItsTunnel$Hem", name := "washDraw", desc := "(I)I" } : Jvm.MethodName)) ∈ TBg := tb_2 159 (by decide +kernel) rfl
theorem wd_400 : (Jvm.Cond.instanceMethod ({ cls := "GoneIntoItsTunnel$Hem", name := "washDraw", desc := "(I)I" } : Jvm.MethodName)) ∈ TBg := tb_2 160 (by decide +kernel) rfl
theorem wd_401 : (Jvm.Cond.selects "GoneIntoItsTunnel$Hem" ({ cls := "GoneIntoItsTunnel$Hem", name := "washDraw", desc := "(I)I" } : Jvm.MethodName) ({ cls := "GoneIntoItsTunnel$Hem", name := "washDraw", desc := "(I)I" } : Jvm.MethodName)) ∈ TBg := tb_2 161 (by decide +kernel) rfl
theorem wd_402 : (Jvm.Cond.code ({ cls := "GoneIntoItsTunnel$Hem", name := "washDraw", desc := "(I)I" } : Jvm.MethodName) prog_2_method_10_code (2 : Nat) (Option.some Jvm.ClassFile.FieldType.int)) ∈ TBg := tb_2 162 (by decide +kernel) rfl
theorem wd_403 : (Jvm.Cond.methodLink "GoneIntoItsTunnel$Hem" (67 : Nat) ({ cls := "GoneIntoItsTunnel$Kind", name := "washDraw", desc := "(II)I" } : Jvm.MethodName)) ∈ TBg := tb_2 163 (by decide +kernel) rfl
theorem wd_404 : (Jvm.Cond.static ({ cls := "GoneIntoItsTunnel$Kind", name := "washDraw", desc := "(II)I" } : Jvm.MethodName)) ∈ TBg := tb_2 164 (by decide +kernel) rfl
theorem wd_405 : (Jvm.Cond.code ({ cls := "GoneIntoItsTunnel$Kind", name := "washDraw", desc := "(II)I" } : Jvm.MethodName) prog_3_method_8_code (2 : Nat) (Option.some Jvm.ClassFile.FieldType.int)) ∈ TBg := tb_2 165 (by decide +kernel) rfl
theorem wd_406 : (Jvm.Cond.methodLink "GoneIntoItsTunnel$Hem" (105 : Nat) ({ cls := "GoneIntoItsTunnel$Hem", name := "draw", desc := "(II)I" } : Jvm.MethodName)) ∈ TBg := tb_2 166 (by decide +kernel) rfl
theorem wd_407 : (Jvm.Cond.instanceMethod ({ cls := "GoneIntoItsTunnel$Hem", name := "draw", desc := "(II)I" } : Jvm.MethodName)) ∈ TBg := tb_2 167 (by decide +kernel) rfl
theorem wd_408 : (Jvm.Cond.selects "GoneIntoItsTunnel$Hem" ({ cls := "GoneIntoItsTunnel$Hem", name := "draw", desc := "(II)I" } : Jvm.MethodName) ({ cls := "GoneIntoItsTunnel$Hem", name := "draw", desc := "(II)I" } : Jvm.MethodName)) ∈ TBg := tb_2 168 (by decide +kernel) rfl
theorem wd_409 : (Jvm.Cond.code ({ cls := "GoneIntoItsTunnel$Hem", name := "draw", desc := "(II)I" } : Jvm.MethodName) prog_2_method_23_code (5 : Nat) (Option.some Jvm.ClassFile.FieldType.int)) ∈ TBg := tb_2 169 (by decide +kernel) rfl
theorem wd_410 : (Jvm.Cond.methodLink "GoneIntoItsTunnel$Hem" (93 : Nat) ({ cls := "GoneIntoItsTunnel$Hem", name := "canDraw", desc := "(II)I" } : Jvm.MethodName)) ∈ TBg := tb_2 170 (by decide +kernel) rfl
theorem wd_411 : (Jvm.Cond.instanceMethod ({ cls := "GoneIntoItsTunnel$Hem", name := "canDraw", desc := "(II)I" } : Jvm.MethodName)) ∈ TBg := tb_2 171 (by decide +kernel) rfl
theorem wd_412 : (Jvm.Cond.selects "GoneIntoItsTunnel$Hem" ({ cls := "GoneIntoItsTunnel$Hem", name := "canDraw", desc := "(II)I" } : Jvm.MethodName) ({ cls := "GoneIntoItsTunnel$Hem", name := "canDraw", desc := "(II)I" } : Jvm.MethodName)) ∈ TBg := tb_2 172 (by decide +kernel) rfl
theorem wd_413 : (Jvm.Cond.code ({ cls := "GoneIntoItsTunnel$Hem", name := "canDraw", desc := "(II)I" } : Jvm.MethodName) prog_2_method_22_code (7 : Nat) (Option.some Jvm.ClassFile.FieldType.int)) ∈ TBg := tb_2 173 (by decide +kernel) rfl
theorem wd_414 : (Jvm.Cond.methodLink "GoneIntoItsTunnel$Hem" (90 : Nat) ({ cls := "java/lang/Math", name := "max", desc := "(II)I" } : Jvm.MethodName)) ∈ TBg := tb_2 174 (by decide +kernel) rfl
theorem wd_415 : (Jvm.Cond.methodLink "GoneIntoItsTunnel$Hem" (96 : Nat) ({ cls := "GoneIntoItsTunnel$Hem", name := "place", desc := "(II)V" } : Jvm.MethodName)) ∈ TBg := tb_2 175 (by decide +kernel) rfl
theorem wd_416 : (Jvm.Cond.methodLink "GoneIntoItsTunnel" (266 : Nat) ({ cls := "GoneIntoItsTunnel$Letters", name := "lengthBehind", desc := "(I)I" } : Jvm.MethodName)) ∈ TBg := tb_2 176 (by decide +kernel) rfl
theorem wd_417 : (Jvm.Cond.instanceMethod ({ cls := "GoneIntoItsTunnel$Letters", name := "lengthBehind", desc := "(I)I" } : Jvm.MethodName)) ∈ TBg := tb_2 177 (by decide +kernel) rfl
theorem wd_418 : (Jvm.Cond.selects "GoneIntoItsTunnel$Letters" ({ cls := "GoneIntoItsTunnel$Letters", name := "lengthBehind", desc := "(I)I" } : Jvm.MethodName) ({ cls := "GoneIntoItsTunnel$Letters", name := "lengthBehind", desc := "(I)I" } : Jvm.MethodName)) ∈ TBg := tb_2 178 (by decide +kernel) rfl
theorem wd_419 : (Jvm.Cond.code ({ cls := "GoneIntoItsTunnel$Letters", name := "lengthBehind", desc := "(I)I" } : Jvm.MethodName) prog_4_method_9_code (2 : Nat) (Option.some Jvm.ClassFile.FieldType.int)) ∈ TBg := tb_2 179 (by decide +kernel) rfl
theorem wd_420 : (Jvm.Cond.methodLink "GoneIntoItsTunnel" (85 : Nat) ({ cls := "GoneIntoItsTunnel$Letters", name := "clear", desc := "()V" } : Jvm.MethodName)) ∈ TBg := tb_2 180 (by decide +kernel) rfl
theorem wd_421 : (Jvm.Cond.instanceMethod ({ cls := "GoneIntoItsTunnel$Letters", name := "clear", desc := "()V" } : Jvm.MethodName)) ∈ TBg := tb_2 181 (by decide +kernel) rfl
theorem wd_422 : (Jvm.Cond.selects "GoneIntoItsTunnel$Letters" ({ cls := "GoneIntoItsTunnel$Letters", name := "clear", desc := "()V" } : Jvm.MethodName) ({ cls := "GoneIntoItsTunnel$Letters", name := "clear", desc := "()V" } : Jvm.MethodName)) ∈ TBg := tb_2 182 (by decide +kernel) rfl
theorem wd_423 : (Jvm.Cond.code ({ cls := "GoneIntoItsTunnel$Letters", name := "clear", desc := "()V" } : Jvm.MethodName) prog_4_method_4_code (1 : Nat) (Option.none : Option Jvm.ClassFile.FieldType)) ∈ TBg := tb_2 183 (by decide +kernel) rfl
theorem wd_425 : (Jvm.Cond.methodLink "GoneIntoItsTunnelLaw" (23 : Nat) ({ cls := "GoneIntoItsTunnel", name := "inch", desc := "(II)I" } : Jvm.MethodName)) ∈ TBg := tb_2 185 (by decide +kernel) rfl
theorem wd_426 : (Jvm.Cond.instanceMethod ({ cls := "GoneIntoItsTunnel", name := "inch", desc := "(II)I" } : Jvm.MethodName)) ∈ TBg := tb_2 186 (by decide +kernel) rfl
theorem wd_427 : (Jvm.Cond.selects "GoneIntoItsTunnel" ({ cls := "GoneIntoItsTunnel", name := "inch", desc := "(II)I" } : Jvm.MethodName) ({ cls := "GoneIntoItsTunnel", name := "inch", desc := "(II)I" } : Jvm.MethodName)) ∈ TBg := tb_2 187 (by decide +kernel) rfl
theorem wd_428 : (Jvm.Cond.code ({ cls := "GoneIntoItsTunnel", name := "inch", desc := "(II)I" } : Jvm.MethodName) prog_1_method_4_code (3 : Nat) (Option.some Jvm.ClassFile.FieldType.int)) ∈ TBg := tb_2 188 (by decide +kernel) rfl
theorem wd_429 : (Jvm.Cond.methodLink "GoneIntoItsTunnel" (92 : Nat) ({ cls := "GoneIntoItsTunnel$Hem", name := "kindAt", desc := "(I)I" } : Jvm.MethodName)) ∈ TBg := tb_2 189 (by decide +kernel) rfl
theorem wd_430 : (Jvm.Cond.methodLink "GoneIntoItsTunnel" (95 : Nat) ({ cls := "GoneIntoItsTunnel$Hem", name := "figureAt", desc := "(I)I" } : Jvm.MethodName)) ∈ TBg := tb_2 190 (by decide +kernel) rfl
theorem wd_431 : (Jvm.Cond.methodLink "GoneIntoItsTunnel" (98 : Nat) ({ cls := "GoneIntoItsTunnel$Hem", name := "bunchMove", desc := "(I)I" } : Jvm.MethodName)) ∈ TBg := tb_2 191 (by decide +kernel) rfl
theorem wd_432 : (Jvm.Cond.instanceMethod ({ cls := "GoneIntoItsTunnel$Hem", name := "bunchMove", desc := "(I)I" } : Jvm.MethodName)) ∈ TBg := tb_2 192 (by decide +kernel) rfl
theorem wd_433 : (Jvm.Cond.selects "GoneIntoItsTunnel$Hem" ({ cls := "GoneIntoItsTunnel$Hem", name := "bunchMove", desc := "(I)I" } : Jvm.MethodName) ({ cls := "GoneIntoItsTunnel$Hem", name := "bunchMove", desc := "(I)I" } : Jvm.MethodName)) ∈ TBg := tb_2 193 (by decide +kernel) rfl
theorem wd_434 : (Jvm.Cond.code ({ cls := "GoneIntoItsTunnel$Hem", name := "bunchMove", desc := "(I)I" } : Jvm.MethodName) prog_2_method_7_code (2 : Nat) (Option.some Jvm.ClassFile.FieldType.int)) ∈ TBg := tb_2 194 (by decide +kernel) rfl
theorem wd_435 : (Jvm.Cond.methodLink "GoneIntoItsTunnel$Hem" (57 : Nat) ({ cls := "GoneIntoItsTunnel$Kind", name := "bunchMove", desc := "(I)I" } : Jvm.MethodName)) ∈ TBg := tb_2 195 (by decide +kernel) rfl
theorem wd_436 : (Jvm.Cond.static ({ cls := "GoneIntoItsTunnel$Kind", name := "bunchMove", desc := "(I)I" } : Jvm.MethodName)) ∈ TBg := tb_2 196 (by decide +kernel) rfl
theorem wd_437 : (Jvm.Cond.code ({ cls := "GoneIntoItsTunnel$Kind", name := "bunchMove", desc := "(I)I" } : Jvm.MethodName) prog_3_method_5_code (1 : Nat) (Option.some Jvm.ClassFile.FieldType.int)) ∈ TBg := tb_2 197 (by decide +kernel) rfl
theorem wd_438 : (Jvm.Cond.methodLink "GoneIntoItsTunnel" (101 : Nat) ({ cls := "GoneIntoItsTunnel$Hem", name := "bunchSeconds", desc := "(I)I" } : Jvm.MethodName)) ∈ TBg := tb_2 198 (by decide +kernel) rfl
theorem wd_439 : (Jvm.Cond.instanceMethod ({ cls := "GoneIntoItsTunnel$Hem", name := "bunchSeconds", desc := "(I)I" } : Jvm.MethodName)) ∈ TBg := tb_2 199 (by decide +kernel) rfl
theorem wd_440 : (Jvm.Cond.selects "GoneIntoItsTunnel$Hem" ({ cls := "GoneIntoItsTunnel$Hem", name := "bunchSeconds", desc := "(I)I" } : Jvm.MethodName) ({ cls := "GoneIntoItsTunnel$Hem", name := "bunchSeconds", desc := "(I)I" } : Jvm.MethodName)) ∈ TBg := tb_2 200 (by decide +kernel) rfl
theorem wd_441 : (Jvm.Cond.code ({ cls := "GoneIntoItsTunnel$Hem", name := "bunchSeconds", desc := "(I)I" } : Jvm.MethodName) prog_2_method_8_code (2 : Nat) (Option.some Jvm.ClassFile.FieldType.int)) ∈ TBg := tb_2 201 (by decide +kernel) rfl
theorem wd_442 : (Jvm.Cond.methodLink "GoneIntoItsTunnel$Hem" (60 : Nat) ({ cls := "GoneIntoItsTunnel$Kind", name := "bunchSeconds", desc := "(II)I" } : Jvm.MethodName)) ∈ TBg := tb_2 202 (by decide +kernel) rfl
theorem wd_443 : (Jvm.Cond.static ({ cls := "GoneIntoItsTunnel$Kind", name := "bunchSeconds", desc := "(II)I" } : Jvm.MethodName)) ∈ TBg := tb_2 203 (by decide +kernel) rfl
theorem wd_444 : (Jvm.Cond.code ({ cls := "GoneIntoItsTunnel$Kind", name := "bunchSeconds", desc := "(II)I" } : Jvm.MethodName) prog_3_method_6_code (2 : Nat) (Option.some Jvm.ClassFile.FieldType.int)) ∈ TBg := tb_2 204 (by decide +kernel) rfl
theorem wd_445 : (Jvm.Cond.methodLink "GoneIntoItsTunnel" (104 : Nat) ({ cls := "GoneIntoItsTunnel$Hem", name := "threadSeconds", desc := "(I)I" } : Jvm.MethodName)) ∈ TBg := tb_2 205 (by decide +kernel) rfl
theorem wd_446 : (Jvm.Cond.instanceMethod ({ cls := "GoneIntoItsTunnel$Hem", name := "threadSeconds", desc := "(I)I" } : Jvm.MethodName)) ∈ TBg := tb_2 206 (by decide +kernel) rfl
theorem wd_447 : (Jvm.Cond.selects "GoneIntoItsTunnel$Hem" ({ cls := "GoneIntoItsTunnel$Hem", name := "threadSeconds", desc := "(I)I" } : Jvm.MethodName) ({ cls := "GoneIntoItsTunnel$Hem", name := "threadSeconds", desc := "(I)I" } : Jvm.MethodName)) ∈ TBg := tb_2 207 (by decide +kernel) rfl
theorem wd_448 : (Jvm.Cond.code ({ cls := "GoneIntoItsTunnel$Hem", name := "threadSeconds", desc := "(I)I" } : Jvm.MethodName) prog_2_method_9_code (2 : Nat) (Option.some Jvm.ClassFile.FieldType.int)) ∈ TBg := tb_2 208 (by decide +kernel) rfl
theorem wd_449 : (Jvm.Cond.methodLink "GoneIntoItsTunnel$Hem" (64 : Nat) ({ cls := "GoneIntoItsTunnel$Kind", name := "threadSeconds", desc := "(II)I" } : Jvm.MethodName)) ∈ TBg := tb_2 209 (by decide +kernel) rfl
theorem wd_450 : (Jvm.Cond.static ({ cls := "GoneIntoItsTunnel$Kind", name := "threadSeconds", desc := "(II)I" } : Jvm.MethodName)) ∈ TBg := tb_2 210 (by decide +kernel) rfl
theorem wd_451 : (Jvm.Cond.code ({ cls := "GoneIntoItsTunnel$Kind", name := "threadSeconds", desc := "(II)I" } : Jvm.MethodName) prog_3_method_7_code (2 : Nat) (Option.some Jvm.ClassFile.FieldType.int)) ∈ TBg := tb_2 211 (by decide +kernel) rfl
theorem wd_452 : (Jvm.Cond.methodLink "GoneIntoItsTunnel" (107 : Nat) ({ cls := "GoneIntoItsTunnel$Hem", name := "washDraw", desc := "(I)I" } : Jvm.MethodName)) ∈ TBg := tb_2 212 (by decide +kernel) rfl
theorem wd_453 : (Jvm.Cond.methodLink "GoneIntoItsTunnelLaw" (28 : Nat) ({ cls := "GoneIntoItsTunnel", name := "turn", desc := "(III)I" } : Jvm.MethodName)) ∈ TBg := tb_2 213 (by decide +kernel) rfl
theorem wd_454 : (Jvm.Cond.instanceMethod ({ cls := "GoneIntoItsTunnel", name := "turn", desc := "(III)I" } : Jvm.MethodName)) ∈ TBg := tb_2 214 (by decide +kernel) rfl
theorem wd_455 : (Jvm.Cond.selects "GoneIntoItsTunnel" ({ cls := "GoneIntoItsTunnel", name := "turn", desc := "(III)I" } : Jvm.MethodName) ({ cls := "GoneIntoItsTunnel", name := "turn", desc := "(III)I" } : Jvm.MethodName)) ∈ TBg := tb_2 215 (by decide +kernel) rfl
theorem wd_456 : (Jvm.Cond.code ({ cls := "GoneIntoItsTunnel", name := "turn", desc := "(III)I" } : Jvm.MethodName) prog_1_method_5_code (6 : Nat) (Option.some Jvm.ClassFile.FieldType.int)) ∈ TBg := tb_2 216 (by decide +kernel) rfl
theorem wd_457 : (Jvm.Cond.methodLink "GoneIntoItsTunnelLaw" (33 : Nat) ({ cls := "GoneIntoItsTunnel", name := "inches", desc := "(I)I" } : Jvm.MethodName)) ∈ TBg := tb_2 217 (by decide +kernel) rfl
theorem wd_458 : (Jvm.Cond.instanceMethod ({ cls := "GoneIntoItsTunnel", name := "inches", desc := "(I)I" } : Jvm.MethodName)) ∈ TBg := tb_2 218 (by decide +kernel) rfl
theorem wd_459 : (Jvm.Cond.selects "GoneIntoItsTunnel" ({ cls := "GoneIntoItsTunnel", name := "inches", desc := "(I)I" } : Jvm.MethodName) ({ cls := "GoneIntoItsTunnel", name := "inches", desc := "(I)I" } : Jvm.MethodName)) ∈ TBg := tb_2 219 (by decide +kernel) rfl
theorem wd_460 : (Jvm.Cond.code ({ cls := "GoneIntoItsTunnel", name := "inches", desc := "(I)I" } : Jvm.MethodName) prog_1_method_6_code (4 : Nat) (Option.some Jvm.ClassFile.FieldType.int)) ∈ TBg := tb_2 220 (by decide +kernel) rfl
theorem wd_461 : (Jvm.Cond.methodLink "GoneIntoItsTunnelLaw" (37 : Nat) ({ cls := "GoneIntoItsTunnel", name := "end", desc := "(II)I" } : Jvm.MethodName)) ∈ TBg := tb_2 221 (by decide +kernel) rfl
theorem wd_462 : (Jvm.Cond.instanceMethod ({ cls := "GoneIntoItsTunnel", name := "end", desc := "(II)I" } : Jvm.MethodName)) ∈ TBg := tb_2 222 (by decide +kernel) rfl
theorem wd_463 : (Jvm.Cond.selects "GoneIntoItsTunnel" ({ cls := "GoneIntoItsTunnel", name := "end", desc := "(II)I" } : Jvm.MethodName) ({ cls := "GoneIntoItsTunnel", name := "end", desc := "(II)I" } : Jvm.MethodName)) ∈ TBg := tb_2 223 (by decide +kernel) rfl
theorem wd_464 : (Jvm.Cond.code ({ cls := "GoneIntoItsTunnel", name := "end", desc := "(II)I" } : Jvm.MethodName) prog_1_method_7_code (5 : Nat) (Option.some Jvm.ClassFile.FieldType.int)) ∈ TBg := tb_2 224 (by decide +kernel) rfl
theorem wd_465 : (Jvm.Cond.methodLink "GoneIntoItsTunnel" (122 : Nat) ({ cls := "GoneIntoItsTunnel", name := "refuseAsTold", desc := "(I)I" } : Jvm.MethodName)) ∈ TBg := tb_2 225 (by decide +kernel) rfl
theorem wd_467 : (Jvm.Cond.instanceMethod ({ cls := "GoneIntoItsTunnel", name := "refuseAsTold", desc := "(I)I" } : Jvm.MethodName)) ∈ TBg := tb_2 227 (by decide +kernel) rfl
theorem wd_468 : (Jvm.Cond.code ({ cls := "GoneIntoItsTunnel", name := "refuseAsTold", desc := "(I)I" } : Jvm.MethodName) prog_1_method_41_code (2 : Nat) (Option.some Jvm.ClassFile.FieldType.int)) ∈ TBg := tb_2 228 (by decide +kernel) rfl
theorem wd_469 : (Jvm.Cond.constant "GoneIntoItsTunnel" (259 : Nat) (1000000000 : Int32)) ∈ TBg := tb_2 229 (by decide +kernel) rfl
theorem wd_470 : (Jvm.Cond.methodLink "GoneIntoItsTunnel" (125 : Nat) ({ cls := "GoneIntoItsTunnel$Hem", name := "depth", desc := "(I)I" } : Jvm.MethodName)) ∈ TBg := tb_2 230 (by decide +kernel) rfl
theorem wd_471 : (Jvm.Cond.methodLink "GoneIntoItsTunnelLaw" (41 : Nat) ({ cls := "GoneIntoItsTunnel", name := "tie", desc := "(I)I" } : Jvm.MethodName)) ∈ TBg := tb_2 231 (by decide +kernel) rfl
theorem wd_472 : (Jvm.Cond.instanceMethod ({ cls := "GoneIntoItsTunnel", name := "tie", desc := "(I)I" } : Jvm.MethodName)) ∈ TBg := tb_2 232 (by decide +kernel) rfl
theorem wd_473 : (Jvm.Cond.selects "GoneIntoItsTunnel" ({ cls := "GoneIntoItsTunnel", name := "tie", desc := "(I)I" } : Jvm.MethodName) ({ cls := "GoneIntoItsTunnel", name := "tie", desc := "(I)I" } : Jvm.MethodName)) ∈ TBg := tb_2 233 (by decide +kernel) rfl
theorem wd_474 : (Jvm.Cond.code ({ cls := "GoneIntoItsTunnel", name := "tie", desc := "(I)I" } : Jvm.MethodName) prog_1_method_8_code (2 : Nat) (Option.some Jvm.ClassFile.FieldType.int)) ∈ TBg := tb_2 234 (by decide +kernel) rfl
theorem wd_475 : (Jvm.Cond.methodLink "GoneIntoItsTunnelLaw" (45 : Nat) ({ cls := "GoneIntoItsTunnel", name := "sew", desc := "()I" } : Jvm.MethodName)) ∈ TBg := tb_2 235 (by decide +kernel) rfl
theorem wd_476 : (Jvm.Cond.instanceMethod ({ cls := "GoneIntoItsTunnel", name := "sew", desc := "()I" } : Jvm.MethodName)) ∈ TBg := tb_2 236 (by decide +kernel) rfl
theorem wd_477 : (Jvm.Cond.selects "GoneIntoItsTunnel" ({ cls := "GoneIntoItsTunnel", name := "sew", desc := "()I" } : Jvm.MethodName) ({ cls := "GoneIntoItsTunnel", name := "sew", desc := "()I" } : Jvm.MethodName)) ∈ TBg := tb_2 237 (by decide +kernel) rfl
theorem wd_478 : (Jvm.Cond.code ({ cls := "GoneIntoItsTunnel", name := "sew", desc := "()I" } : Jvm.MethodName) prog_1_method_9_code (1 : Nat) (Option.some Jvm.ClassFile.FieldType.int)) ∈ TBg := tb_2 238 (by decide +kernel) rfl
theorem wd_479 : (Jvm.Cond.methodLink "GoneIntoItsTunnelLaw" (49 : Nat) ({ cls := "GoneIntoItsTunnel", name := "set", desc := "(II)I" } : Jvm.MethodName)) ∈ TBg := tb_2 239 (by decide +kernel) rfl
theorem wd_480 : (Jvm.Cond.instanceMethod ({ cls := "GoneIntoItsTunnel", name := "set", desc := "(II)I" } : Jvm.MethodName)) ∈ TBg := tb_3 0 (by decide +kernel) rfl
theorem wd_481 : (Jvm.Cond.selects "GoneIntoItsTunnel" ({ cls := "GoneIntoItsTunnel", name := "set", desc := "(II)I" } : Jvm.MethodName) ({ cls := "GoneIntoItsTunnel", name := "set", desc := "(II)I" } : Jvm.MethodName)) ∈ TBg := tb_3 1 (by decide +kernel) rfl
theorem wd_482 : (Jvm.Cond.code ({ cls := "GoneIntoItsTunnel", name := "set", desc := "(II)I" } : Jvm.MethodName) prog_1_method_10_code (5 : Nat) (Option.some Jvm.ClassFile.FieldType.int)) ∈ TBg := tb_3 2 (by decide +kernel) rfl
theorem wd_483 : (Jvm.Cond.methodLink "GoneIntoItsTunnelLaw" (53 : Nat) ({ cls := "GoneIntoItsTunnel", name := "pull", desc := "(II)I" } : Jvm.MethodName)) ∈ TBg := tb_3 3 (by decide +kernel) rfl
theorem wd_484 : (Jvm.Cond.instanceMethod ({ cls := "GoneIntoItsTunnel", name := "pull", desc := "(II)I" } : Jvm.MethodName)) ∈ TBg := tb_3 4 (by decide +kernel) rfl
theorem wd_485 : (Jvm.Cond.selects "GoneIntoItsTunnel" ({ cls := "GoneIntoItsTunnel", name := "pull", desc := "(II)I" } : Jvm.MethodName) ({ cls := "GoneIntoItsTunnel", name := "pull", desc := "(II)I" } : Jvm.MethodName)) ∈ TBg := tb_3 5 (by decide +kernel) rfl
theorem wd_486 : (Jvm.Cond.code ({ cls := "GoneIntoItsTunnel", name := "pull", desc := "(II)I" } : Jvm.MethodName) prog_1_method_11_code (4 : Nat) (Option.some Jvm.ClassFile.FieldType.int)) ∈ TBg := tb_3 6 (by decide +kernel) rfl
theorem wd_487 : (Jvm.Cond.methodLink "GoneIntoItsTunnel" (148 : Nat) ({ cls := "GoneIntoItsTunnel$Hem", name := "draw", desc := "(II)I" } : Jvm.MethodName)) ∈ TBg := tb_3 7 (by decide +kernel) rfl
theorem wd_488 : (Jvm.Cond.methodLink "GoneIntoItsTunnelLaw" (57 : Nat) ({ cls := "GoneIntoItsTunnel", name := "bunch", desc := "(I)I" } : Jvm.MethodName)) ∈ TBg := tb_3 8 (by decide +kernel) rfl
theorem wd_489 : (Jvm.Cond.instanceMethod ({ cls := "GoneIntoItsTunnel", name := "bunch", desc := "(I)I" } : Jvm.MethodName)) ∈ TBg := tb_3 9 (by decide +kernel) rfl
theorem wd_490 : (Jvm.Cond.selects "GoneIntoItsTunnel" ({ cls := "GoneIntoItsTunnel", name := "bunch", desc := "(I)I" } : Jvm.MethodName) ({ cls := "GoneIntoItsTunnel", name := "bunch", desc := "(I)I" } : Jvm.MethodName)) ∈ TBg := tb_3 10 (by decide +kernel) rfl
theorem wd_491 : (Jvm.Cond.code ({ cls := "GoneIntoItsTunnel", name := "bunch", desc := "(I)I" } : Jvm.MethodName) prog_1_method_12_code (3 : Nat) (Option.some Jvm.ClassFile.FieldType.int)) ∈ TBg := tb_3 11 (by decide +kernel) rfl
theorem wd_492 : (Jvm.Cond.methodLink "GoneIntoItsTunnel" (152 : Nat) ({ cls := "GoneIntoItsTunnel$Hem", name := "isLost", desc := "(I)Z" } : Jvm.MethodName)) ∈ TBg := tb_3 12 (by decide +kernel) rfl
theorem wd_493 : (Jvm.Cond.instanceMethod ({ cls := "GoneIntoItsTunnel$Hem", name := "isLost", desc := "(I)Z" } : Jvm.MethodName)) ∈ TBg := tb_3 13 (by decide +kernel) rfl
theorem wd_494 : (Jvm.Cond.selects "GoneIntoItsTunnel$Hem" ({ cls := "GoneIntoItsTunnel$Hem", name := "isLost", desc := "(I)Z" } : Jvm.MethodName) ({ cls := "GoneIntoItsTunnel$Hem", name := "isLost", desc := "(I)Z" } : Jvm.MethodName)) ∈ TBg := tb_3 14 (by decide +kernel) rfl
theorem wd_495 : (Jvm.Cond.code ({ cls := "GoneIntoItsTunnel$Hem", name := "isLost", desc := "(I)Z" } : Jvm.MethodName) prog_2_method_19_code (2 : Nat) (Option.some Jvm.ClassFile.FieldType.boolean)) ∈ TBg := tb_3 15 (by decide +kernel) rfl
theorem wd_496 : (Jvm.Cond.methodLink "GoneIntoItsTunnel" (155 : Nat) ({ cls := "GoneIntoItsTunnel$Hem", name := "inchAt", desc := "(II)I" } : Jvm.MethodName)) ∈ TBg := tb_3 16 (by decide +kernel) rfl
theorem wd_497 : (Jvm.Cond.methodLink "GoneIntoItsTunnel" (158 : Nat) ({ cls := "java/lang/Math", name := "max", desc := "(II)I" } : Jvm.MethodName)) ∈ TBg := tb_3 17 (by decide +kernel) rfl
theorem wd_498 : (Jvm.Cond.methodLink "GoneIntoItsTunnelLaw" (61 : Nat) ({ cls := "GoneIntoItsTunnel", name := "anew", desc := "()I" } : Jvm.MethodName)) ∈ TBg := tb_3 18 (by decide +kernel) rfl
theorem wd_499 : (Jvm.Cond.instanceMethod ({ cls := "GoneIntoItsTunnel", name := "anew", desc := "()I" } : Jvm.MethodName)) ∈ TBg := tb_3 19 (by decide +kernel) rfl
theorem wd_500 : (Jvm.Cond.selects "GoneIntoItsTunnel" ({ cls := "GoneIntoItsTunnel", name := "anew", desc := "()I" } : Jvm.MethodName) ({ cls := "GoneIntoItsTunnel", name := "anew", desc := "()I" } : Jvm.MethodName)) ∈ TBg := tb_3 20 (by decide +kernel) rfl
theorem wd_501 : (Jvm.Cond.code ({ cls := "GoneIntoItsTunnel", name := "anew", desc := "()I" } : Jvm.MethodName) prog_1_method_13_code (1 : Nat) (Option.some Jvm.ClassFile.FieldType.int)) ∈ TBg := tb_3 21 (by decide +kernel) rfl
theorem wd_502 : (Jvm.Cond.methodLink "GoneIntoItsTunnel" (163 : Nat) ({ cls := "GoneIntoItsTunnel$Hem", name := "threadAnew", desc := "()V" } : Jvm.MethodName)) ∈ TBg := tb_3 22 (by decide +kernel) rfl
theorem wd_503 : (Jvm.Cond.instanceMethod ({ cls := "GoneIntoItsTunnel$Hem", name := "threadAnew", desc := "()V" } : Jvm.MethodName)) ∈ TBg := tb_3 23 (by decide +kernel) rfl
theorem wd_504 : (Jvm.Cond.selects "GoneIntoItsTunnel$Hem" ({ cls := "GoneIntoItsTunnel$Hem", name := "threadAnew", desc := "()V" } : Jvm.MethodName) ({ cls := "GoneIntoItsTunnel$Hem", name := "threadAnew", desc := "()V" } : Jvm.MethodName)) ∈ TBg := tb_3 24 (by decide +kernel) rfl
theorem wd_505 : (Jvm.Cond.code ({ cls := "GoneIntoItsTunnel$Hem", name := "threadAnew", desc := "()V" } : Jvm.MethodName) prog_2_method_14_code (1 : Nat) (Option.none : Option Jvm.ClassFile.FieldType)) ∈ TBg := tb_3 25 (by decide +kernel) rfl
theorem wd_506 : (Jvm.Cond.methodLink "GoneIntoItsTunnel" (166 : Nat) ({ cls := "GoneIntoItsTunnel$Hem", name := "secondsAnew", desc := "(I)I" } : Jvm.MethodName)) ∈ TBg := tb_3 26 (by decide +kernel) rfl
theorem wd_507 : (Jvm.Cond.instanceMethod ({ cls := "GoneIntoItsTunnel$Hem", name := "secondsAnew", desc := "(I)I" } : Jvm.MethodName)) ∈ TBg := tb_3 27 (by decide +kernel) rfl
theorem wd_508 : (Jvm.Cond.selects "GoneIntoItsTunnel$Hem" ({ cls := "GoneIntoItsTunnel$Hem", name := "secondsAnew", desc := "(I)I" } : Jvm.MethodName) ({ cls := "GoneIntoItsTunnel$Hem", name := "secondsAnew", desc := "(I)I" } : Jvm.MethodName)) ∈ TBg := tb_3 28 (by decide +kernel) rfl
theorem wd_509 : (Jvm.Cond.code ({ cls := "GoneIntoItsTunnel$Hem", name := "secondsAnew", desc := "(I)I" } : Jvm.MethodName) prog_2_method_13_code (4 : Nat) (Option.some Jvm.ClassFile.FieldType.int)) ∈ TBg := tb_3 29 (by decide +kernel) rfl
theorem wd_510 : (Jvm.Cond.methodLink "GoneIntoItsTunnel$Hem" (76 : Nat) ({ cls := "GoneIntoItsTunnel$Hem", name := "secondsAnewOf", desc := "(II)I" } : Jvm.MethodName)) ∈ TBg := tb_3 30 (by decide +kernel) rfl
theorem wd_511 : (Jvm.Cond.instanceMethod ({ cls := "GoneIntoItsTunnel$Hem", name := "secondsAnewOf", desc := "(II)I" } : Jvm.MethodName)) ∈ TBg := tb_3 31 (by decide +kernel) rfl
theorem wd_512 : (Jvm.Cond.selects "GoneIntoItsTunnel$Hem" ({ cls := "GoneIntoItsTunnel$Hem", name := "secondsAnewOf", desc := "(II)I" } : Jvm.MethodName) ({ cls := "GoneIntoItsTunnel$Hem", name := "secondsAnewOf", desc := "(II)I" } : Jvm.MethodName)) ∈ TBg := tb_3 32 (by decide +kernel) rfl
theorem wd_513 : (Jvm.Cond.code ({ cls := "GoneIntoItsTunnel$Hem", name := "secondsAnewOf", desc := "(II)I" } : Jvm.MethodName) prog_2_method_12_code (3 : Nat) (Option.some Jvm.ClassFile.FieldType.int)) ∈ TBg := tb_3 33 (by decide +kernel) rfl
theorem wd_514 : (Jvm.Cond.methodLink "GoneIntoItsTunnel$Hem" (74 : Nat) ({ cls := "GoneIntoItsTunnel$Hem", name := "threadSeconds", desc := "(I)I" } : Jvm.MethodName)) ∈ TBg := tb_3 34 (by decide +kernel) rfl
theorem wd_515 : (Jvm.Cond.methodLink "GoneIntoItsTunnel$Hem" (70 : Nat) ({ cls := "GoneIntoItsTunnel$Kind", name := "isSeam", desc := "(I)Z" } : Jvm.MethodName)) ∈ TBg := tb_3 35 (by decide +kernel) rfl
theorem wd_516 : (Jvm.Cond.static ({ cls := "GoneIntoItsTunnel$Kind", name := "isSeam", desc := "(I)Z" } : Jvm.MethodName)) ∈ TBg := tb_3 36 (by decide +kernel) rfl
theorem wd_517 : (Jvm.Cond.code ({ cls := "GoneIntoItsTunnel$Kind", name := "isSeam", desc := "(I)Z" } : Jvm.MethodName) prog_3_method_4_code (1 : Nat) (Option.some Jvm.ClassFile.FieldType.boolean)) ∈ TBg := tb_3 37 (by decide +kernel) rfl
theorem wd_518 : (Jvm.Cond.methodLink "GoneIntoItsTunnelLaw" (65 : Nat) ({ cls := "GoneIntoItsTunnel", name := "wash", desc := "(I)I" } : Jvm.MethodName)) ∈ TBg := tb_3 38 (by decide +kernel) rfl
theorem wd_519 : (Jvm.Cond.instanceMethod ({ cls := "GoneIntoItsTunnel", name := "wash", desc := "(I)I" } : Jvm.MethodName)) ∈ TBg := tb_3 39 (by decide +kernel) rfl
theorem wd_520 : (Jvm.Cond.selects "GoneIntoItsTunnel" ({ cls := "GoneIntoItsTunnel", name := "wash", desc := "(I)I" } : Jvm.MethodName) ({ cls := "GoneIntoItsTunnel", name := "wash", desc := "(I)I" } : Jvm.MethodName)) ∈ TBg := tb_3 40 (by decide +kernel) rfl
theorem wd_521 : (Jvm.Cond.code ({ cls := "GoneIntoItsTunnel", name := "wash", desc := "(I)I" } : Jvm.MethodName) prog_1_method_14_code (3 : Nat) (Option.some Jvm.ClassFile.FieldType.int)) ∈ TBg := tb_3 41 (by decide +kernel) rfl
theorem wd_522 : (Jvm.Cond.methodLink "GoneIntoItsTunnel" (172 : Nat) ({ cls := "GoneIntoItsTunnel$Hem", name := "lostEnds", desc := "()I" } : Jvm.MethodName)) ∈ TBg := tb_3 42 (by decide +kernel) rfl
theorem wd_523 : (Jvm.Cond.instanceMethod ({ cls := "GoneIntoItsTunnel$Hem", name := "lostEnds", desc := "()I" } : Jvm.MethodName)) ∈ TBg := tb_3 43 (by decide +kernel) rfl
theorem wd_524 : (Jvm.Cond.selects "GoneIntoItsTunnel$Hem" ({ cls := "GoneIntoItsTunnel$Hem", name := "lostEnds", desc := "()I" } : Jvm.MethodName) ({ cls := "GoneIntoItsTunnel$Hem", name := "lostEnds", desc := "()I" } : Jvm.MethodName)) ∈ TBg := tb_3 44 (by decide +kernel) rfl
theorem wd_525 : (Jvm.Cond.code ({ cls := "GoneIntoItsTunnel$Hem", name := "lostEnds", desc := "()I" } : Jvm.MethodName) prog_2_method_20_code (1 : Nat) (Option.some Jvm.ClassFile.FieldType.int)) ∈ TBg := tb_3 45 (by decide +kernel) rfl
theorem wd_526 : (Jvm.Cond.methodLink "GoneIntoItsTunnel$Hem" (82 : Nat) ({ cls := "GoneIntoItsTunnel$Hem", name := "isLost", desc := "(I)Z" } : Jvm.MethodName)) ∈ TBg := tb_3 46 (by decide +kernel) rfl
theorem wd_527 : (Jvm.Cond.methodLink "GoneIntoItsTunnelLaw" (69 : Nat) ({ cls := "GoneIntoItsTunnel", name := "of", desc := "(II)I" } : Jvm.MethodName)) ∈ TBg := tb_3 47 (by decide +kernel) rfl
theorem wd_528 : (Jvm.Cond.instanceMethod ({ cls := "GoneIntoItsTunnel", name := "of", desc := "(II)I" } : Jvm.MethodName)) ∈ TBg := tb_3 48 (by decide +kernel) rfl
theorem wd_529 : (Jvm.Cond.selects "GoneIntoItsTunnel" ({ cls := "GoneIntoItsTunnel", name := "of", desc := "(II)I" } : Jvm.MethodName) ({ cls := "GoneIntoItsTunnel", name := "of", desc := "(II)I" } : Jvm.MethodName)) ∈ TBg := tb_3 49 (by decide +kernel) rfl
theorem wd_530 : (Jvm.Cond.code ({ cls := "GoneIntoItsTunnel", name := "of", desc := "(II)I" } : Jvm.MethodName) prog_1_method_15_code (4 : Nat) (Option.some Jvm.ClassFile.FieldType.int)) ∈ TBg := tb_3 50 (by decide +kernel) rfl
theorem wd_531 : (Jvm.Cond.methodLink "GoneIntoItsTunnelLaw" (73 : Nat) ({ cls := "GoneIntoItsTunnel", name := "out", desc := "(II)I" } : Jvm.MethodName)) ∈ TBg := tb_3 51 (by decide +kernel) rfl
theorem wd_532 : (Jvm.Cond.instanceMethod ({ cls := "GoneIntoItsTunnel", name := "out", desc := "(II)I" } : Jvm.MethodName)) ∈ TBg := tb_3 52 (by decide +kernel) rfl
theorem wd_533 : (Jvm.Cond.selects "GoneIntoItsTunnel" ({ cls := "GoneIntoItsTunnel", name := "out", desc := "(II)I" } : Jvm.MethodName) ({ cls := "GoneIntoItsTunnel", name := "out", desc := "(II)I" } : Jvm.MethodName)) ∈ TBg := tb_3 53 (by decide +kernel) rfl
theorem wd_534 : (Jvm.Cond.code ({ cls := "GoneIntoItsTunnel", name := "out", desc := "(II)I" } : Jvm.MethodName) prog_1_method_16_code (3 : Nat) (Option.some Jvm.ClassFile.FieldType.int)) ∈ TBg := tb_3 54 (by decide +kernel) rfl
theorem wd_535 : (Jvm.Cond.methodLink "GoneIntoItsTunnel" (175 : Nat) ({ cls := "GoneIntoItsTunnel$Way", name := "measure", desc := "(LGoneIntoItsTunnel$Hem;II)V" } : Jvm.MethodName)) ∈ TBg := tb_3 55 (by decide +kernel) rfl
theorem wd_536 : (Jvm.Cond.instanceMethod ({ cls := "GoneIntoItsTunnel$Way", name := "measure", desc := "(LGoneIntoItsTunnel$Hem;II)V" } : Jvm.MethodName)) ∈ TBg := tb_3 56 (by decide +kernel) rfl
theorem wd_537 : (Jvm.Cond.selects "GoneIntoItsTunnel$Way" ({ cls := "GoneIntoItsTunnel$Way", name := "measure", desc := "(LGoneIntoItsTunnel$Hem;II)V" } : Jvm.MethodName) ({ cls := "GoneIntoItsTunnel$Way", name := "measure", desc := "(LGoneIntoItsTunnel$Hem;II)V" } : Jvm.MethodName)) ∈ TBg := tb_3 57 (by decide +kernel) rfl
theorem wd_538 : (Jvm.Cond.code ({ cls := "GoneIntoItsTunnel$Way", name := "measure", desc := "(LGoneIntoItsTunnel$Hem;II)V" } : Jvm.MethodName) prog_7_method_2_code (11 : Nat) (Option.none : Option Jvm.ClassFile.FieldType)) ∈ TBg := tb_3 58 (by decide +kernel) rfl
theorem wd_539 : (Jvm.Cond.methodLink "GoneIntoItsTunnel$Way" (21 : Nat) ({ cls := "GoneIntoItsTunnel$Hem", name := "inchAt", desc := "(II)I" } : Jvm.MethodName)) ∈ TBg := tb_3 59 (by decide +kernel) rfl
theorem wd_540 : (Jvm.Cond.methodLink "GoneIntoItsTunnel$Way" (27 : Nat) ({ cls := "GoneIntoItsTunnel$Hem", name := "bunchMove", desc := "(I)I" } : Jvm.MethodName)) ∈ TBg := tb_3 60 (by decide +kernel) rfl
theorem wd_541 : (Jvm.Cond.methodLink "GoneIntoItsTunnel$Way" (31 : Nat) ({ cls := "GoneIntoItsTunnel$Way", name := "neverIsOut", desc := "()V" } : Jvm.MethodName)) ∈ TBg := tb_3 61 (by decide +kernel) rfl
theorem wd_543 : (Jvm.Cond.instanceMethod ({ cls := "GoneIntoItsTunnel$Way", name := "neverIsOut", desc := "()V" } : Jvm.MethodName)) ∈ TBg := tb_3 63 (by decide +kernel) rfl
theorem wd_544 : (Jvm.Cond.code ({ cls := "GoneIntoItsTunnel$Way", name := "neverIsOut", desc := "()V" } : Jvm.MethodName) prog_7_method_3_code (1 : Nat) (Option.none : Option Jvm.ClassFile.FieldType)) ∈ TBg := tb_3 64 (by decide +kernel) rfl
theorem wd_545 : (Jvm.Cond.methodLink "GoneIntoItsTunnel$Way" (34 : Nat) ({ cls := "GoneIntoItsTunnel$Hem", name := "bunchSeconds", desc := "(I)I" } : Jvm.MethodName)) ∈ TBg := tb_3 65 (by decide +kernel) rfl
theorem wd_546 : (Jvm.Cond.methodLink "GoneIntoItsTunnelLaw" (77 : Nat) ({ cls := "GoneIntoItsTunnel", name := "soonest", desc := "()I" } : Jvm.MethodName)) ∈ TBg := tb_3 66 (by decide +kernel) rfl
theorem wd_547 : (Jvm.Cond.instanceMethod ({ cls := "GoneIntoItsTunnel", name := "soonest", desc := "()I" } : Jvm.MethodName)) ∈ TBg := tb_3 67 (by decide +kernel) rfl
theorem wd_548 : (Jvm.Cond.selects "GoneIntoItsTunnel" ({ cls := "GoneIntoItsTunnel", name := "soonest", desc := "()I" } : Jvm.MethodName) ({ cls := "GoneIntoItsTunnel", name := "soonest", desc := "()I" } : Jvm.MethodName)) ∈ TBg := tb_3 68 (by decide +kernel) rfl
theorem wd_549 : (Jvm.Cond.code ({ cls := "GoneIntoItsTunnel", name := "soonest", desc := "()I" } : Jvm.MethodName) prog_1_method_17_code (3 : Nat) (Option.some Jvm.ClassFile.FieldType.int)) ∈ TBg := tb_3 69 (by decide +kernel) rfl
theorem wd_550 : (Jvm.Cond.methodLink "GoneIntoItsTunnel" (188 : Nat) ({ cls := "GoneIntoItsTunnel", name := "secondsIfLost", desc := "(I)I" } : Jvm.MethodName)) ∈ TBg := tb_3 70 (by decide +kernel) rfl
theorem wd_552 : (Jvm.Cond.instanceMethod ({ cls := "GoneIntoItsTunnel", name := "secondsIfLost", desc := "(I)I" } : Jvm.MethodName)) ∈ TBg := tb_3 72 (by decide +kernel) rfl
theorem wd_553 : (Jvm.Cond.code ({ cls := "GoneIntoItsTunnel", name := "secondsIfLost", desc := "(I)I" } : Jvm.MethodName) prog_1_method_46_code (2 : Nat) (Option.some Jvm.ClassFile.FieldType.int)) ∈ TBg := tb_3 73 (by decide +kernel) rfl
theorem wd_554 : (Jvm.Cond.methodLink "GoneIntoItsTunnelLaw" (81 : Nat) ({ cls := "GoneIntoItsTunnel", name := "better", desc := "(I)I" } : Jvm.MethodName)) ∈ TBg := tb_3 74 (by decide +kernel) rfl
theorem wd_555 : (Jvm.Cond.instanceMethod ({ cls := "GoneIntoItsTunnel", name := "better", desc := "(I)I" } : Jvm.MethodName)) ∈ TBg := tb_3 75 (by decide +kernel) rfl
theorem wd_556 : (Jvm.Cond.selects "GoneIntoItsTunnel" ({ cls := "GoneIntoItsTunnel", name := "better", desc := "(I)I" } : Jvm.MethodName) ({ cls := "GoneIntoItsTunnel", name := "better", desc := "(I)I" } : Jvm.MethodName)) ∈ TBg := tb_3 76 (by decide +kernel) rfl
theorem wd_557 : (Jvm.Cond.code ({ cls := "GoneIntoItsTunnel", name := "better", desc := "(I)I" } : Jvm.MethodName) prog_1_method_18_code (4 : Nat) (Option.some Jvm.ClassFile.FieldType.int)) ∈ TBg := tb_3 77 (by decide +kernel) rfl
theorem wd_558 : (Jvm.Cond.methodLink "GoneIntoItsTunnel" (191 : Nat) ({ cls := "GoneIntoItsTunnel$Way", name := "secondsOfAll", desc := "(LGoneIntoItsTunnel$Hem;)I" } : Jvm.MethodName)) ∈ TBg := tb_3 78 (by decide +kernel) rfl
theorem wd_559 : (Jvm.Cond.instanceMethod ({ cls := "GoneIntoItsTunnel$Way", name := "secondsOfAll", desc := "(LGoneIntoItsTunnel$Hem;)I" } : Jvm.MethodName)) ∈ TBg := tb_3 79 (by decide +kernel) rfl
theorem wd_560 : (Jvm.Cond.selects "GoneIntoItsTunnel$Way" ({ cls := "GoneIntoItsTunnel$Way", name := "secondsOfAll", desc := "(LGoneIntoItsTunnel$Hem;)I" } : Jvm.MethodName) ({ cls := "GoneIntoItsTunnel$Way", name := "secondsOfAll", desc := "(LGoneIntoItsTunnel$Hem;)I" } : Jvm.MethodName)) ∈ TBg := tb_3 80 (by decide +kernel) rfl
theorem wd_561 : (Jvm.Cond.code ({ cls := "GoneIntoItsTunnel$Way", name := "secondsOfAll", desc := "(LGoneIntoItsTunnel$Hem;)I" } : Jvm.MethodName) prog_7_method_6_code (4 : Nat) (Option.some Jvm.ClassFile.FieldType.int)) ∈ TBg := tb_3 81 (by decide +kernel) rfl
theorem wd_562 : (Jvm.Cond.methodLink "GoneIntoItsTunnel$Way" (42 : Nat) ({ cls := "GoneIntoItsTunnel$Hem", name := "depth", desc := "(I)I" } : Jvm.MethodName)) ∈ TBg := tb_3 82 (by decide +kernel) rfl
theorem wd_563 : (Jvm.Cond.methodLink "GoneIntoItsTunnel$Way" (45 : Nat) ({ cls := "GoneIntoItsTunnel$Way", name := "measure", desc := "(LGoneIntoItsTunnel$Hem;II)V" } : Jvm.MethodName)) ∈ TBg := tb_3 83 (by decide +kernel) rfl
theorem wd_564 : (Jvm.Cond.methodLink "GoneIntoItsTunnel$Way" (37 : Nat) ({ cls := "GoneIntoItsTunnel$Way", name := "isAWay", desc := "()Z" } : Jvm.MethodName)) ∈ TBg := tb_3 84 (by decide +kernel) rfl
theorem wd_565 : (Jvm.Cond.instanceMethod ({ cls := "GoneIntoItsTunnel$Way", name := "isAWay", desc := "()Z" } : Jvm.MethodName)) ∈ TBg := tb_3 85 (by decide +kernel) rfl
theorem wd_566 : (Jvm.Cond.selects "GoneIntoItsTunnel$Way" ({ cls := "GoneIntoItsTunnel$Way", name := "isAWay", desc := "()Z" } : Jvm.MethodName) ({ cls := "GoneIntoItsTunnel$Way", name := "isAWay", desc := "()Z" } : Jvm.MethodName)) ∈ TBg := tb_3 86 (by decide +kernel) rfl
theorem wd_567 : (Jvm.Cond.code ({ cls := "GoneIntoItsTunnel$Way", name := "isAWay", desc := "()Z" } : Jvm.MethodName) prog_7_method_4_code (1 : Nat) (Option.some Jvm.ClassFile.FieldType.boolean)) ∈ TBg := tb_3 87 (by decide +kernel) rfl
theorem wd_568 : (Jvm.Cond.methodLink "GoneIntoItsTunnelLaw" (85 : Nat) ({ cls := "GoneIntoItsTunnel", name := "inIn", desc := "(II)I" } : Jvm.MethodName)) ∈ TBg := tb_3 88 (by decide +kernel) rfl
theorem wd_569 : (Jvm.Cond.instanceMethod ({ cls := "GoneIntoItsTunnel", name := "inIn", desc := "(II)I" } : Jvm.MethodName)) ∈ TBg := tb_3 89 (by decide +kernel) rfl
theorem wd_570 : (Jvm.Cond.selects "GoneIntoItsTunnel" ({ cls := "GoneIntoItsTunnel", name := "inIn", desc := "(II)I" } : Jvm.MethodName) ({ cls := "GoneIntoItsTunnel", name := "inIn", desc := "(II)I" } : Jvm.MethodName)) ∈ TBg := tb_3 90 (by decide +kernel) rfl
theorem wd_571 : (Jvm.Cond.code ({ cls := "GoneIntoItsTunnel", name := "inIn", desc := "(II)I" } : Jvm.MethodName) prog_1_method_19_code (4 : Nat) (Option.some Jvm.ClassFile.FieldType.int)) ∈ TBg := tb_3 91 (by decide +kernel) rfl
theorem wd_572 : (Jvm.Cond.methodLink "GoneIntoItsTunnelLaw" (89 : Nat) ({ cls := "GoneIntoItsTunnel", name := "lost", desc := "(I)I" } : Jvm.MethodName)) ∈ TBg := tb_3 92 (by decide +kernel) rfl
theorem wd_573 : (Jvm.Cond.instanceMethod ({ cls := "GoneIntoItsTunnel", name := "lost", desc := "(I)I" } : Jvm.MethodName)) ∈ TBg := tb_3 93 (by decide +kernel) rfl
theorem wd_574 : (Jvm.Cond.selects "GoneIntoItsTunnel" ({ cls := "GoneIntoItsTunnel", name := "lost", desc := "(I)I" } : Jvm.MethodName) ({ cls := "GoneIntoItsTunnel", name := "lost", desc := "(I)I" } : Jvm.MethodName)) ∈ TBg := tb_3 94 (by decide +kernel) rfl
theorem wd_575 : (Jvm.Cond.code ({ cls := "GoneIntoItsTunnel", name := "lost", desc := "(I)I" } : Jvm.MethodName) prog_1_method_20_code (3 : Nat) (Option.some Jvm.ClassFile.FieldType.int)) ∈ TBg := tb_3 95 (by decide +kernel) rfl
theorem wd_576 : (Jvm.Cond.methodLink "GoneIntoItsTunnel" (199 : Nat) ({ cls := "GoneIntoItsTunnel", name := "washesTillLost", desc := "()I" } : Jvm.MethodName)) ∈ TBg := tb_3 96 (by decide +kernel) rfl
theorem wd_578 : (Jvm.Cond.instanceMethod ({ cls := "GoneIntoItsTunnel", name := "washesTillLost", desc := "()I" } : Jvm.MethodName)) ∈ TBg := tb_3 98 (by decide +kernel) rfl
theorem wd_579 : (Jvm.Cond.code ({ cls := "GoneIntoItsTunnel", name := "washesTillLost", desc := "()I" } : Jvm.MethodName) prog_1_method_47_code (2 : Nat) (Option.some Jvm.ClassFile.FieldType.int)) ∈ TBg := tb_3 99 (by decide +kernel) rfl
theorem wd_580 : (Jvm.Cond.methodLink "GoneIntoItsTunnel" (202 : Nat) ({ cls := "GoneIntoItsTunnel$Hem", name := "washOnce", desc := "()I" } : Jvm.MethodName)) ∈ TBg := tb_3 100 (by decide +kernel) rfl
theorem wd_581 : (Jvm.Cond.methodLink "GoneIntoItsTunnelLaw" (93 : Nat) ({ cls := "GoneIntoItsTunnel", name := "still", desc := "()I" } : Jvm.MethodName)) ∈ TBg := tb_3 101 (by decide +kernel) rfl
theorem wd_582 : (Jvm.Cond.instanceMethod ({ cls := "GoneIntoItsTunnel", name := "still", desc := "()I" } : Jvm.MethodName)) ∈ TBg := tb_3 102 (by decide +kernel) rfl
theorem wd_583 : (Jvm.Cond.selects "GoneIntoItsTunnel" ({ cls := "GoneIntoItsTunnel", name := "still", desc := "()I" } : Jvm.MethodName) ({ cls := "GoneIntoItsTunnel", name := "still", desc := "()I" } : Jvm.MethodName)) ∈ TBg := tb_3 103 (by decide +kernel) rfl
theorem wd_584 : (Jvm.Cond.code ({ cls := "GoneIntoItsTunnel", name := "still", desc := "()I" } : Jvm.MethodName) prog_1_method_21_code (2 : Nat) (Option.some Jvm.ClassFile.FieldType.int)) ∈ TBg := tb_3 104 (by decide +kernel) rfl
theorem wd_585 : (Jvm.Cond.methodLink "GoneIntoItsTunnelLaw" (97 : Nat) ({ cls := "GoneIntoItsTunnel", name := "keep", desc := "(I)I" } : Jvm.MethodName)) ∈ TBg := tb_3 105 (by decide +kernel) rfl
theorem wd_586 : (Jvm.Cond.instanceMethod ({ cls := "GoneIntoItsTunnel", name := "keep", desc := "(I)I" } : Jvm.MethodName)) ∈ TBg := tb_3 106 (by decide +kernel) rfl
theorem wd_587 : (Jvm.Cond.selects "GoneIntoItsTunnel" ({ cls := "GoneIntoItsTunnel", name := "keep", desc := "(I)I" } : Jvm.MethodName) ({ cls := "GoneIntoItsTunnel", name := "keep", desc := "(I)I" } : Jvm.MethodName)) ∈ TBg := tb_3 107 (by decide +kernel) rfl
theorem wd_588 : (Jvm.Cond.code ({ cls := "GoneIntoItsTunnel", name := "keep", desc := "(I)I" } : Jvm.MethodName) prog_1_method_22_code (5 : Nat) (Option.some Jvm.ClassFile.FieldType.int)) ∈ TBg := tb_3 108 (by decide +kernel) rfl
theorem wd_589 : (Jvm.Cond.methodLink "GoneIntoItsTunnelLaw" (101 : Nat) ({ cls := "GoneIntoItsTunnel", name := "deep", desc := "(II)I" } : Jvm.MethodName)) ∈ TBg := tb_3 109 (by decide +kernel) rfl
theorem wd_590 : (Jvm.Cond.instanceMethod ({ cls := "GoneIntoItsTunnel", name := "deep", desc := "(II)I" } : Jvm.MethodName)) ∈ TBg := tb_3 110 (by decide +kernel) rfl
theorem wd_591 : (Jvm.Cond.selects "GoneIntoItsTunnel" ({ cls := "GoneIntoItsTunnel", name := "deep", desc := "(II)I" } : Jvm.MethodName) ({ cls := "GoneIntoItsTunnel", name := "deep", desc := "(II)I" } : Jvm.MethodName)) ∈ TBg := tb_3 111 (by decide +kernel) rfl
theorem wd_592 : (Jvm.Cond.code ({ cls := "GoneIntoItsTunnel", name := "deep", desc := "(II)I" } : Jvm.MethodName) prog_1_method_23_code (5 : Nat) (Option.some Jvm.ClassFile.FieldType.int)) ∈ TBg := tb_3 112 (by decide +kernel) rfl
theorem wd_593 : (Jvm.Cond.methodLink "GoneIntoItsTunnel" (205 : Nat) ({ cls := "GoneIntoItsTunnel$Way", name := "isAWay", desc := "()Z" } : Jvm.MethodName)) ∈ TBg := tb_3 113 (by decide +kernel) rfl
theorem wd_594 : (Jvm.Cond.methodLink "GoneIntoItsTunnelLaw" (105 : Nat) ({ cls := "GoneIntoItsTunnel", name := "stops", desc := "(II)I" } : Jvm.MethodName)) ∈ TBg := tb_3 114 (by decide +kernel) rfl
theorem wd_595 : (Jvm.Cond.instanceMethod ({ cls := "GoneIntoItsTunnel", name := "stops", desc := "(II)I" } : Jvm.MethodName)) ∈ TBg := tb_3 115 (by decide +kernel) rfl
theorem wd_596 : (Jvm.Cond.selects "GoneIntoItsTunnel" ({ cls := "GoneIntoItsTunnel", name := "stops", desc := "(II)I" } : Jvm.MethodName) ({ cls := "GoneIntoItsTunnel", name := "stops", desc := "(II)I" } : Jvm.MethodName)) ∈ TBg := tb_3 116 (by decide +kernel) rfl
theorem wd_597 : (Jvm.Cond.code ({ cls := "GoneIntoItsTunnel", name := "stops", desc := "(II)I" } : Jvm.MethodName) prog_1_method_24_code (8 : Nat) (Option.some Jvm.ClassFile.FieldType.int)) ∈ TBg := tb_3 117 (by decide +kernel) rfl
theorem wd_598 : (Jvm.Cond.methodLink "GoneIntoItsTunnel" (208 : Nat) ({ cls := "GoneIntoItsTunnel", name := "secondsWithStop", desc := "(II)I" } : Jvm.MethodName)) ∈ TBg := tb_3 118 (by decide +kernel) rfl
theorem wd_600 : (Jvm.Cond.instanceMethod ({ cls := "GoneIntoItsTunnel", name := "secondsWithStop", desc := "(II)I" } : Jvm.MethodName)) ∈ TBg := tb_3 120 (by decide +kernel) rfl
theorem wd_601 : (Jvm.Cond.code ({ cls := "GoneIntoItsTunnel", name := "secondsWithStop", desc := "(II)I" } : Jvm.MethodName) prog_1_method_48_code (4 : Nat) (Option.some Jvm.ClassFile.FieldType.int)) ∈ TBg := tb_3 121 (by decide +kernel) rfl
theorem wd_602 : (Jvm.Cond.methodLink "GoneIntoItsTunnel" (211 : Nat) ({ cls := "GoneIntoItsTunnel$Mending", name := "goOn", desc := "(LGoneIntoItsTunnel$Hem;LGoneIntoItsTunnel$Way;I)V" } : Jvm.MethodName)) ∈ TBg := tb_3 122 (by decide +kernel) rfl
theorem wd_603 : (Jvm.Cond.instanceMethod ({ cls := "GoneIntoItsTunnel$Mending", name := "goOn", desc := "(LGoneIntoItsTunnel$Hem;LGoneIntoItsTunnel$Way;I)V" } : Jvm.MethodName)) ∈ TBg := tb_3 123 (by decide +kernel) rfl
theorem wd_604 : (Jvm.Cond.selects "GoneIntoItsTunnel$Mending" ({ cls := "GoneIntoItsTunnel$Mending", name := "goOn", desc := "(LGoneIntoItsTunnel$Hem;LGoneIntoItsTunnel$Way;I)V" } : Jvm.MethodName) ({ cls := "GoneIntoItsTunnel$Mending", name := "goOn", desc := "(LGoneIntoItsTunnel$Hem;LGoneIntoItsTunnel$Way;I)V" } : Jvm.MethodName)) ∈ TBg := tb_3 124 (by decide +kernel) rfl
theorem wd_605 : (Jvm.Cond.code ({ cls := "GoneIntoItsTunnel$Mending", name := "goOn", desc := "(LGoneIntoItsTunnel$Hem;LGoneIntoItsTunnel$Way;I)V" } : Jvm.MethodName) prog_5_method_2_code (8 : Nat) (Option.none : Option Jvm.ClassFile.FieldType)) ∈ TBg := tb_3 125 (by decide +kernel) rfl
theorem wd_606 : (Jvm.Cond.methodLink "GoneIntoItsTunnel$Mending" (21 : Nat) ({ cls := "GoneIntoItsTunnel$Hem", name := "secondsAnew", desc := "(I)I" } : Jvm.MethodName)) ∈ TBg := tb_3 126 (by decide +kernel) rfl
theorem wd_607 : (Jvm.Cond.methodLink "GoneIntoItsTunnel$Mending" (25 : Nat) ({ cls := "GoneIntoItsTunnel$Hem", name := "washOnce", desc := "()I" } : Jvm.MethodName)) ∈ TBg := tb_3 127 (by decide +kernel) rfl
theorem wd_608 : (Jvm.Cond.methodLink "GoneIntoItsTunnel$Mending" (29 : Nat) ({ cls := "GoneIntoItsTunnel$Mending", name := "mend", desc := "(LGoneIntoItsTunnel$Hem;LGoneIntoItsTunnel$Way;II)V" } : Jvm.MethodName)) ∈ TBg := tb_3 128 (by decide +kernel) rfl
theorem wd_610 : (Jvm.Cond.instanceMethod ({ cls := "GoneIntoItsTunnel$Mending", name := "mend", desc := "(LGoneIntoItsTunnel$Hem;LGoneIntoItsTunnel$Way;II)V" } : Jvm.MethodName)) ∈ TBg := tb_3 130 (by decide +kernel) rfl
theorem wd_611 : (Jvm.Cond.code ({ cls := "GoneIntoItsTunnel$Mending", name := "mend", desc := "(LGoneIntoItsTunnel$Hem;LGoneIntoItsTunnel$Way;II)V" } : Jvm.MethodName) prog_5_method_3_code (5 : Nat) (Option.none : Option Jvm.ClassFile.FieldType)) ∈ TBg := tb_3 131 (by decide +kernel) rfl
theorem wd_612 : (Jvm.Cond.methodLink "GoneIntoItsTunnel$Mending" (33 : Nat) ({ cls := "GoneIntoItsTunnel$Hem", name := "isLost", desc := "(I)Z" } : Jvm.MethodName)) ∈ TBg := tb_3 132 (by decide +kernel) rfl
theorem wd_613 : (Jvm.Cond.methodLink "GoneIntoItsTunnel$Mending" (37 : Nat) ({ cls := "GoneIntoItsTunnel$Hem", name := "depth", desc := "(I)I" } : Jvm.MethodName)) ∈ TBg := tb_3 133 (by decide +kernel) rfl
theorem wd_614 : (Jvm.Cond.methodLink "GoneIntoItsTunnel$Mending" (40 : Nat) ({ cls := "GoneIntoItsTunnel$Way", name := "measure", desc := "(LGoneIntoItsTunnel$Hem;II)V" } : Jvm.MethodName)) ∈ TBg := tb_3 134 (by decide +kernel) rfl
theorem wd_615 : (Jvm.Cond.methodLink "GoneIntoItsTunnel$Mending" (46 : Nat) ({ cls := "GoneIntoItsTunnel$Way", name := "isAWay", desc := "()Z" } : Jvm.MethodName)) ∈ TBg := tb_3 135 (by decide +kernel) rfl
theorem wd_616 : (Jvm.Cond.methodLink "GoneIntoItsTunnel$Mending" (51 : Nat) ({ cls := "GoneIntoItsTunnel$Hem", name := "threadAnew", desc := "()V" } : Jvm.MethodName)) ∈ TBg := tb_3 136 (by decide +kernel) rfl
theorem wd_617 : (Jvm.Cond.methodLink "GoneIntoItsTunnel$Mending" (54 : Nat) ({ cls := "GoneIntoItsTunnel$Hem", name := "place", desc := "(II)V" } : Jvm.MethodName)) ∈ TBg := tb_3 137 (by decide +kernel) rfl
theorem wd_618 : (Jvm.Cond.methodLink "GoneIntoItsTunnelLaw" (109 : Nat) ({ cls := "GoneIntoItsTunnel", name := "care", desc := "(I)I" } : Jvm.MethodName)) ∈ TBg := tb_3 138 (by decide +kernel) rfl
theorem wd_619 : (Jvm.Cond.instanceMethod ({ cls := "GoneIntoItsTunnel", name := "care", desc := "(I)I" } : Jvm.MethodName)) ∈ TBg := tb_3 139 (by decide +kernel) rfl
theorem wd_620 : (Jvm.Cond.selects "GoneIntoItsTunnel" ({ cls := "GoneIntoItsTunnel", name := "care", desc := "(I)I" } : Jvm.MethodName) ({ cls := "GoneIntoItsTunnel", name := "care", desc := "(I)I" } : Jvm.MethodName)) ∈ TBg := tb_3 140 (by decide +kernel) rfl
theorem wd_621 : (Jvm.Cond.code ({ cls := "GoneIntoItsTunnel", name := "care", desc := "(I)I" } : Jvm.MethodName) prog_1_method_25_code (3 : Nat) (Option.some Jvm.ClassFile.FieldType.int)) ∈ TBg := tb_3 141 (by decide +kernel) rfl
theorem wd_622 : (Jvm.Cond.methodLink "GoneIntoItsTunnelLaw" (113 : Nat) ({ cls := "GoneIntoItsTunnel", name := "holdsUp", desc := "(I)I" } : Jvm.MethodName)) ∈ TBg := tb_3 142 (by decide +kernel) rfl
theorem wd_623 : (Jvm.Cond.instanceMethod ({ cls := "GoneIntoItsTunnel", name := "holdsUp", desc := "(I)I" } : Jvm.MethodName)) ∈ TBg := tb_3 143 (by decide +kernel) rfl
theorem wd_624 : (Jvm.Cond.selects "GoneIntoItsTunnel" ({ cls := "GoneIntoItsTunnel", name := "holdsUp", desc := "(I)I" } : Jvm.MethodName) ({ cls := "GoneIntoItsTunnel", name := "holdsUp", desc := "(I)I" } : Jvm.MethodName)) ∈ TBg := tb_3 144 (by decide +kernel) rfl
theorem wd_625 : (Jvm.Cond.code ({ cls := "GoneIntoItsTunnel", name := "holdsUp", desc := "(I)I" } : Jvm.MethodName) prog_1_method_26_code (6 : Nat) (Option.some Jvm.ClassFile.FieldType.int)) ∈ TBg := tb_3 145 (by decide +kernel) rfl
theorem wd_626 : (Jvm.Cond.methodLink "GoneIntoItsTunnel" (218 : Nat) ({ cls := "GoneIntoItsTunnel$Way", name := "rank", desc := "()I" } : Jvm.MethodName)) ∈ TBg := tb_3 146 (by decide +kernel) rfl
theorem wd_627 : (Jvm.Cond.instanceMethod ({ cls := "GoneIntoItsTunnel$Way", name := "rank", desc := "()I" } : Jvm.MethodName)) ∈ TBg := tb_3 147 (by decide +kernel) rfl
theorem wd_628 : (Jvm.Cond.selects "GoneIntoItsTunnel$Way" ({ cls := "GoneIntoItsTunnel$Way", name := "rank", desc := "()I" } : Jvm.MethodName) ({ cls := "GoneIntoItsTunnel$Way", name := "rank", desc := "()I" } : Jvm.MethodName)) ∈ TBg := tb_3 148 (by decide +kernel) rfl
theorem wd_629 : (Jvm.Cond.code ({ cls := "GoneIntoItsTunnel$Way", name := "rank", desc := "()I" } : Jvm.MethodName) prog_7_method_5_code (1 : Nat) (Option.some Jvm.ClassFile.FieldType.int)) ∈ TBg := tb_3 149 (by decide +kernel) rfl
theorem wd_630 : (Jvm.Cond.constant "GoneIntoItsTunnel$Way" (41 : Nat) (1000000 : Int32)) ∈ TBg := tb_3 150 (by decide +kernel) rfl
theorem wd_631 : (Jvm.Cond.methodLink "GoneIntoItsTunnel" (221 : Nat) ({ cls := "GoneIntoItsTunnel", name := "rankWithCloth", desc := "(II)I" } : Jvm.MethodName)) ∈ TBg := tb_3 151 (by decide +kernel) rfl
theorem wd_633 : (Jvm.Cond.instanceMethod ({ cls := "GoneIntoItsTunnel", name := "rankWithCloth", desc := "(II)I" } : Jvm.MethodName)) ∈ TBg := tb_3 153 (by decide +kernel) rfl
theorem wd_634 : (Jvm.Cond.code ({ cls := "GoneIntoItsTunnel", name := "rankWithCloth", desc := "(II)I" } : Jvm.MethodName) prog_1_method_49_code (3 : Nat) (Option.some Jvm.ClassFile.FieldType.int)) ∈ TBg := tb_3 154 (by decide +kernel) rfl
theorem wd_635 : (Jvm.Cond.methodLink "GoneIntoItsTunnelLaw" (117 : Nat) ({ cls := "GoneIntoItsTunnel", name := "middle", desc := "()I" } : Jvm.MethodName)) ∈ TBg := tb_3 155 (by decide +kernel) rfl
theorem wd_636 : (Jvm.Cond.instanceMethod ({ cls := "GoneIntoItsTunnel", name := "middle", desc := "()I" } : Jvm.MethodName)) ∈ TBg := tb_3 156 (by decide +kernel) rfl
theorem wd_637 : (Jvm.Cond.selects "GoneIntoItsTunnel" ({ cls := "GoneIntoItsTunnel", name := "middle", desc := "()I" } : Jvm.MethodName) ({ cls := "GoneIntoItsTunnel", name := "middle", desc := "()I" } : Jvm.MethodName)) ∈ TBg := tb_3 157 (by decide +kernel) rfl
theorem wd_638 : (Jvm.Cond.code ({ cls := "GoneIntoItsTunnel", name := "middle", desc := "()I" } : Jvm.MethodName) prog_1_method_27_code (4 : Nat) (Option.some Jvm.ClassFile.FieldType.int)) ∈ TBg := tb_3 158 (by decide +kernel) rfl
theorem wd_639 : (Jvm.Cond.methodLink "GoneIntoItsTunnel" (224 : Nat) ({ cls := "java/lang/Math", name := "abs", desc := "(I)I" } : Jvm.MethodName)) ∈ TBg := tb_3 159 (by decide +kernel) rfl
theorem wd_640 : (Jvm.Cond.static ({ cls := "java/lang/Math", name := "abs", desc := "(I)I" } : Jvm.MethodName)) ∈ TBg := tb_3 160 (by decide +kernel) rfl
theorem wd_642 : (Jvm.Cond.methodLink "GoneIntoItsTunnel" (227 : Nat) ({ cls := "GoneIntoItsTunnel$Hem", name := "canDraw", desc := "(II)I" } : Jvm.MethodName)) ∈ TBg := tb_3 162 (by decide +kernel) rfl
theorem wd_643 : (Jvm.Cond.methodLink "GoneIntoItsTunnelLaw" (121 : Nat) ({ cls := "GoneIntoItsTunnel", name := "cutOff", desc := "()I" } : Jvm.MethodName)) ∈ TBg := tb_3 163 (by decide +kernel) rfl
theorem wd_644 : (Jvm.Cond.instanceMethod ({ cls := "GoneIntoItsTunnel", name := "cutOff", desc := "()I" } : Jvm.MethodName)) ∈ TBg := tb_3 164 (by decide +kernel) rfl
theorem wd_645 : (Jvm.Cond.selects "GoneIntoItsTunnel" ({ cls := "GoneIntoItsTunnel", name := "cutOff", desc := "()I" } : Jvm.MethodName) ({ cls := "GoneIntoItsTunnel", name := "cutOff", desc := "()I" } : Jvm.MethodName)) ∈ TBg := tb_3 165 (by decide +kernel) rfl
theorem wd_646 : (Jvm.Cond.code ({ cls := "GoneIntoItsTunnel", name := "cutOff", desc := "()I" } : Jvm.MethodName) prog_1_method_28_code (1 : Nat) (Option.some Jvm.ClassFile.FieldType.int)) ∈ TBg := tb_3 166 (by decide +kernel) rfl
theorem wd_647 : (Jvm.Cond.methodLink "GoneIntoItsTunnelLaw" (125 : Nat) ({ cls := "GoneIntoItsTunnel", name := "bestPin", desc := "(I)I" } : Jvm.MethodName)) ∈ TBg := tb_3 167 (by decide +kernel) rfl
theorem wd_648 : (Jvm.Cond.instanceMethod ({ cls := "GoneIntoItsTunnel", name := "bestPin", desc := "(I)I" } : Jvm.MethodName)) ∈ TBg := tb_3 168 (by decide +kernel) rfl
theorem wd_649 : (Jvm.Cond.selects "GoneIntoItsTunnel" ({ cls := "GoneIntoItsTunnel", name := "bestPin", desc := "(I)I" } : Jvm.MethodName) ({ cls := "GoneIntoItsTunnel", name := "bestPin", desc := "(I)I" } : Jvm.MethodName)) ∈ TBg := tb_3 169 (by decide +kernel) rfl
theorem wd_650 : (Jvm.Cond.code ({ cls := "GoneIntoItsTunnel", name := "bestPin", desc := "(I)I" } : Jvm.MethodName) prog_1_method_29_code (4 : Nat) (Option.some Jvm.ClassFile.FieldType.int)) ∈ TBg := tb_3 170 (by decide +kernel) rfl
theorem wd_651 : (Jvm.Cond.methodLink "GoneIntoItsTunnelLaw" (129 : Nat) ({ cls := "GoneIntoItsTunnel", name := "worst", desc := "()I" } : Jvm.MethodName)) ∈ TBg := tb_3 171 (by decide +kernel) rfl
theorem wd_652 : (Jvm.Cond.instanceMethod ({ cls := "GoneIntoItsTunnel", name := "worst", desc := "()I" } : Jvm.MethodName)) ∈ TBg := tb_3 172 (by decide +kernel) rfl
theorem wd_653 : (Jvm.Cond.selects "GoneIntoItsTunnel" ({ cls := "GoneIntoItsTunnel", name := "worst", desc := "()I" } : Jvm.MethodName) ({ cls := "GoneIntoItsTunnel", name := "worst", desc := "()I" } : Jvm.MethodName)) ∈ TBg := tb_3 173 (by decide +kernel) rfl
theorem wd_654 : (Jvm.Cond.code ({ cls := "GoneIntoItsTunnel", name := "worst", desc := "()I" } : Jvm.MethodName) prog_1_method_30_code (3 : Nat) (Option.some Jvm.ClassFile.FieldType.int)) ∈ TBg := tb_3 174 (by decide +kernel) rfl
theorem wd_655 : (Jvm.Cond.methodLink "GoneIntoItsTunnel" (230 : Nat) ({ cls := "GoneIntoItsTunnel$Hem", name := "secondsAnewOf", desc := "(II)I" } : Jvm.MethodName)) ∈ TBg := tb_3 175 (by decide +kernel) rfl
theorem wd_656 : (Jvm.Cond.methodLink "GoneIntoItsTunnelLaw" (133 : Nat) ({ cls := "GoneIntoItsTunnel", name := "which", desc := "(II)I" } : Jvm.MethodName)) ∈ TBg := tb_3 176 (by decide +kernel) rfl
theorem wd_657 : (Jvm.Cond.instanceMethod ({ cls := "GoneIntoItsTunnel", name := "which", desc := "(II)I" } : Jvm.MethodName)) ∈ TBg := tb_3 177 (by decide +kernel) rfl
theorem wd_658 : (Jvm.Cond.selects "GoneIntoItsTunnel" ({ cls := "GoneIntoItsTunnel", name := "which", desc := "(II)I" } : Jvm.MethodName) ({ cls := "GoneIntoItsTunnel", name := "which", desc := "(II)I" } : Jvm.MethodName)) ∈ TBg := tb_3 178 (by decide +kernel) rfl
theorem wd_659 : (Jvm.Cond.code ({ cls := "GoneIntoItsTunnel", name := "which", desc := "(II)I" } : Jvm.MethodName) prog_1_method_31_code (3 : Nat) (Option.some Jvm.ClassFile.FieldType.int)) ∈ TBg := tb_3 179 (by decide +kernel) rfl
theorem wd_660 : (Jvm.Cond.methodLink "GoneIntoItsTunnel" (233 : Nat) ({ cls := "GoneIntoItsTunnel", name := "kindsByRow", desc := "(I)I" } : Jvm.MethodName)) ∈ TBg := tb_3 180 (by decide +kernel) rfl
theorem wd_662 : (Jvm.Cond.instanceMethod ({ cls := "GoneIntoItsTunnel", name := "kindsByRow", desc := "(I)I" } : Jvm.MethodName)) ∈ TBg := tb_3 182 (by decide +kernel) rfl
theorem wd_663 : (Jvm.Cond.code ({ cls := "GoneIntoItsTunnel", name := "kindsByRow", desc := "(I)I" } : Jvm.MethodName) prog_1_method_50_code (4 : Nat) (Option.some Jvm.ClassFile.FieldType.int)) ∈ TBg := tb_3 183 (by decide +kernel) rfl
theorem wd_664 : (Jvm.Cond.methodLink "GoneIntoItsTunnel" (242 : Nat) ({ cls := "GoneIntoItsTunnel$Row", name := "firstNotSo", desc := "(LGoneIntoItsTunnel$Hem;I)I" } : Jvm.MethodName)) ∈ TBg := tb_3 184 (by decide +kernel) rfl
theorem wd_665 : (Jvm.Cond.instanceMethod ({ cls := "GoneIntoItsTunnel$Row", name := "firstNotSo", desc := "(LGoneIntoItsTunnel$Hem;I)I" } : Jvm.MethodName)) ∈ TBg := tb_3 185 (by decide +kernel) rfl
theorem wd_666 : (Jvm.Cond.selects "GoneIntoItsTunnel$Row" ({ cls := "GoneIntoItsTunnel$Row", name := "firstNotSo", desc := "(LGoneIntoItsTunnel$Hem;I)I" } : Jvm.MethodName) ({ cls := "GoneIntoItsTunnel$Row", name := "firstNotSo", desc := "(LGoneIntoItsTunnel$Hem;I)I" } : Jvm.MethodName)) ∈ TBg := tb_3 186 (by decide +kernel) rfl
theorem wd_667 : (Jvm.Cond.code ({ cls := "GoneIntoItsTunnel$Row", name := "firstNotSo", desc := "(LGoneIntoItsTunnel$Hem;I)I" } : Jvm.MethodName) prog_6_method_5_code (4 : Nat) (Option.some Jvm.ClassFile.FieldType.int)) ∈ TBg := tb_3 187 (by decide +kernel) rfl
theorem wd_668 : (Jvm.Cond.methodLink "GoneIntoItsTunnel$Row" (19 : Nat) ({ cls := "GoneIntoItsTunnel$Hem", name := "depth", desc := "(I)I" } : Jvm.MethodName)) ∈ TBg := tb_3 188 (by decide +kernel) rfl
theorem wd_669 : (Jvm.Cond.methodLink "GoneIntoItsTunnel$Row" (25 : Nat) ({ cls := "GoneIntoItsTunnel$Hem", name := "washOnce", desc := "()I" } : Jvm.MethodName)) ∈ TBg := tb_3 189 (by decide +kernel) rfl
theorem wd_670 : (Jvm.Cond.methodLink "GoneIntoItsTunnel" (236 : Nat) ({ cls := "GoneIntoItsTunnel", name := "strengthsByRow", desc := "()I" } : Jvm.MethodName)) ∈ TBg := tb_3 190 (by decide +kernel) rfl
theorem wd_672 : (Jvm.Cond.instanceMethod ({ cls := "GoneIntoItsTunnel", name := "strengthsByRow", desc := "()I" } : Jvm.MethodName)) ∈ TBg := tb_3 192 (by decide +kernel) rfl
theorem wd_673 : (Jvm.Cond.code ({ cls := "GoneIntoItsTunnel", name := "strengthsByRow", desc := "()I" } : Jvm.MethodName) prog_1_method_51_code (3 : Nat) (Option.some Jvm.ClassFile.FieldType.int)) ∈ TBg := tb_3 193 (by decide +kernel) rfl
theorem wd_674 : (Jvm.Cond.methodLink "GoneIntoItsTunnelLaw" (137 : Nat) ({ cls := "GoneIntoItsTunnel", name := "row", desc := "(I)I" } : Jvm.MethodName)) ∈ TBg := tb_3 194 (by decide +kernel) rfl
theorem wd_675 : (Jvm.Cond.instanceMethod ({ cls := "GoneIntoItsTunnel", name := "row", desc := "(I)I" } : Jvm.MethodName)) ∈ TBg := tb_3 195 (by decide +kernel) rfl
theorem wd_676 : (Jvm.Cond.selects "GoneIntoItsTunnel" ({ cls := "GoneIntoItsTunnel", name := "row", desc := "(I)I" } : Jvm.MethodName) ({ cls := "GoneIntoItsTunnel", name := "row", desc := "(I)I" } : Jvm.MethodName)) ∈ TBg := tb_3 196 (by decide +kernel) rfl
theorem wd_677 : (Jvm.Cond.code ({ cls := "GoneIntoItsTunnel", name := "row", desc := "(I)I" } : Jvm.MethodName) prog_1_method_32_code (3 : Nat) (Option.some Jvm.ClassFile.FieldType.int)) ∈ TBg := tb_3 197 (by decide +kernel) rfl
theorem wd_678 : (Jvm.Cond.methodLink "GoneIntoItsTunnel" (239 : Nat) ({ cls := "GoneIntoItsTunnel$Row", name := "isFull", desc := "()Z" } : Jvm.MethodName)) ∈ TBg := tb_3 198 (by decide +kernel) rfl
theorem wd_679 : (Jvm.Cond.instanceMethod ({ cls := "GoneIntoItsTunnel$Row", name := "isFull", desc := "()Z" } : Jvm.MethodName)) ∈ TBg := tb_3 199 (by decide +kernel) rfl
theorem wd_680 : (Jvm.Cond.selects "GoneIntoItsTunnel$Row" ({ cls := "GoneIntoItsTunnel$Row", name := "isFull", desc := "()Z" } : Jvm.MethodName) ({ cls := "GoneIntoItsTunnel$Row", name := "isFull", desc := "()Z" } : Jvm.MethodName)) ∈ TBg := tb_3 200 (by decide +kernel) rfl
theorem wd_681 : (Jvm.Cond.code ({ cls := "GoneIntoItsTunnel$Row", name := "isFull", desc := "()Z" } : Jvm.MethodName) prog_6_method_2_code (1 : Nat) (Option.some Jvm.ClassFile.FieldType.boolean)) ∈ TBg := tb_3 201 (by decide +kernel) rfl
theorem wd_682 : (Jvm.Cond.methodLink "GoneIntoItsTunnel" (240 : Nat) ({ cls := "GoneIntoItsTunnel$Row", name := "add", desc := "(I)V" } : Jvm.MethodName)) ∈ TBg := tb_3 202 (by decide +kernel) rfl
theorem wd_683 : (Jvm.Cond.instanceMethod ({ cls := "GoneIntoItsTunnel$Row", name := "add", desc := "(I)V" } : Jvm.MethodName)) ∈ TBg := tb_3 203 (by decide +kernel) rfl
theorem wd_684 : (Jvm.Cond.selects "GoneIntoItsTunnel$Row" ({ cls := "GoneIntoItsTunnel$Row", name := "add", desc := "(I)V" } : Jvm.MethodName) ({ cls := "GoneIntoItsTunnel$Row", name := "add", desc := "(I)V" } : Jvm.MethodName)) ∈ TBg := tb_3 204 (by decide +kernel) rfl
theorem wd_685 : (Jvm.Cond.code ({ cls := "GoneIntoItsTunnel$Row", name := "add", desc := "(I)V" } : Jvm.MethodName) prog_6_method_3_code (2 : Nat) (Option.none : Option Jvm.ClassFile.FieldType)) ∈ TBg := tb_3 205 (by decide +kernel) rfl
theorem wd_686 : (Jvm.Cond.methodLink "GoneIntoItsTunnelLaw" (141 : Nat) ({ cls := "GoneIntoItsTunnel", name := "judge", desc := "(I)I" } : Jvm.MethodName)) ∈ TBg := tb_3 206 (by decide +kernel) rfl
theorem wd_687 : (Jvm.Cond.instanceMethod ({ cls := "GoneIntoItsTunnel", name := "judge", desc := "(I)I" } : Jvm.MethodName)) ∈ TBg := tb_3 207 (by decide +kernel) rfl
theorem wd_688 : (Jvm.Cond.selects "GoneIntoItsTunnel" ({ cls := "GoneIntoItsTunnel", name := "judge", desc := "(I)I" } : Jvm.MethodName) ({ cls := "GoneIntoItsTunnel", name := "judge", desc := "(I)I" } : Jvm.MethodName)) ∈ TBg := tb_3 208 (by decide +kernel) rfl
theorem wd_689 : (Jvm.Cond.code ({ cls := "GoneIntoItsTunnel", name := "judge", desc := "(I)I" } : Jvm.MethodName) prog_1_method_33_code (3 : Nat) (Option.some Jvm.ClassFile.FieldType.int)) ∈ TBg := tb_3 209 (by decide +kernel) rfl
theorem wd_690 : (Jvm.Cond.methodLink "GoneIntoItsTunnel" (246 : Nat) ({ cls := "GoneIntoItsTunnel$Row", name := "clear", desc := "()V" } : Jvm.MethodName)) ∈ TBg := tb_3 210 (by decide +kernel) rfl
theorem wd_691 : (Jvm.Cond.instanceMethod ({ cls := "GoneIntoItsTunnel$Row", name := "clear", desc := "()V" } : Jvm.MethodName)) ∈ TBg := tb_3 211 (by decide +kernel) rfl
theorem wd_692 : (Jvm.Cond.selects "GoneIntoItsTunnel$Row" ({ cls := "GoneIntoItsTunnel$Row", name := "clear", desc := "()V" } : Jvm.MethodName) ({ cls := "GoneIntoItsTunnel$Row", name := "clear", desc := "()V" } : Jvm.MethodName)) ∈ TBg := tb_3 212 (by decide +kernel) rfl
theorem wd_693 : (Jvm.Cond.code ({ cls := "GoneIntoItsTunnel$Row", name := "clear", desc := "()V" } : Jvm.MethodName) prog_6_method_4_code (1 : Nat) (Option.none : Option Jvm.ClassFile.FieldType)) ∈ TBg := tb_3 213 (by decide +kernel) rfl
theorem wd_694 : (Jvm.Cond.methodLink "GoneIntoItsTunnelLaw" (145 : Nat) ({ cls := "GoneIntoItsTunnel", name := "lots", desc := "(III)I" } : Jvm.MethodName)) ∈ TBg := tb_3 214 (by decide +kernel) rfl
theorem wd_695 : (Jvm.Cond.instanceMethod ({ cls := "GoneIntoItsTunnel", name := "lots", desc := "(III)I" } : Jvm.MethodName)) ∈ TBg := tb_3 215 (by decide +kernel) rfl
theorem wd_696 : (Jvm.Cond.selects "GoneIntoItsTunnel" ({ cls := "GoneIntoItsTunnel", name := "lots", desc := "(III)I" } : Jvm.MethodName) ({ cls := "GoneIntoItsTunnel", name := "lots", desc := "(III)I" } : Jvm.MethodName)) ∈ TBg := tb_3 216 (by decide +kernel) rfl
theorem wd_697 : (Jvm.Cond.code ({ cls := "GoneIntoItsTunnel", name := "lots", desc := "(III)I" } : Jvm.MethodName) prog_1_method_34_code (9 : Nat) (Option.some Jvm.ClassFile.FieldType.int)) ∈ TBg := tb_3 217 (by decide +kernel) rfl
theorem wd_698 : (Jvm.Cond.constant "GoneIntoItsTunnel" (247 : Nat) (1664525 : Int32)) ∈ TBg := tb_3 218 (by decide +kernel) rfl
theorem wd_699 : (Jvm.Cond.constant "GoneIntoItsTunnel" (248 : Nat) (1013904223 : Int32)) ∈ TBg := tb_3 219 (by decide +kernel) rfl
theorem wd_700 : (Jvm.Cond.constant "GoneIntoItsTunnel" (249 : Nat) (2147483647 : Int32)) ∈ TBg := tb_3 220 (by decide +kernel) rfl
theorem wd_701 : (Jvm.Cond.methodLink "GoneIntoItsTunnel" (250 : Nat) ({ cls := "GoneIntoItsTunnel", name := "lotSeconds", desc := "(I)I" } : Jvm.MethodName)) ∈ TBg := tb_3 221 (by decide +kernel) rfl
theorem wd_703 : (Jvm.Cond.instanceMethod ({ cls := "GoneIntoItsTunnel", name := "lotSeconds", desc := "(I)I" } : Jvm.MethodName)) ∈ TBg := tb_3 223 (by decide +kernel) rfl
theorem wd_704 : (Jvm.Cond.code ({ cls := "GoneIntoItsTunnel", name := "lotSeconds", desc := "(I)I" } : Jvm.MethodName) prog_1_method_52_code (2 : Nat) (Option.some Jvm.ClassFile.FieldType.int)) ∈ TBg := tb_3 224 (by decide +kernel) rfl
theorem wd_705 : (Jvm.Cond.methodLink "GoneIntoItsTunnelLaw" (149 : Nat) ({ cls := "GoneIntoItsTunnel", name := "image", desc := "()I" } : Jvm.MethodName)) ∈ TBg := tb_3 225 (by decide +kernel) rfl
theorem wd_706 : (Jvm.Cond.instanceMethod ({ cls := "GoneIntoItsTunnel", name := "image", desc := "()I" } : Jvm.MethodName)) ∈ TBg := tb_3 226 (by decide +kernel) rfl
theorem wd_707 : (Jvm.Cond.selects "GoneIntoItsTunnel" ({ cls := "GoneIntoItsTunnel", name := "image", desc := "()I" } : Jvm.MethodName) ({ cls := "GoneIntoItsTunnel", name := "image", desc := "()I" } : Jvm.MethodName)) ∈ TBg := tb_3 227 (by decide +kernel) rfl
theorem wd_708 : (Jvm.Cond.code ({ cls := "GoneIntoItsTunnel", name := "image", desc := "()I" } : Jvm.MethodName) prog_1_method_35_code (1 : Nat) (Option.some Jvm.ClassFile.FieldType.int)) ∈ TBg := tb_3 228 (by decide +kernel) rfl
theorem wd_709 : (Jvm.Cond.methodLink "GoneIntoItsTunnelLaw" (153 : Nat) ({ cls := "GoneIntoItsTunnel", name := "on", desc := "()I" } : Jvm.MethodName)) ∈ TBg := tb_3 229 (by decide +kernel) rfl
theorem wd_710 : (Jvm.Cond.instanceMethod ({ cls := "GoneIntoItsTunnel", name := "on", desc := "()I" } : Jvm.MethodName)) ∈ TBg := tb_3 230 (by decide +kernel) rfl
theorem wd_711 : (Jvm.Cond.selects "GoneIntoItsTunnel" ({ cls := "GoneIntoItsTunnel", name := "on", desc := "()I" } : Jvm.MethodName) ({ cls := "GoneIntoItsTunnel", name := "on", desc := "()I" } : Jvm.MethodName)) ∈ TBg := tb_3 231 (by decide +kernel) rfl
theorem wd_712 : (Jvm.Cond.code ({ cls := "GoneIntoItsTunnel", name := "on", desc := "()I" } : Jvm.MethodName) prog_1_method_36_code (1 : Nat) (Option.some Jvm.ClassFile.FieldType.int)) ∈ TBg := tb_3 232 (by decide +kernel) rfl
theorem wd_713 : (Jvm.Cond.methodLink "GoneIntoItsTunnelLaw" (157 : Nat) ({ cls := "GoneIntoItsTunnel", name := "count", desc := "(I)I" } : Jvm.MethodName)) ∈ TBg := tb_3 233 (by decide +kernel) rfl
theorem wd_714 : (Jvm.Cond.instanceMethod ({ cls := "GoneIntoItsTunnel", name := "count", desc := "(I)I" } : Jvm.MethodName)) ∈ TBg := tb_3 234 (by decide +kernel) rfl
theorem wd_715 : (Jvm.Cond.selects "GoneIntoItsTunnel" ({ cls := "GoneIntoItsTunnel", name := "count", desc := "(I)I" } : Jvm.MethodName) ({ cls := "GoneIntoItsTunnel", name := "count", desc := "(I)I" } : Jvm.MethodName)) ∈ TBg := tb_3 235 (by decide +kernel) rfl
theorem wd_716 : (Jvm.Cond.code ({ cls := "GoneIntoItsTunnel", name := "count", desc := "(I)I" } : Jvm.MethodName) prog_1_method_37_code (2 : Nat) (Option.some Jvm.ClassFile.FieldType.int)) ∈ TBg := tb_3 236 (by decide +kernel) rfl
theorem wd_717 : (Jvm.Cond.methodLink "GoneIntoItsTunnel" (253 : Nat) ({ cls := "GoneIntoItsTunnel$Hem", name := "seams", desc := "()I" } : Jvm.MethodName)) ∈ TBg := tb_3 237 (by decide +kernel) rfl
theorem wd_718 : (Jvm.Cond.instanceMethod ({ cls := "GoneIntoItsTunnel$Hem", name := "seams", desc := "()I" } : Jvm.MethodName)) ∈ TBg := tb_3 238 (by decide +kernel) rfl
theorem wd_719 : (Jvm.Cond.selects "GoneIntoItsTunnel$Hem" ({ cls := "GoneIntoItsTunnel$Hem", name := "seams", desc := "()I" } : Jvm.MethodName) ({ cls := "GoneIntoItsTunnel$Hem", name := "seams", desc := "()I" } : Jvm.MethodName)) ∈ TBg := tb_3 239 (by decide +kernel) rfl
theorem wd_720 : (Jvm.Cond.code ({ cls := "GoneIntoItsTunnel$Hem", name := "seams", desc := "()I" } : Jvm.MethodName) prog_2_method_11_code (3 : Nat) (Option.some Jvm.ClassFile.FieldType.int)) ∈ TBg := tb_4 0 (by decide +kernel) rfl
theorem wd_721 : (Jvm.Cond.methodLink "GoneIntoItsTunnel" (256 : Nat) ({ cls := "GoneIntoItsTunnel", name := "refusalsAt", desc := "(I)I" } : Jvm.MethodName)) ∈ TBg := tb_4 1 (by decide +kernel) rfl
theorem wd_723 : (Jvm.Cond.instanceMethod ({ cls := "GoneIntoItsTunnel", name := "refusalsAt", desc := "(I)I" } : Jvm.MethodName)) ∈ TBg := tb_4 3 (by decide +kernel) rfl
theorem wd_724 : (Jvm.Cond.code ({ cls := "GoneIntoItsTunnel", name := "refusalsAt", desc := "(I)I" } : Jvm.MethodName) prog_1_method_42_code (2 : Nat) (Option.some Jvm.ClassFile.FieldType.int)) ∈ TBg := tb_4 4 (by decide +kernel) rfl
theorem wd_731 : (Jvm.Cond.fieldLink "GoneIntoItsTunnelModel" (9 : Nat) "GoneIntoItsTunnelModel" "s" "[I") ∈ TBg := tb_4 11 (by decide +kernel) rfl
theorem wd_732 : (Jvm.Cond.fieldLink "GoneIntoItsTunnelModel" (13 : Nat) "GoneIntoItsTunnelModel" "m" "[I") ∈ TBg := tb_4 12 (by decide +kernel) rfl
theorem wd_733 : (Jvm.Cond.fieldLink "GoneIntoItsTunnelModel" (16 : Nat) "GoneIntoItsTunnelModel" "image" "[I") ∈ TBg := tb_4 13 (by decide +kernel) rfl
theorem wd_734 : (Jvm.Cond.fieldLink "GoneIntoItsTunnelModel" (19 : Nat) "GoneIntoItsTunnelModel" "was" "[I") ∈ TBg := tb_4 14 (by decide +kernel) rfl
theorem wd_735 : (Jvm.Cond.fieldLink "GoneIntoItsTunnelModel" (197 : Nat) "GoneIntoItsTunnelModel" "hasImage" "Z") ∈ TBg := tb_4 15 (by decide +kernel) rfl
theorem wd_736 : (Jvm.Cond.fieldLink "GoneIntoItsTunnelModel" (22 : Nat) "GoneIntoItsTunnelModel" "letters" "[I") ∈ TBg := tb_4 16 (by decide +kernel) rfl
theorem wd_737 : (Jvm.Cond.fieldLink "GoneIntoItsTunnelModel" (25 : Nat) "GoneIntoItsTunnelModel" "row" "[I") ∈ TBg := tb_4 17 (by decide +kernel) rfl
theorem wd_738 : (Jvm.Cond.fieldLink "GoneIntoItsTunnelModel" (28 : Nat) "GoneIntoItsTunnelModel" "refused" "[I") ∈ TBg := tb_4 18 (by decide +kernel) rfl
theorem wd_739 : (Jvm.Cond.fieldLink "GoneIntoItsTunnelModel" (108 : Nat) "GoneIntoItsTunnelModel" "letterMany" "I") ∈ TBg := tb_4 19 (by decide +kernel) rfl
theorem wd_740 : (Jvm.Cond.fieldLink "GoneIntoItsTunnelModel" (182 : Nat) "GoneIntoItsTunnelModel" "rowMany" "I") ∈ TBg := tb_4 20 (by decide +kernel) rfl
theorem wd_741 : (Jvm.Cond.fieldLink "GoneIntoItsTunnelModel" (31 : Nat) "GoneIntoItsTunnelModel" "costs" "[I") ∈ TBg := tb_4 21 (by decide +kernel) rfl
theorem wd_742 : (Jvm.Cond.fieldLink "GoneIntoItsTunnelModel" (90 : Nat) "GoneIntoItsTunnelModel" "bunchesMany" "I") ∈ TBg := tb_4 22 (by decide +kernel) rfl
theorem wd_743 : (Jvm.Cond.fieldLink "GoneIntoItsTunnelModel" (111 : Nat) "GoneIntoItsTunnelModel" "place" "I") ∈ TBg := tb_4 23 (by decide +kernel) rfl
theorem wd_744 : (Jvm.Cond.fieldLink "GoneIntoItsTunnelModel" (34 : Nat) "GoneIntoItsTunnelModel" "numbers" "[I") ∈ TBg := tb_4 24 (by decide +kernel) rfl
theorem wd_745 : (Jvm.Cond.fieldLink "GoneIntoItsTunnelModel" (176 : Nat) "GoneIntoItsTunnelModel" "mends" "I") ∈ TBg := tb_4 25 (by decide +kernel) rfl
theorem wd_746 : (Jvm.Cond.fieldLink "GoneIntoItsTunnelModel" (188 : Nat) "GoneIntoItsTunnelModel" "seed" "I") ∈ TBg := tb_4 26 (by decide +kernel) rfl
theorem wd_780 : (Jvm.Cond.methodLink "GoneIntoItsTunnelLaw" (17 : Nat) ({ cls := "GoneIntoItsTunnelModel", name := "letter", desc := "(I)I" } : Jvm.MethodName)) ∈ TBg := tb_4 60 (by decide +kernel) rfl
theorem wd_781 : (Jvm.Cond.instanceMethod ({ cls := "GoneIntoItsTunnelModel", name := "letter", desc := "(I)I" } : Jvm.MethodName)) ∈ TBg := tb_4 61 (by decide +kernel) rfl
theorem wd_782 : (Jvm.Cond.selects "GoneIntoItsTunnelModel" ({ cls := "GoneIntoItsTunnelModel", name := "letter", desc := "(I)I" } : Jvm.MethodName) ({ cls := "GoneIntoItsTunnelModel", name := "letter", desc := "(I)I" } : Jvm.MethodName)) ∈ TBg := tb_4 62 (by decide +kernel) rfl
theorem wd_783 : (Jvm.Cond.code ({ cls := "GoneIntoItsTunnelModel", name := "letter", desc := "(I)I" } : Jvm.MethodName) prog_9_method_30_code (2 : Nat) (Option.some Jvm.ClassFile.FieldType.int)) ∈ TBg := tb_4 63 (by decide +kernel) rfl
theorem wd_784 : (Jvm.Cond.methodLink "GoneIntoItsTunnelModel" (38 : Nat) ({ cls := "GoneIntoItsTunnelModel", name := "no", desc := "(I)I" } : Jvm.MethodName)) ∈ TBg := tb_4 64 (by decide +kernel) rfl
theorem wd_786 : (Jvm.Cond.instanceMethod ({ cls := "GoneIntoItsTunnelModel", name := "no", desc := "(I)I" } : Jvm.MethodName)) ∈ TBg := tb_4 66 (by decide +kernel) rfl
theorem wd_787 : (Jvm.Cond.code ({ cls := "GoneIntoItsTunnelModel", name := "no", desc := "(I)I" } : Jvm.MethodName) prog_9_method_6_code (2 : Nat) (Option.some Jvm.ClassFile.FieldType.int)) ∈ TBg := tb_4 67 (by decide +kernel) rfl
theorem wd_788 : (Jvm.Cond.methodLink "GoneIntoItsTunnelLaw" (22 : Nat) ({ cls := "GoneIntoItsTunnelModel", name := "hem", desc := "()I" } : Jvm.MethodName)) ∈ TBg := tb_4 68 (by decide +kernel) rfl
theorem wd_789 : (Jvm.Cond.instanceMethod ({ cls := "GoneIntoItsTunnelModel", name := "hem", desc := "()I" } : Jvm.MethodName)) ∈ TBg := tb_4 69 (by decide +kernel) rfl
theorem wd_790 : (Jvm.Cond.selects "GoneIntoItsTunnelModel" ({ cls := "GoneIntoItsTunnelModel", name := "hem", desc := "()I" } : Jvm.MethodName) ({ cls := "GoneIntoItsTunnelModel", name := "hem", desc := "()I" } : Jvm.MethodName)) ∈ TBg := tb_4 70 (by decide +kernel) rfl
theorem wd_791 : (Jvm.Cond.code ({ cls := "GoneIntoItsTunnelModel", name := "hem", desc := "()I" } : Jvm.MethodName) prog_9_method_38_code (6 : Nat) (Option.some Jvm.ClassFile.FieldType.int)) ∈ TBg := tb_4 71 (by decide +kernel) rfl
theorem wd_792 : (Jvm.Cond.methodLink "GoneIntoItsTunnelModel" (141 : Nat) ({ cls := "GoneIntoItsTunnelModel", name := "readsStatement", desc := "()Z" } : Jvm.MethodName)) ∈ TBg := tb_4 72 (by decide +kernel) rfl
theorem wd_794 : (Jvm.Cond.instanceMethod ({ cls := "GoneIntoItsTunnelModel", name := "readsStatement", desc := "()Z" } : Jvm.MethodName)) ∈ TBg := tb_4 74 (by decide +kernel) rfl
theorem wd_795 : (Jvm.Cond.code ({ cls := "GoneIntoItsTunnelModel", name := "readsStatement", desc := "()Z" } : Jvm.MethodName) prog_9_method_36_code (3 : Nat) (Option.some Jvm.ClassFile.FieldType.boolean)) ∈ TBg := tb_4 75 (by decide +kernel) rfl
theorem wd_796 : (Jvm.Cond.methodLink "GoneIntoItsTunnelModel" (114 : Nat) ({ cls := "GoneIntoItsTunnelModel", name := "here", desc := "()I" } : Jvm.MethodName)) ∈ TBg := tb_4 76 (by decide +kernel) rfl
theorem wd_798 : (Jvm.Cond.instanceMethod ({ cls := "GoneIntoItsTunnelModel", name := "here", desc := "()I" } : Jvm.MethodName)) ∈ TBg := tb_4 78 (by decide +kernel) rfl
theorem wd_799 : (Jvm.Cond.code ({ cls := "GoneIntoItsTunnelModel", name := "here", desc := "()I" } : Jvm.MethodName) prog_9_method_31_code (1 : Nat) (Option.some Jvm.ClassFile.FieldType.int)) ∈ TBg := tb_4 79 (by decide +kernel) rfl
theorem wd_800 : (Jvm.Cond.methodLink "GoneIntoItsTunnelModel" (121 : Nat) ({ cls := "GoneIntoItsTunnelModel", name := "readsNumber", desc := "(II)Z" } : Jvm.MethodName)) ∈ TBg := tb_4 80 (by decide +kernel) rfl
theorem wd_802 : (Jvm.Cond.instanceMethod ({ cls := "GoneIntoItsTunnelModel", name := "readsNumber", desc := "(II)Z" } : Jvm.MethodName)) ∈ TBg := tb_4 82 (by decide +kernel) rfl
theorem wd_803 : (Jvm.Cond.code ({ cls := "GoneIntoItsTunnelModel", name := "readsNumber", desc := "(II)Z" } : Jvm.MethodName) prog_9_method_32_code (4 : Nat) (Option.some Jvm.ClassFile.FieldType.boolean)) ∈ TBg := tb_4 83 (by decide +kernel) rfl
theorem wd_804 : (Jvm.Cond.methodLink "GoneIntoItsTunnelModel" (42 : Nat) ({ cls := "GoneIntoItsTunnelModel", name := "isIn", desc := "(III)Z" } : Jvm.MethodName)) ∈ TBg := tb_4 84 (by decide +kernel) rfl
theorem wd_805 : (Jvm.Cond.static ({ cls := "GoneIntoItsTunnelModel", name := "isIn", desc := "(III)Z" } : Jvm.MethodName)) ∈ TBg := tb_4 85 (by decide +kernel) rfl
theorem wd_806 : (Jvm.Cond.code ({ cls := "GoneIntoItsTunnelModel", name := "isIn", desc := "(III)Z" } : Jvm.MethodName) prog_9_method_2_code (3 : Nat) (Option.some Jvm.ClassFile.FieldType.boolean)) ∈ TBg := tb_4 86 (by decide +kernel) rfl
theorem wd_807 : (Jvm.Cond.methodLink "GoneIntoItsTunnelModel" (125 : Nat) ({ cls := "GoneIntoItsTunnelModel", name := "readsKind", desc := "()Z" } : Jvm.MethodName)) ∈ TBg := tb_4 87 (by decide +kernel) rfl
theorem wd_809 : (Jvm.Cond.instanceMethod ({ cls := "GoneIntoItsTunnelModel", name := "readsKind", desc := "()Z" } : Jvm.MethodName)) ∈ TBg := tb_4 89 (by decide +kernel) rfl
theorem wd_810 : (Jvm.Cond.code ({ cls := "GoneIntoItsTunnelModel", name := "readsKind", desc := "()Z" } : Jvm.MethodName) prog_9_method_34_code (1 : Nat) (Option.some Jvm.ClassFile.FieldType.boolean)) ∈ TBg := tb_4 90 (by decide +kernel) rfl
theorem wd_811 : (Jvm.Cond.methodLink "GoneIntoItsTunnelModel" (118 : Nat) ({ cls := "GoneIntoItsTunnelModel", name := "kindBy", desc := "(I)I" } : Jvm.MethodName)) ∈ TBg := tb_4 91 (by decide +kernel) rfl
theorem wd_812 : (Jvm.Cond.static ({ cls := "GoneIntoItsTunnelModel", name := "kindBy", desc := "(I)I" } : Jvm.MethodName)) ∈ TBg := tb_4 92 (by decide +kernel) rfl
theorem wd_813 : (Jvm.Cond.code ({ cls := "GoneIntoItsTunnelModel", name := "kindBy", desc := "(I)I" } : Jvm.MethodName) prog_9_method_33_code (1 : Nat) (Option.some Jvm.ClassFile.FieldType.int)) ∈ TBg := tb_4 93 (by decide +kernel) rfl
theorem wd_814 : (Jvm.Cond.methodLink "GoneIntoItsTunnelModel" (129 : Nat) ({ cls := "GoneIntoItsTunnelModel", name := "readsSigned", desc := "()Z" } : Jvm.MethodName)) ∈ TBg := tb_4 94 (by decide +kernel) rfl
theorem wd_816 : (Jvm.Cond.instanceMethod ({ cls := "GoneIntoItsTunnelModel", name := "readsSigned", desc := "()Z" } : Jvm.MethodName)) ∈ TBg := tb_4 96 (by decide +kernel) rfl
theorem wd_817 : (Jvm.Cond.code ({ cls := "GoneIntoItsTunnelModel", name := "readsSigned", desc := "()Z" } : Jvm.MethodName) prog_9_method_35_code (3 : Nat) (Option.some Jvm.ClassFile.FieldType.boolean)) ∈ TBg := tb_4 97 (by decide +kernel) rfl
theorem wd_818 : (Jvm.Cond.methodLink "GoneIntoItsTunnelModel" (144 : Nat) ({ cls := "GoneIntoItsTunnelModel", name := "lays", desc := "([I[I)V" } : Jvm.MethodName)) ∈ TBg := tb_4 98 (by decide +kernel) rfl
theorem wd_819 : (Jvm.Cond.static ({ cls := "GoneIntoItsTunnelModel", name := "lays", desc := "([I[I)V" } : Jvm.MethodName)) ∈ TBg := tb_4 99 (by decide +kernel) rfl
theorem wd_820 : (Jvm.Cond.code ({ cls := "GoneIntoItsTunnelModel", name := "lays", desc := "([I[I)V" } : Jvm.MethodName) prog_9_method_5_code (3 : Nat) (Option.none : Option Jvm.ClassFile.FieldType)) ∈ TBg := tb_4 100 (by decide +kernel) rfl
theorem wd_821 : (Jvm.Cond.methodLink "GoneIntoItsTunnelModel" (148 : Nat) ({ cls := "GoneIntoItsTunnelModel", name := "isDone", desc := "(I)Z" } : Jvm.MethodName)) ∈ TBg := tb_4 101 (by decide +kernel) rfl
theorem wd_823 : (Jvm.Cond.instanceMethod ({ cls := "GoneIntoItsTunnelModel", name := "isDone", desc := "(I)Z" } : Jvm.MethodName)) ∈ TBg := tb_4 103 (by decide +kernel) rfl
theorem wd_824 : (Jvm.Cond.code ({ cls := "GoneIntoItsTunnelModel", name := "isDone", desc := "(I)Z" } : Jvm.MethodName) prog_9_method_37_code (4 : Nat) (Option.some Jvm.ClassFile.FieldType.boolean)) ∈ TBg := tb_4 104 (by decide +kernel) rfl
theorem wd_825 : (Jvm.Cond.methodLink "GoneIntoItsTunnelModel" (132 : Nat) ({ cls := "GoneIntoItsTunnelModel", name := "isInch", desc := "(I)Z" } : Jvm.MethodName)) ∈ TBg := tb_4 105 (by decide +kernel) rfl
theorem wd_827 : (Jvm.Cond.instanceMethod ({ cls := "GoneIntoItsTunnelModel", name := "isInch", desc := "(I)Z" } : Jvm.MethodName)) ∈ TBg := tb_4 107 (by decide +kernel) rfl
theorem wd_828 : (Jvm.Cond.code ({ cls := "GoneIntoItsTunnelModel", name := "isInch", desc := "(I)Z" } : Jvm.MethodName) prog_9_method_8_code (2 : Nat) (Option.some Jvm.ClassFile.FieldType.boolean)) ∈ TBg := tb_4 108 (by decide +kernel) rfl
theorem wd_829 : (Jvm.Cond.methodLink "GoneIntoItsTunnelModel" (135 : Nat) ({ cls := "GoneIntoItsTunnelModel", name := "isEnd", desc := "(I)Z" } : Jvm.MethodName)) ∈ TBg := tb_4 109 (by decide +kernel) rfl
theorem wd_830 : (Jvm.Cond.static ({ cls := "GoneIntoItsTunnelModel", name := "isEnd", desc := "(I)Z" } : Jvm.MethodName)) ∈ TBg := tb_4 110 (by decide +kernel) rfl
theorem wd_831 : (Jvm.Cond.code ({ cls := "GoneIntoItsTunnelModel", name := "isEnd", desc := "(I)Z" } : Jvm.MethodName) prog_9_method_9_code (1 : Nat) (Option.some Jvm.ClassFile.FieldType.boolean)) ∈ TBg := tb_4 111 (by decide +kernel) rfl
theorem wd_832 : (Jvm.Cond.methodLink "GoneIntoItsTunnelModel" (138 : Nat) ({ cls := "GoneIntoItsTunnelModel", name := "washesOn", desc := "([II)V" } : Jvm.MethodName)) ∈ TBg := tb_4 112 (by decide +kernel) rfl
theorem wd_833 : (Jvm.Cond.static ({ cls := "GoneIntoItsTunnelModel", name := "washesOn", desc := "([II)V" } : Jvm.MethodName)) ∈ TBg := tb_4 113 (by decide +kernel) rfl
theorem wd_834 : (Jvm.Cond.code ({ cls := "GoneIntoItsTunnelModel", name := "washesOn", desc := "([II)V" } : Jvm.MethodName) prog_9_method_22_code (4 : Nat) (Option.none : Option Jvm.ClassFile.FieldType)) ∈ TBg := tb_4 114 (by decide +kernel) rfl
theorem wd_835 : (Jvm.Cond.methodLink "GoneIntoItsTunnelModel" (77 : Nat) ({ cls := "GoneIntoItsTunnelModel", name := "washes", desc := "([I)I" } : Jvm.MethodName)) ∈ TBg := tb_4 115 (by decide +kernel) rfl
theorem wd_836 : (Jvm.Cond.static ({ cls := "GoneIntoItsTunnelModel", name := "washes", desc := "([I)I" } : Jvm.MethodName)) ∈ TBg := tb_4 116 (by decide +kernel) rfl
theorem wd_837 : (Jvm.Cond.code ({ cls := "GoneIntoItsTunnelModel", name := "washes", desc := "([I)I" } : Jvm.MethodName) prog_9_method_21_code (2 : Nat) (Option.some Jvm.ClassFile.FieldType.int)) ∈ TBg := tb_4 117 (by decide +kernel) rfl
theorem wd_838 : (Jvm.Cond.methodLink "GoneIntoItsTunnelModel" (68 : Nat) ({ cls := "GoneIntoItsTunnelModel", name := "inchOf", desc := "([II)I" } : Jvm.MethodName)) ∈ TBg := tb_4 118 (by decide +kernel) rfl
theorem wd_839 : (Jvm.Cond.static ({ cls := "GoneIntoItsTunnelModel", name := "inchOf", desc := "([II)I" } : Jvm.MethodName)) ∈ TBg := tb_4 119 (by decide +kernel) rfl
theorem wd_840 : (Jvm.Cond.code ({ cls := "GoneIntoItsTunnelModel", name := "inchOf", desc := "([II)I" } : Jvm.MethodName) prog_9_method_17_code (3 : Nat) (Option.some Jvm.ClassFile.FieldType.int)) ∈ TBg := tb_4 120 (by decide +kernel) rfl
theorem wd_841 : (Jvm.Cond.methodLink "GoneIntoItsTunnelModel" (57 : Nat) ({ cls := "GoneIntoItsTunnelModel", name := "least", desc := "(II)I" } : Jvm.MethodName)) ∈ TBg := tb_4 121 (by decide +kernel) rfl
theorem wd_842 : (Jvm.Cond.static ({ cls := "GoneIntoItsTunnelModel", name := "least", desc := "(II)I" } : Jvm.MethodName)) ∈ TBg := tb_4 122 (by decide +kernel) rfl
theorem wd_843 : (Jvm.Cond.code ({ cls := "GoneIntoItsTunnelModel", name := "least", desc := "(II)I" } : Jvm.MethodName) prog_9_method_3_code (2 : Nat) (Option.some Jvm.ClassFile.FieldType.int)) ∈ TBg := tb_4 123 (by decide +kernel) rfl
theorem wd_844 : (Jvm.Cond.methodLink "GoneIntoItsTunnelModel" (71 : Nat) ({ cls := "GoneIntoItsTunnelModel", name := "drawsAt", desc := "([II)I" } : Jvm.MethodName)) ∈ TBg := tb_4 124 (by decide +kernel) rfl
theorem wd_845 : (Jvm.Cond.static ({ cls := "GoneIntoItsTunnelModel", name := "drawsAt", desc := "([II)I" } : Jvm.MethodName)) ∈ TBg := tb_4 125 (by decide +kernel) rfl
theorem wd_846 : (Jvm.Cond.code ({ cls := "GoneIntoItsTunnelModel", name := "drawsAt", desc := "([II)I" } : Jvm.MethodName) prog_9_method_16_code (3 : Nat) (Option.some Jvm.ClassFile.FieldType.int)) ∈ TBg := tb_4 126 (by decide +kernel) rfl
theorem wd_847 : (Jvm.Cond.methodLink "GoneIntoItsTunnelModel" (46 : Nat) ({ cls := "GoneIntoItsTunnelModel", name := "kindOf", desc := "([II)I" } : Jvm.MethodName)) ∈ TBg := tb_4 127 (by decide +kernel) rfl
theorem wd_848 : (Jvm.Cond.static ({ cls := "GoneIntoItsTunnelModel", name := "kindOf", desc := "([II)I" } : Jvm.MethodName)) ∈ TBg := tb_4 128 (by decide +kernel) rfl
theorem wd_849 : (Jvm.Cond.code ({ cls := "GoneIntoItsTunnelModel", name := "kindOf", desc := "([II)I" } : Jvm.MethodName) prog_9_method_10_code (2 : Nat) (Option.some Jvm.ClassFile.FieldType.int)) ∈ TBg := tb_4 129 (by decide +kernel) rfl
theorem wd_850 : (Jvm.Cond.methodLink "GoneIntoItsTunnelModel" (50 : Nat) ({ cls := "GoneIntoItsTunnelModel", name := "isSeam", desc := "(I)Z" } : Jvm.MethodName)) ∈ TBg := tb_4 130 (by decide +kernel) rfl
theorem wd_851 : (Jvm.Cond.static ({ cls := "GoneIntoItsTunnelModel", name := "isSeam", desc := "(I)Z" } : Jvm.MethodName)) ∈ TBg := tb_4 131 (by decide +kernel) rfl
theorem wd_852 : (Jvm.Cond.code ({ cls := "GoneIntoItsTunnelModel", name := "isSeam", desc := "(I)Z" } : Jvm.MethodName) prog_9_method_12_code (1 : Nat) (Option.some Jvm.ClassFile.FieldType.boolean)) ∈ TBg := tb_4 132 (by decide +kernel) rfl
theorem wd_853 : (Jvm.Cond.methodLink "GoneIntoItsTunnelModel" (74 : Nat) ({ cls := "GoneIntoItsTunnelModel", name := "pulls", desc := "([III)I" } : Jvm.MethodName)) ∈ TBg := tb_4 133 (by decide +kernel) rfl
theorem wd_854 : (Jvm.Cond.static ({ cls := "GoneIntoItsTunnelModel", name := "pulls", desc := "([III)I" } : Jvm.MethodName)) ∈ TBg := tb_4 134 (by decide +kernel) rfl
theorem wd_855 : (Jvm.Cond.code ({ cls := "GoneIntoItsTunnelModel", name := "pulls", desc := "([III)I" } : Jvm.MethodName) prog_9_method_20_code (4 : Nat) (Option.some Jvm.ClassFile.FieldType.int)) ∈ TBg := tb_4 135 (by decide +kernel) rfl
theorem wd_856 : (Jvm.Cond.methodLink "GoneIntoItsTunnelModel" (64 : Nat) ({ cls := "GoneIntoItsTunnelModel", name := "canPull", desc := "([III)I" } : Jvm.MethodName)) ∈ TBg := tb_4 136 (by decide +kernel) rfl
theorem wd_857 : (Jvm.Cond.static ({ cls := "GoneIntoItsTunnelModel", name := "canPull", desc := "([III)I" } : Jvm.MethodName)) ∈ TBg := tb_4 137 (by decide +kernel) rfl
theorem wd_858 : (Jvm.Cond.code ({ cls := "GoneIntoItsTunnelModel", name := "canPull", desc := "([III)I" } : Jvm.MethodName) prog_9_method_19_code (5 : Nat) (Option.some Jvm.ClassFile.FieldType.int)) ∈ TBg := tb_4 138 (by decide +kernel) rfl
theorem wd_859 : (Jvm.Cond.methodLink "GoneIntoItsTunnelModel" (61 : Nat) ({ cls := "GoneIntoItsTunnelModel", name := "most", desc := "(II)I" } : Jvm.MethodName)) ∈ TBg := tb_4 139 (by decide +kernel) rfl
theorem wd_860 : (Jvm.Cond.static ({ cls := "GoneIntoItsTunnelModel", name := "most", desc := "(II)I" } : Jvm.MethodName)) ∈ TBg := tb_4 140 (by decide +kernel) rfl
theorem wd_861 : (Jvm.Cond.code ({ cls := "GoneIntoItsTunnelModel", name := "most", desc := "(II)I" } : Jvm.MethodName) prog_9_method_4_code (2 : Nat) (Option.some Jvm.ClassFile.FieldType.int)) ∈ TBg := tb_4 141 (by decide +kernel) rfl
theorem wd_862 : (Jvm.Cond.methodLink "GoneIntoItsTunnelLaw" (27 : Nat) ({ cls := "GoneIntoItsTunnelModel", name := "inch", desc := "(II)I" } : Jvm.MethodName)) ∈ TBg := tb_4 142 (by decide +kernel) rfl
theorem wd_863 : (Jvm.Cond.instanceMethod ({ cls := "GoneIntoItsTunnelModel", name := "inch", desc := "(II)I" } : Jvm.MethodName)) ∈ TBg := tb_4 143 (by decide +kernel) rfl
theorem wd_864 : (Jvm.Cond.selects "GoneIntoItsTunnelModel" ({ cls := "GoneIntoItsTunnelModel", name := "inch", desc := "(II)I" } : Jvm.MethodName) ({ cls := "GoneIntoItsTunnelModel", name := "inch", desc := "(II)I" } : Jvm.MethodName)) ∈ TBg := tb_4 144 (by decide +kernel) rfl
theorem wd_865 : (Jvm.Cond.code ({ cls := "GoneIntoItsTunnelModel", name := "inch", desc := "(II)I" } : Jvm.MethodName) prog_9_method_39_code (3 : Nat) (Option.some Jvm.ClassFile.FieldType.int)) ∈ TBg := tb_4 145 (by decide +kernel) rfl
theorem wd_866 : (Jvm.Cond.methodLink "GoneIntoItsTunnelModel" (54 : Nat) ({ cls := "GoneIntoItsTunnelModel", name := "figureOf", desc := "([II)I" } : Jvm.MethodName)) ∈ TBg := tb_4 146 (by decide +kernel) rfl
theorem wd_867 : (Jvm.Cond.static ({ cls := "GoneIntoItsTunnelModel", name := "figureOf", desc := "([II)I" } : Jvm.MethodName)) ∈ TBg := tb_4 147 (by decide +kernel) rfl
theorem wd_868 : (Jvm.Cond.code ({ cls := "GoneIntoItsTunnelModel", name := "figureOf", desc := "([II)I" } : Jvm.MethodName) prog_9_method_11_code (2 : Nat) (Option.some Jvm.ClassFile.FieldType.int)) ∈ TBg := tb_4 148 (by decide +kernel) rfl
theorem wd_869 : (Jvm.Cond.methodLink "GoneIntoItsTunnelModel" (81 : Nat) ({ cls := "GoneIntoItsTunnelModel", name := "movesAt", desc := "([II)I" } : Jvm.MethodName)) ∈ TBg := tb_4 149 (by decide +kernel) rfl
theorem wd_870 : (Jvm.Cond.static ({ cls := "GoneIntoItsTunnelModel", name := "movesAt", desc := "([II)I" } : Jvm.MethodName)) ∈ TBg := tb_4 150 (by decide +kernel) rfl
theorem wd_871 : (Jvm.Cond.code ({ cls := "GoneIntoItsTunnelModel", name := "movesAt", desc := "([II)I" } : Jvm.MethodName) prog_9_method_13_code (3 : Nat) (Option.some Jvm.ClassFile.FieldType.int)) ∈ TBg := tb_4 151 (by decide +kernel) rfl
theorem wd_872 : (Jvm.Cond.methodLink "GoneIntoItsTunnelModel" (98 : Nat) ({ cls := "GoneIntoItsTunnelModel", name := "bunchAt", desc := "([II)I" } : Jvm.MethodName)) ∈ TBg := tb_4 152 (by decide +kernel) rfl
theorem wd_873 : (Jvm.Cond.static ({ cls := "GoneIntoItsTunnelModel", name := "bunchAt", desc := "([II)I" } : Jvm.MethodName)) ∈ TBg := tb_4 153 (by decide +kernel) rfl
theorem wd_874 : (Jvm.Cond.code ({ cls := "GoneIntoItsTunnelModel", name := "bunchAt", desc := "([II)I" } : Jvm.MethodName) prog_9_method_14_code (3 : Nat) (Option.some Jvm.ClassFile.FieldType.int)) ∈ TBg := tb_4 154 (by decide +kernel) rfl
theorem wd_875 : (Jvm.Cond.methodLink "GoneIntoItsTunnelModel" (87 : Nat) ({ cls := "GoneIntoItsTunnelModel", name := "threadAt", desc := "([II)I" } : Jvm.MethodName)) ∈ TBg := tb_4 155 (by decide +kernel) rfl
theorem wd_876 : (Jvm.Cond.static ({ cls := "GoneIntoItsTunnelModel", name := "threadAt", desc := "([II)I" } : Jvm.MethodName)) ∈ TBg := tb_4 156 (by decide +kernel) rfl
theorem wd_877 : (Jvm.Cond.code ({ cls := "GoneIntoItsTunnelModel", name := "threadAt", desc := "([II)I" } : Jvm.MethodName) prog_9_method_15_code (3 : Nat) (Option.some Jvm.ClassFile.FieldType.int)) ∈ TBg := tb_4 157 (by decide +kernel) rfl
theorem wd_878 : (Jvm.Cond.methodLink "GoneIntoItsTunnelLaw" (32 : Nat) ({ cls := "GoneIntoItsTunnelModel", name := "turn", desc := "(III)I" } : Jvm.MethodName)) ∈ TBg := tb_4 158 (by decide +kernel) rfl
theorem wd_879 : (Jvm.Cond.instanceMethod ({ cls := "GoneIntoItsTunnelModel", name := "turn", desc := "(III)I" } : Jvm.MethodName)) ∈ TBg := tb_4 159 (by decide +kernel) rfl
theorem wd_880 : (Jvm.Cond.selects "GoneIntoItsTunnelModel" ({ cls := "GoneIntoItsTunnelModel", name := "turn", desc := "(III)I" } : Jvm.MethodName) ({ cls := "GoneIntoItsTunnelModel", name := "turn", desc := "(III)I" } : Jvm.MethodName)) ∈ TBg := tb_4 160 (by decide +kernel) rfl
theorem wd_881 : (Jvm.Cond.code ({ cls := "GoneIntoItsTunnelModel", name := "turn", desc := "(III)I" } : Jvm.MethodName) prog_9_method_40_code (5 : Nat) (Option.some Jvm.ClassFile.FieldType.int)) ∈ TBg := tb_4 161 (by decide +kernel) rfl
theorem wd_882 : (Jvm.Cond.methodLink "GoneIntoItsTunnelLaw" (36 : Nat) ({ cls := "GoneIntoItsTunnelModel", name := "inches", desc := "(I)I" } : Jvm.MethodName)) ∈ TBg := tb_4 162 (by decide +kernel) rfl
theorem wd_883 : (Jvm.Cond.instanceMethod ({ cls := "GoneIntoItsTunnelModel", name := "inches", desc := "(I)I" } : Jvm.MethodName)) ∈ TBg := tb_4 163 (by decide +kernel) rfl
theorem wd_884 : (Jvm.Cond.selects "GoneIntoItsTunnelModel" ({ cls := "GoneIntoItsTunnelModel", name := "inches", desc := "(I)I" } : Jvm.MethodName) ({ cls := "GoneIntoItsTunnelModel", name := "inches", desc := "(I)I" } : Jvm.MethodName)) ∈ TBg := tb_4 164 (by decide +kernel) rfl
theorem wd_885 : (Jvm.Cond.code ({ cls := "GoneIntoItsTunnelModel", name := "inches", desc := "(I)I" } : Jvm.MethodName) prog_9_method_41_code (3 : Nat) (Option.some Jvm.ClassFile.FieldType.int)) ∈ TBg := tb_4 165 (by decide +kernel) rfl
theorem wd_886 : (Jvm.Cond.methodLink "GoneIntoItsTunnelLaw" (40 : Nat) ({ cls := "GoneIntoItsTunnelModel", name := "end", desc := "(II)I" } : Jvm.MethodName)) ∈ TBg := tb_4 166 (by decide +kernel) rfl
theorem wd_887 : (Jvm.Cond.instanceMethod ({ cls := "GoneIntoItsTunnelModel", name := "end", desc := "(II)I" } : Jvm.MethodName)) ∈ TBg := tb_4 167 (by decide +kernel) rfl
theorem wd_888 : (Jvm.Cond.selects "GoneIntoItsTunnelModel" ({ cls := "GoneIntoItsTunnelModel", name := "end", desc := "(II)I" } : Jvm.MethodName) ({ cls := "GoneIntoItsTunnelModel", name := "end", desc := "(II)I" } : Jvm.MethodName)) ∈ TBg := tb_4 168 (by decide +kernel) rfl
theorem wd_889 : (Jvm.Cond.code ({ cls := "GoneIntoItsTunnelModel", name := "end", desc := "(II)I" } : Jvm.MethodName) prog_9_method_42_code (4 : Nat) (Option.some Jvm.ClassFile.FieldType.int)) ∈ TBg := tb_4 169 (by decide +kernel) rfl
theorem wd_890 : (Jvm.Cond.methodLink "GoneIntoItsTunnelModel" (151 : Nat) ({ cls := "GoneIntoItsTunnelModel", name := "noFar", desc := "(I)I" } : Jvm.MethodName)) ∈ TBg := tb_4 170 (by decide +kernel) rfl
theorem wd_892 : (Jvm.Cond.instanceMethod ({ cls := "GoneIntoItsTunnelModel", name := "noFar", desc := "(I)I" } : Jvm.MethodName)) ∈ TBg := tb_4 172 (by decide +kernel) rfl
theorem wd_893 : (Jvm.Cond.code ({ cls := "GoneIntoItsTunnelModel", name := "noFar", desc := "(I)I" } : Jvm.MethodName) prog_9_method_7_code (2 : Nat) (Option.some Jvm.ClassFile.FieldType.int)) ∈ TBg := tb_4 173 (by decide +kernel) rfl
theorem wd_894 : (Jvm.Cond.constant "GoneIntoItsTunnelModel" (37 : Nat) (1000000000 : Int32)) ∈ TBg := tb_4 174 (by decide +kernel) rfl
theorem wd_895 : (Jvm.Cond.methodLink "GoneIntoItsTunnelLaw" (44 : Nat) ({ cls := "GoneIntoItsTunnelModel", name := "tie", desc := "(I)I" } : Jvm.MethodName)) ∈ TBg := tb_4 175 (by decide +kernel) rfl
theorem wd_896 : (Jvm.Cond.instanceMethod ({ cls := "GoneIntoItsTunnelModel", name := "tie", desc := "(I)I" } : Jvm.MethodName)) ∈ TBg := tb_4 176 (by decide +kernel) rfl
theorem wd_897 : (Jvm.Cond.selects "GoneIntoItsTunnelModel" ({ cls := "GoneIntoItsTunnelModel", name := "tie", desc := "(I)I" } : Jvm.MethodName) ({ cls := "GoneIntoItsTunnelModel", name := "tie", desc := "(I)I" } : Jvm.MethodName)) ∈ TBg := tb_4 177 (by decide +kernel) rfl
theorem wd_898 : (Jvm.Cond.code ({ cls := "GoneIntoItsTunnelModel", name := "tie", desc := "(I)I" } : Jvm.MethodName) prog_9_method_43_code (2 : Nat) (Option.some Jvm.ClassFile.FieldType.int)) ∈ TBg := tb_4 178 (by decide +kernel) rfl
theorem wd_899 : (Jvm.Cond.methodLink "GoneIntoItsTunnelLaw" (48 : Nat) ({ cls := "GoneIntoItsTunnelModel", name := "sew", desc := "()I" } : Jvm.MethodName)) ∈ TBg := tb_4 179 (by decide +kernel) rfl
theorem wd_900 : (Jvm.Cond.instanceMethod ({ cls := "GoneIntoItsTunnelModel", name := "sew", desc := "()I" } : Jvm.MethodName)) ∈ TBg := tb_4 180 (by decide +kernel) rfl
theorem wd_901 : (Jvm.Cond.selects "GoneIntoItsTunnelModel" ({ cls := "GoneIntoItsTunnelModel", name := "sew", desc := "()I" } : Jvm.MethodName) ({ cls := "GoneIntoItsTunnelModel", name := "sew", desc := "()I" } : Jvm.MethodName)) ∈ TBg := tb_4 181 (by decide +kernel) rfl
theorem wd_902 : (Jvm.Cond.code ({ cls := "GoneIntoItsTunnelModel", name := "sew", desc := "()I" } : Jvm.MethodName) prog_9_method_44_code (1 : Nat) (Option.some Jvm.ClassFile.FieldType.int)) ∈ TBg := tb_4 182 (by decide +kernel) rfl
theorem wd_903 : (Jvm.Cond.methodLink "GoneIntoItsTunnelLaw" (52 : Nat) ({ cls := "GoneIntoItsTunnelModel", name := "set", desc := "(II)I" } : Jvm.MethodName)) ∈ TBg := tb_4 183 (by decide +kernel) rfl
theorem wd_904 : (Jvm.Cond.instanceMethod ({ cls := "GoneIntoItsTunnelModel", name := "set", desc := "(II)I" } : Jvm.MethodName)) ∈ TBg := tb_4 184 (by decide +kernel) rfl
theorem wd_905 : (Jvm.Cond.selects "GoneIntoItsTunnelModel" ({ cls := "GoneIntoItsTunnelModel", name := "set", desc := "(II)I" } : Jvm.MethodName) ({ cls := "GoneIntoItsTunnelModel", name := "set", desc := "(II)I" } : Jvm.MethodName)) ∈ TBg := tb_4 185 (by decide +kernel) rfl
theorem wd_906 : (Jvm.Cond.code ({ cls := "GoneIntoItsTunnelModel", name := "set", desc := "(II)I" } : Jvm.MethodName) prog_9_method_45_code (4 : Nat) (Option.some Jvm.ClassFile.FieldType.int)) ∈ TBg := tb_4 186 (by decide +kernel) rfl
theorem wd_907 : (Jvm.Cond.methodLink "GoneIntoItsTunnelLaw" (56 : Nat) ({ cls := "GoneIntoItsTunnelModel", name := "pull", desc := "(II)I" } : Jvm.MethodName)) ∈ TBg := tb_4 187 (by decide +kernel) rfl
theorem wd_908 : (Jvm.Cond.instanceMethod ({ cls := "GoneIntoItsTunnelModel", name := "pull", desc := "(II)I" } : Jvm.MethodName)) ∈ TBg := tb_4 188 (by decide +kernel) rfl
theorem wd_909 : (Jvm.Cond.selects "GoneIntoItsTunnelModel" ({ cls := "GoneIntoItsTunnelModel", name := "pull", desc := "(II)I" } : Jvm.MethodName) ({ cls := "GoneIntoItsTunnelModel", name := "pull", desc := "(II)I" } : Jvm.MethodName)) ∈ TBg := tb_4 189 (by decide +kernel) rfl
theorem wd_910 : (Jvm.Cond.code ({ cls := "GoneIntoItsTunnelModel", name := "pull", desc := "(II)I" } : Jvm.MethodName) prog_9_method_46_code (4 : Nat) (Option.some Jvm.ClassFile.FieldType.int)) ∈ TBg := tb_4 190 (by decide +kernel) rfl
theorem wd_911 : (Jvm.Cond.methodLink "GoneIntoItsTunnelLaw" (60 : Nat) ({ cls := "GoneIntoItsTunnelModel", name := "bunch", desc := "(I)I" } : Jvm.MethodName)) ∈ TBg := tb_4 191 (by decide +kernel) rfl
theorem wd_912 : (Jvm.Cond.instanceMethod ({ cls := "GoneIntoItsTunnelModel", name := "bunch", desc := "(I)I" } : Jvm.MethodName)) ∈ TBg := tb_4 192 (by decide +kernel) rfl
theorem wd_913 : (Jvm.Cond.selects "GoneIntoItsTunnelModel" ({ cls := "GoneIntoItsTunnelModel", name := "bunch", desc := "(I)I" } : Jvm.MethodName) ({ cls := "GoneIntoItsTunnelModel", name := "bunch", desc := "(I)I" } : Jvm.MethodName)) ∈ TBg := tb_4 193 (by decide +kernel) rfl
theorem wd_914 : (Jvm.Cond.code ({ cls := "GoneIntoItsTunnelModel", name := "bunch", desc := "(I)I" } : Jvm.MethodName) prog_9_method_47_code (2 : Nat) (Option.some Jvm.ClassFile.FieldType.int)) ∈ TBg := tb_4 194 (by decide +kernel) rfl
theorem wd_915 : (Jvm.Cond.methodLink "GoneIntoItsTunnelModel" (94 : Nat) ({ cls := "GoneIntoItsTunnelModel", name := "isLost", desc := "([II)Z" } : Jvm.MethodName)) ∈ TBg := tb_4 195 (by decide +kernel) rfl
theorem wd_916 : (Jvm.Cond.static ({ cls := "GoneIntoItsTunnelModel", name := "isLost", desc := "([II)Z" } : Jvm.MethodName)) ∈ TBg := tb_4 196 (by decide +kernel) rfl
theorem wd_917 : (Jvm.Cond.code ({ cls := "GoneIntoItsTunnelModel", name := "isLost", desc := "([II)Z" } : Jvm.MethodName) prog_9_method_18_code (2 : Nat) (Option.some Jvm.ClassFile.FieldType.boolean)) ∈ TBg := tb_4 197 (by decide +kernel) rfl
theorem wd_918 : (Jvm.Cond.methodLink "GoneIntoItsTunnelModel" (101 : Nat) ({ cls := "GoneIntoItsTunnelModel", name := "bunches", desc := "([II)V" } : Jvm.MethodName)) ∈ TBg := tb_4 198 (by decide +kernel) rfl
theorem wd_919 : (Jvm.Cond.static ({ cls := "GoneIntoItsTunnelModel", name := "bunches", desc := "([II)V" } : Jvm.MethodName)) ∈ TBg := tb_4 199 (by decide +kernel) rfl
theorem wd_920 : (Jvm.Cond.code ({ cls := "GoneIntoItsTunnelModel", name := "bunches", desc := "([II)V" } : Jvm.MethodName) prog_9_method_23_code (2 : Nat) (Option.none : Option Jvm.ClassFile.FieldType)) ∈ TBg := tb_4 200 (by decide +kernel) rfl
theorem wd_921 : (Jvm.Cond.methodLink "GoneIntoItsTunnelLaw" (64 : Nat) ({ cls := "GoneIntoItsTunnelModel", name := "anew", desc := "()I" } : Jvm.MethodName)) ∈ TBg := tb_4 201 (by decide +kernel) rfl
theorem wd_922 : (Jvm.Cond.instanceMethod ({ cls := "GoneIntoItsTunnelModel", name := "anew", desc := "()I" } : Jvm.MethodName)) ∈ TBg := tb_4 202 (by decide +kernel) rfl
theorem wd_923 : (Jvm.Cond.selects "GoneIntoItsTunnelModel" ({ cls := "GoneIntoItsTunnelModel", name := "anew", desc := "()I" } : Jvm.MethodName) ({ cls := "GoneIntoItsTunnelModel", name := "anew", desc := "()I" } : Jvm.MethodName)) ∈ TBg := tb_4 203 (by decide +kernel) rfl
theorem wd_924 : (Jvm.Cond.code ({ cls := "GoneIntoItsTunnelModel", name := "anew", desc := "()I" } : Jvm.MethodName) prog_9_method_48_code (1 : Nat) (Option.some Jvm.ClassFile.FieldType.int)) ∈ TBg := tb_4 204 (by decide +kernel) rfl
theorem wd_925 : (Jvm.Cond.methodLink "GoneIntoItsTunnelModel" (154 : Nat) ({ cls := "GoneIntoItsTunnelModel", name := "threads", desc := "([I)V" } : Jvm.MethodName)) ∈ TBg := tb_4 205 (by decide +kernel) rfl
theorem wd_926 : (Jvm.Cond.static ({ cls := "GoneIntoItsTunnelModel", name := "threads", desc := "([I)V" } : Jvm.MethodName)) ∈ TBg := tb_4 206 (by decide +kernel) rfl
theorem wd_927 : (Jvm.Cond.code ({ cls := "GoneIntoItsTunnelModel", name := "threads", desc := "([I)V" } : Jvm.MethodName) prog_9_method_26_code (1 : Nat) (Option.none : Option Jvm.ClassFile.FieldType)) ∈ TBg := tb_4 207 (by decide +kernel) rfl
theorem wd_928 : (Jvm.Cond.methodLink "GoneIntoItsTunnelModel" (158 : Nat) ({ cls := "GoneIntoItsTunnelModel", name := "anewSeconds", desc := "([I)I" } : Jvm.MethodName)) ∈ TBg := tb_4 208 (by decide +kernel) rfl
theorem wd_929 : (Jvm.Cond.static ({ cls := "GoneIntoItsTunnelModel", name := "anewSeconds", desc := "([I)I" } : Jvm.MethodName)) ∈ TBg := tb_4 209 (by decide +kernel) rfl
theorem wd_930 : (Jvm.Cond.code ({ cls := "GoneIntoItsTunnelModel", name := "anewSeconds", desc := "([I)I" } : Jvm.MethodName) prog_9_method_24_code (3 : Nat) (Option.some Jvm.ClassFile.FieldType.int)) ∈ TBg := tb_4 210 (by decide +kernel) rfl
theorem wd_931 : (Jvm.Cond.methodLink "GoneIntoItsTunnelModel" (84 : Nat) ({ cls := "GoneIntoItsTunnelModel", name := "threadBy", desc := "([II)I" } : Jvm.MethodName)) ∈ TBg := tb_4 211 (by decide +kernel) rfl
theorem wd_932 : (Jvm.Cond.static ({ cls := "GoneIntoItsTunnelModel", name := "threadBy", desc := "([II)I" } : Jvm.MethodName)) ∈ TBg := tb_4 212 (by decide +kernel) rfl
theorem wd_933 : (Jvm.Cond.code ({ cls := "GoneIntoItsTunnelModel", name := "threadBy", desc := "([II)I" } : Jvm.MethodName) prog_9_method_25_code (2 : Nat) (Option.some Jvm.ClassFile.FieldType.int)) ∈ TBg := tb_4 213 (by decide +kernel) rfl
theorem wd_934 : (Jvm.Cond.methodLink "GoneIntoItsTunnelLaw" (68 : Nat) ({ cls := "GoneIntoItsTunnelModel", name := "wash", desc := "(I)I" } : Jvm.MethodName)) ∈ TBg := tb_4 214 (by decide +kernel) rfl
theorem wd_935 : (Jvm.Cond.instanceMethod ({ cls := "GoneIntoItsTunnelModel", name := "wash", desc := "(I)I" } : Jvm.MethodName)) ∈ TBg := tb_4 215 (by decide +kernel) rfl
theorem wd_936 : (Jvm.Cond.selects "GoneIntoItsTunnelModel" ({ cls := "GoneIntoItsTunnelModel", name := "wash", desc := "(I)I" } : Jvm.MethodName) ({ cls := "GoneIntoItsTunnelModel", name := "wash", desc := "(I)I" } : Jvm.MethodName)) ∈ TBg := tb_4 216 (by decide +kernel) rfl
theorem wd_937 : (Jvm.Cond.code ({ cls := "GoneIntoItsTunnelModel", name := "wash", desc := "(I)I" } : Jvm.MethodName) prog_9_method_49_code (2 : Nat) (Option.some Jvm.ClassFile.FieldType.int)) ∈ TBg := tb_4 217 (by decide +kernel) rfl
theorem wd_938 : (Jvm.Cond.methodLink "GoneIntoItsTunnelModel" (161 : Nat) ({ cls := "GoneIntoItsTunnelModel", name := "lostMany", desc := "([I)I" } : Jvm.MethodName)) ∈ TBg := tb_4 218 (by decide +kernel) rfl
theorem wd_939 : (Jvm.Cond.static ({ cls := "GoneIntoItsTunnelModel", name := "lostMany", desc := "([I)I" } : Jvm.MethodName)) ∈ TBg := tb_4 219 (by decide +kernel) rfl
theorem wd_940 : (Jvm.Cond.code ({ cls := "GoneIntoItsTunnelModel", name := "lostMany", desc := "([I)I" } : Jvm.MethodName) prog_9_method_29_code (1 : Nat) (Option.some Jvm.ClassFile.FieldType.int)) ∈ TBg := tb_4 220 (by decide +kernel) rfl
theorem wd_941 : (Jvm.Cond.methodLink "GoneIntoItsTunnelLaw" (72 : Nat) ({ cls := "GoneIntoItsTunnelModel", name := "of", desc := "(II)I" } : Jvm.MethodName)) ∈ TBg := tb_4 221 (by decide +kernel) rfl
theorem wd_942 : (Jvm.Cond.instanceMethod ({ cls := "GoneIntoItsTunnelModel", name := "of", desc := "(II)I" } : Jvm.MethodName)) ∈ TBg := tb_4 222 (by decide +kernel) rfl
theorem wd_943 : (Jvm.Cond.selects "GoneIntoItsTunnelModel" ({ cls := "GoneIntoItsTunnelModel", name := "of", desc := "(II)I" } : Jvm.MethodName) ({ cls := "GoneIntoItsTunnelModel", name := "of", desc := "(II)I" } : Jvm.MethodName)) ∈ TBg := tb_4 223 (by decide +kernel) rfl
theorem wd_944 : (Jvm.Cond.code ({ cls := "GoneIntoItsTunnelModel", name := "of", desc := "(II)I" } : Jvm.MethodName) prog_9_method_50_code (4 : Nat) (Option.some Jvm.ClassFile.FieldType.int)) ∈ TBg := tb_4 224 (by decide +kernel) rfl
theorem wd_945 : (Jvm.Cond.methodLink "GoneIntoItsTunnelLaw" (76 : Nat) ({ cls := "GoneIntoItsTunnelModel", name := "out", desc := "(II)I" } : Jvm.MethodName)) ∈ TBg := tb_4 225 (by decide +kernel) rfl
theorem wd_946 : (Jvm.Cond.instanceMethod ({ cls := "GoneIntoItsTunnelModel", name := "out", desc := "(II)I" } : Jvm.MethodName)) ∈ TBg := tb_4 226 (by decide +kernel) rfl
theorem wd_947 : (Jvm.Cond.selects "GoneIntoItsTunnelModel" ({ cls := "GoneIntoItsTunnelModel", name := "out", desc := "(II)I" } : Jvm.MethodName) ({ cls := "GoneIntoItsTunnelModel", name := "out", desc := "(II)I" } : Jvm.MethodName)) ∈ TBg := tb_4 227 (by decide +kernel) rfl
theorem wd_948 : (Jvm.Cond.code ({ cls := "GoneIntoItsTunnelModel", name := "out", desc := "(II)I" } : Jvm.MethodName) prog_9_method_52_code (4 : Nat) (Option.some Jvm.ClassFile.FieldType.int)) ∈ TBg := tb_4 228 (by decide +kernel) rfl
theorem wd_949 : (Jvm.Cond.methodLink "GoneIntoItsTunnelModel" (105 : Nat) ({ cls := "GoneIntoItsTunnelModel", name := "outSeconds", desc := "([II)I" } : Jvm.MethodName)) ∈ TBg := tb_4 229 (by decide +kernel) rfl
theorem wd_951 : (Jvm.Cond.instanceMethod ({ cls := "GoneIntoItsTunnelModel", name := "outSeconds", desc := "([II)I" } : Jvm.MethodName)) ∈ TBg := tb_4 231 (by decide +kernel) rfl
theorem wd_952 : (Jvm.Cond.code ({ cls := "GoneIntoItsTunnelModel", name := "outSeconds", desc := "([II)I" } : Jvm.MethodName) prog_9_method_27_code (6 : Nat) (Option.some Jvm.ClassFile.FieldType.int)) ∈ TBg := tb_4 232 (by decide +kernel) rfl
theorem wd_953 : (Jvm.Cond.methodLink "GoneIntoItsTunnelModel" (164 : Nat) ({ cls := "GoneIntoItsTunnelModel", name := "costliest", desc := "(I)I" } : Jvm.MethodName)) ∈ TBg := tb_4 233 (by decide +kernel) rfl
theorem wd_955 : (Jvm.Cond.instanceMethod ({ cls := "GoneIntoItsTunnelModel", name := "costliest", desc := "(I)I" } : Jvm.MethodName)) ∈ TBg := tb_4 235 (by decide +kernel) rfl
theorem wd_956 : (Jvm.Cond.code ({ cls := "GoneIntoItsTunnelModel", name := "costliest", desc := "(I)I" } : Jvm.MethodName) prog_9_method_51_code (5 : Nat) (Option.some Jvm.ClassFile.FieldType.int)) ∈ TBg := tb_4 236 (by decide +kernel) rfl
theorem wd_957 : (Jvm.Cond.methodLink "GoneIntoItsTunnelLaw" (80 : Nat) ({ cls := "GoneIntoItsTunnelModel", name := "soonest", desc := "()I" } : Jvm.MethodName)) ∈ TBg := tb_4 237 (by decide +kernel) rfl
theorem wd_958 : (Jvm.Cond.instanceMethod ({ cls := "GoneIntoItsTunnelModel", name := "soonest", desc := "()I" } : Jvm.MethodName)) ∈ TBg := tb_4 238 (by decide +kernel) rfl
theorem wd_959 : (Jvm.Cond.selects "GoneIntoItsTunnelModel" ({ cls := "GoneIntoItsTunnelModel", name := "soonest", desc := "()I" } : Jvm.MethodName) ({ cls := "GoneIntoItsTunnelModel", name := "soonest", desc := "()I" } : Jvm.MethodName)) ∈ TBg := tb_4 239 (by decide +kernel) rfl
theorem wd_960 : (Jvm.Cond.code ({ cls := "GoneIntoItsTunnelModel", name := "soonest", desc := "()I" } : Jvm.MethodName) prog_9_method_53_code (3 : Nat) (Option.some Jvm.ClassFile.FieldType.int)) ∈ TBg := tb_5 0 (by decide +kernel) rfl
theorem wd_961 : (Jvm.Cond.methodLink "GoneIntoItsTunnelLaw" (84 : Nat) ({ cls := "GoneIntoItsTunnelModel", name := "better", desc := "(I)I" } : Jvm.MethodName)) ∈ TBg := tb_5 1 (by decide +kernel) rfl
theorem wd_962 : (Jvm.Cond.instanceMethod ({ cls := "GoneIntoItsTunnelModel", name := "better", desc := "(I)I" } : Jvm.MethodName)) ∈ TBg := tb_5 2 (by decide +kernel) rfl
theorem wd_963 : (Jvm.Cond.selects "GoneIntoItsTunnelModel" ({ cls := "GoneIntoItsTunnelModel", name := "better", desc := "(I)I" } : Jvm.MethodName) ({ cls := "GoneIntoItsTunnelModel", name := "better", desc := "(I)I" } : Jvm.MethodName)) ∈ TBg := tb_5 3 (by decide +kernel) rfl
theorem wd_964 : (Jvm.Cond.code ({ cls := "GoneIntoItsTunnelModel", name := "better", desc := "(I)I" } : Jvm.MethodName) prog_9_method_54_code (4 : Nat) (Option.some Jvm.ClassFile.FieldType.int)) ∈ TBg := tb_5 4 (by decide +kernel) rfl
theorem wd_965 : (Jvm.Cond.methodLink "GoneIntoItsTunnelModel" (167 : Nat) ({ cls := "GoneIntoItsTunnelModel", name := "allSeconds", desc := "([I)I" } : Jvm.MethodName)) ∈ TBg := tb_5 5 (by decide +kernel) rfl
theorem wd_967 : (Jvm.Cond.instanceMethod ({ cls := "GoneIntoItsTunnelModel", name := "allSeconds", desc := "([I)I" } : Jvm.MethodName)) ∈ TBg := tb_5 7 (by decide +kernel) rfl
theorem wd_968 : (Jvm.Cond.code ({ cls := "GoneIntoItsTunnelModel", name := "allSeconds", desc := "([I)I" } : Jvm.MethodName) prog_9_method_28_code (4 : Nat) (Option.some Jvm.ClassFile.FieldType.int)) ∈ TBg := tb_5 8 (by decide +kernel) rfl
theorem wd_969 : (Jvm.Cond.methodLink "GoneIntoItsTunnelLaw" (88 : Nat) ({ cls := "GoneIntoItsTunnelModel", name := "inIn", desc := "(II)I" } : Jvm.MethodName)) ∈ TBg := tb_5 9 (by decide +kernel) rfl
theorem wd_970 : (Jvm.Cond.instanceMethod ({ cls := "GoneIntoItsTunnelModel", name := "inIn", desc := "(II)I" } : Jvm.MethodName)) ∈ TBg := tb_5 10 (by decide +kernel) rfl
theorem wd_971 : (Jvm.Cond.selects "GoneIntoItsTunnelModel" ({ cls := "GoneIntoItsTunnelModel", name := "inIn", desc := "(II)I" } : Jvm.MethodName) ({ cls := "GoneIntoItsTunnelModel", name := "inIn", desc := "(II)I" } : Jvm.MethodName)) ∈ TBg := tb_5 11 (by decide +kernel) rfl
theorem wd_972 : (Jvm.Cond.code ({ cls := "GoneIntoItsTunnelModel", name := "inIn", desc := "(II)I" } : Jvm.MethodName) prog_9_method_56_code (4 : Nat) (Option.some Jvm.ClassFile.FieldType.int)) ∈ TBg := tb_5 12 (by decide +kernel) rfl
theorem wd_973 : (Jvm.Cond.methodLink "GoneIntoItsTunnelModel" (170 : Nat) ({ cls := "GoneIntoItsTunnelModel", name := "wrongWashes", desc := "(I)I" } : Jvm.MethodName)) ∈ TBg := tb_5 13 (by decide +kernel) rfl
theorem wd_974 : (Jvm.Cond.static ({ cls := "GoneIntoItsTunnelModel", name := "wrongWashes", desc := "(I)I" } : Jvm.MethodName)) ∈ TBg := tb_5 14 (by decide +kernel) rfl
theorem wd_975 : (Jvm.Cond.code ({ cls := "GoneIntoItsTunnelModel", name := "wrongWashes", desc := "(I)I" } : Jvm.MethodName) prog_9_method_55_code (1 : Nat) (Option.some Jvm.ClassFile.FieldType.int)) ∈ TBg := tb_5 15 (by decide +kernel) rfl
theorem wd_976 : (Jvm.Cond.methodLink "GoneIntoItsTunnelLaw" (92 : Nat) ({ cls := "GoneIntoItsTunnelModel", name := "lost", desc := "(I)I" } : Jvm.MethodName)) ∈ TBg := tb_5 16 (by decide +kernel) rfl
theorem wd_977 : (Jvm.Cond.instanceMethod ({ cls := "GoneIntoItsTunnelModel", name := "lost", desc := "(I)I" } : Jvm.MethodName)) ∈ TBg := tb_5 17 (by decide +kernel) rfl
theorem wd_978 : (Jvm.Cond.selects "GoneIntoItsTunnelModel" ({ cls := "GoneIntoItsTunnelModel", name := "lost", desc := "(I)I" } : Jvm.MethodName) ({ cls := "GoneIntoItsTunnelModel", name := "lost", desc := "(I)I" } : Jvm.MethodName)) ∈ TBg := tb_5 18 (by decide +kernel) rfl
theorem wd_979 : (Jvm.Cond.code ({ cls := "GoneIntoItsTunnelModel", name := "lost", desc := "(I)I" } : Jvm.MethodName) prog_9_method_57_code (4 : Nat) (Option.some Jvm.ClassFile.FieldType.int)) ∈ TBg := tb_5 19 (by decide +kernel) rfl
theorem wd_980 : (Jvm.Cond.methodLink "GoneIntoItsTunnelLaw" (96 : Nat) ({ cls := "GoneIntoItsTunnelModel", name := "still", desc := "()I" } : Jvm.MethodName)) ∈ TBg := tb_5 20 (by decide +kernel) rfl
theorem wd_981 : (Jvm.Cond.instanceMethod ({ cls := "GoneIntoItsTunnelModel", name := "still", desc := "()I" } : Jvm.MethodName)) ∈ TBg := tb_5 21 (by decide +kernel) rfl
theorem wd_982 : (Jvm.Cond.selects "GoneIntoItsTunnelModel" ({ cls := "GoneIntoItsTunnelModel", name := "still", desc := "()I" } : Jvm.MethodName) ({ cls := "GoneIntoItsTunnelModel", name := "still", desc := "()I" } : Jvm.MethodName)) ∈ TBg := tb_5 22 (by decide +kernel) rfl
theorem wd_983 : (Jvm.Cond.code ({ cls := "GoneIntoItsTunnelModel", name := "still", desc := "()I" } : Jvm.MethodName) prog_9_method_58_code (2 : Nat) (Option.some Jvm.ClassFile.FieldType.int)) ∈ TBg := tb_5 23 (by decide +kernel) rfl
theorem wd_984 : (Jvm.Cond.methodLink "GoneIntoItsTunnelLaw" (100 : Nat) ({ cls := "GoneIntoItsTunnelModel", name := "keep", desc := "(I)I" } : Jvm.MethodName)) ∈ TBg := tb_5 24 (by decide +kernel) rfl
theorem wd_985 : (Jvm.Cond.instanceMethod ({ cls := "GoneIntoItsTunnelModel", name := "keep", desc := "(I)I" } : Jvm.MethodName)) ∈ TBg := tb_5 25 (by decide +kernel) rfl
theorem wd_986 : (Jvm.Cond.selects "GoneIntoItsTunnelModel" ({ cls := "GoneIntoItsTunnelModel", name := "keep", desc := "(I)I" } : Jvm.MethodName) ({ cls := "GoneIntoItsTunnelModel", name := "keep", desc := "(I)I" } : Jvm.MethodName)) ∈ TBg := tb_5 26 (by decide +kernel) rfl
theorem wd_987 : (Jvm.Cond.code ({ cls := "GoneIntoItsTunnelModel", name := "keep", desc := "(I)I" } : Jvm.MethodName) prog_9_method_60_code (6 : Nat) (Option.some Jvm.ClassFile.FieldType.int)) ∈ TBg := tb_5 27 (by decide +kernel) rfl
theorem wd_988 : (Jvm.Cond.methodLink "GoneIntoItsTunnelModel" (173 : Nat) ({ cls := "GoneIntoItsTunnelModel", name := "wrongSeconds", desc := "(I)I" } : Jvm.MethodName)) ∈ TBg := tb_5 28 (by decide +kernel) rfl
theorem wd_989 : (Jvm.Cond.static ({ cls := "GoneIntoItsTunnelModel", name := "wrongSeconds", desc := "(I)I" } : Jvm.MethodName)) ∈ TBg := tb_5 29 (by decide +kernel) rfl
theorem wd_990 : (Jvm.Cond.code ({ cls := "GoneIntoItsTunnelModel", name := "wrongSeconds", desc := "(I)I" } : Jvm.MethodName) prog_9_method_59_code (1 : Nat) (Option.some Jvm.ClassFile.FieldType.int)) ∈ TBg := tb_5 30 (by decide +kernel) rfl
theorem wd_991 : (Jvm.Cond.methodLink "GoneIntoItsTunnelLaw" (104 : Nat) ({ cls := "GoneIntoItsTunnelModel", name := "deep", desc := "(II)I" } : Jvm.MethodName)) ∈ TBg := tb_5 31 (by decide +kernel) rfl
theorem wd_992 : (Jvm.Cond.instanceMethod ({ cls := "GoneIntoItsTunnelModel", name := "deep", desc := "(II)I" } : Jvm.MethodName)) ∈ TBg := tb_5 32 (by decide +kernel) rfl
theorem wd_993 : (Jvm.Cond.selects "GoneIntoItsTunnelModel" ({ cls := "GoneIntoItsTunnelModel", name := "deep", desc := "(II)I" } : Jvm.MethodName) ({ cls := "GoneIntoItsTunnelModel", name := "deep", desc := "(II)I" } : Jvm.MethodName)) ∈ TBg := tb_5 33 (by decide +kernel) rfl
theorem wd_994 : (Jvm.Cond.code ({ cls := "GoneIntoItsTunnelModel", name := "deep", desc := "(II)I" } : Jvm.MethodName) prog_9_method_61_code (6 : Nat) (Option.some Jvm.ClassFile.FieldType.int)) ∈ TBg := tb_5 34 (by decide +kernel) rfl
theorem wd_995 : (Jvm.Cond.methodLink "GoneIntoItsTunnelLaw" (108 : Nat) ({ cls := "GoneIntoItsTunnelModel", name := "stops", desc := "(II)I" } : Jvm.MethodName)) ∈ TBg := tb_5 35 (by decide +kernel) rfl
theorem wd_996 : (Jvm.Cond.instanceMethod ({ cls := "GoneIntoItsTunnelModel", name := "stops", desc := "(II)I" } : Jvm.MethodName)) ∈ TBg := tb_5 36 (by decide +kernel) rfl
theorem wd_997 : (Jvm.Cond.selects "GoneIntoItsTunnelModel" ({ cls := "GoneIntoItsTunnelModel", name := "stops", desc := "(II)I" } : Jvm.MethodName) ({ cls := "GoneIntoItsTunnelModel", name := "stops", desc := "(II)I" } : Jvm.MethodName)) ∈ TBg := tb_5 37 (by decide +kernel) rfl
theorem wd_998 : (Jvm.Cond.code ({ cls := "GoneIntoItsTunnelModel", name := "stops", desc := "(II)I" } : Jvm.MethodName) prog_9_method_63_code (8 : Nat) (Option.some Jvm.ClassFile.FieldType.int)) ∈ TBg := tb_5 38 (by decide +kernel) rfl
theorem wd_999 : (Jvm.Cond.methodLink "GoneIntoItsTunnelModel" (179 : Nat) ({ cls := "GoneIntoItsTunnelModel", name := "mended", desc := "(I)I" } : Jvm.MethodName)) ∈ TBg := tb_5 39 (by decide +kernel) rfl
theorem wd_1001 : (Jvm.Cond.instanceMethod ({ cls := "GoneIntoItsTunnelModel", name := "mended", desc := "(I)I" } : Jvm.MethodName)) ∈ TBg := tb_5 41 (by decide +kernel) rfl
theorem wd_1002 : (Jvm.Cond.code ({ cls := "GoneIntoItsTunnelModel", name := "mended", desc := "(I)I" } : Jvm.MethodName) prog_9_method_62_code (7 : Nat) (Option.some Jvm.ClassFile.FieldType.int)) ∈ TBg := tb_5 42 (by decide +kernel) rfl
theorem wd_1003 : (Jvm.Cond.methodLink "GoneIntoItsTunnelLaw" (112 : Nat) ({ cls := "GoneIntoItsTunnelModel", name := "care", desc := "(I)I" } : Jvm.MethodName)) ∈ TBg := tb_5 43 (by decide +kernel) rfl
theorem wd_1004 : (Jvm.Cond.instanceMethod ({ cls := "GoneIntoItsTunnelModel", name := "care", desc := "(I)I" } : Jvm.MethodName)) ∈ TBg := tb_5 44 (by decide +kernel) rfl
theorem wd_1005 : (Jvm.Cond.selects "GoneIntoItsTunnelModel" ({ cls := "GoneIntoItsTunnelModel", name := "care", desc := "(I)I" } : Jvm.MethodName) ({ cls := "GoneIntoItsTunnelModel", name := "care", desc := "(I)I" } : Jvm.MethodName)) ∈ TBg := tb_5 45 (by decide +kernel) rfl
theorem wd_1006 : (Jvm.Cond.code ({ cls := "GoneIntoItsTunnelModel", name := "care", desc := "(I)I" } : Jvm.MethodName) prog_9_method_64_code (4 : Nat) (Option.some Jvm.ClassFile.FieldType.int)) ∈ TBg := tb_5 46 (by decide +kernel) rfl
theorem wd_1007 : (Jvm.Cond.methodLink "GoneIntoItsTunnelLaw" (116 : Nat) ({ cls := "GoneIntoItsTunnelModel", name := "holdsUp", desc := "(I)I" } : Jvm.MethodName)) ∈ TBg := tb_5 47 (by decide +kernel) rfl
theorem wd_1008 : (Jvm.Cond.instanceMethod ({ cls := "GoneIntoItsTunnelModel", name := "holdsUp", desc := "(I)I" } : Jvm.MethodName)) ∈ TBg := tb_5 48 (by decide +kernel) rfl
theorem wd_1009 : (Jvm.Cond.selects "GoneIntoItsTunnelModel" ({ cls := "GoneIntoItsTunnelModel", name := "holdsUp", desc := "(I)I" } : Jvm.MethodName) ({ cls := "GoneIntoItsTunnelModel", name := "holdsUp", desc := "(I)I" } : Jvm.MethodName)) ∈ TBg := tb_5 49 (by decide +kernel) rfl
theorem wd_1010 : (Jvm.Cond.code ({ cls := "GoneIntoItsTunnelModel", name := "holdsUp", desc := "(I)I" } : Jvm.MethodName) prog_9_method_65_code (6 : Nat) (Option.some Jvm.ClassFile.FieldType.int)) ∈ TBg := tb_5 50 (by decide +kernel) rfl
theorem wd_1011 : (Jvm.Cond.methodLink "GoneIntoItsTunnelLaw" (120 : Nat) ({ cls := "GoneIntoItsTunnelModel", name := "middle", desc := "()I" } : Jvm.MethodName)) ∈ TBg := tb_5 51 (by decide +kernel) rfl
theorem wd_1012 : (Jvm.Cond.instanceMethod ({ cls := "GoneIntoItsTunnelModel", name := "middle", desc := "()I" } : Jvm.MethodName)) ∈ TBg := tb_5 52 (by decide +kernel) rfl
theorem wd_1013 : (Jvm.Cond.selects "GoneIntoItsTunnelModel" ({ cls := "GoneIntoItsTunnelModel", name := "middle", desc := "()I" } : Jvm.MethodName) ({ cls := "GoneIntoItsTunnelModel", name := "middle", desc := "()I" } : Jvm.MethodName)) ∈ TBg := tb_5 53 (by decide +kernel) rfl
theorem wd_1014 : (Jvm.Cond.code ({ cls := "GoneIntoItsTunnelModel", name := "middle", desc := "()I" } : Jvm.MethodName) prog_9_method_66_code (3 : Nat) (Option.some Jvm.ClassFile.FieldType.int)) ∈ TBg := tb_5 54 (by decide +kernel) rfl
theorem wd_1015 : (Jvm.Cond.methodLink "GoneIntoItsTunnelLaw" (124 : Nat) ({ cls := "GoneIntoItsTunnelModel", name := "cutOff", desc := "()I" } : Jvm.MethodName)) ∈ TBg := tb_5 55 (by decide +kernel) rfl
theorem wd_1016 : (Jvm.Cond.instanceMethod ({ cls := "GoneIntoItsTunnelModel", name := "cutOff", desc := "()I" } : Jvm.MethodName)) ∈ TBg := tb_5 56 (by decide +kernel) rfl
theorem wd_1017 : (Jvm.Cond.selects "GoneIntoItsTunnelModel" ({ cls := "GoneIntoItsTunnelModel", name := "cutOff", desc := "()I" } : Jvm.MethodName) ({ cls := "GoneIntoItsTunnelModel", name := "cutOff", desc := "()I" } : Jvm.MethodName)) ∈ TBg := tb_5 57 (by decide +kernel) rfl
theorem wd_1018 : (Jvm.Cond.code ({ cls := "GoneIntoItsTunnelModel", name := "cutOff", desc := "()I" } : Jvm.MethodName) prog_9_method_67_code (1 : Nat) (Option.some Jvm.ClassFile.FieldType.int)) ∈ TBg := tb_5 58 (by decide +kernel) rfl
theorem wd_1019 : (Jvm.Cond.methodLink "GoneIntoItsTunnelLaw" (128 : Nat) ({ cls := "GoneIntoItsTunnelModel", name := "bestPin", desc := "(I)I" } : Jvm.MethodName)) ∈ TBg := tb_5 59 (by decide +kernel) rfl
theorem wd_1020 : (Jvm.Cond.instanceMethod ({ cls := "GoneIntoItsTunnelModel", name := "bestPin", desc := "(I)I" } : Jvm.MethodName)) ∈ TBg := tb_5 60 (by decide +kernel) rfl
theorem wd_1021 : (Jvm.Cond.selects "GoneIntoItsTunnelModel" ({ cls := "GoneIntoItsTunnelModel", name := "bestPin", desc := "(I)I" } : Jvm.MethodName) ({ cls := "GoneIntoItsTunnelModel", name := "bestPin", desc := "(I)I" } : Jvm.MethodName)) ∈ TBg := tb_5 61 (by decide +kernel) rfl
theorem wd_1022 : (Jvm.Cond.code ({ cls := "GoneIntoItsTunnelModel", name := "bestPin", desc := "(I)I" } : Jvm.MethodName) prog_9_method_68_code (4 : Nat) (Option.some Jvm.ClassFile.FieldType.int)) ∈ TBg := tb_5 62 (by decide +kernel) rfl
theorem wd_1023 : (Jvm.Cond.methodLink "GoneIntoItsTunnelLaw" (132 : Nat) ({ cls := "GoneIntoItsTunnelModel", name := "worst", desc := "()I" } : Jvm.MethodName)) ∈ TBg := tb_5 63 (by decide +kernel) rfl
theorem wd_1024 : (Jvm.Cond.instanceMethod ({ cls := "GoneIntoItsTunnelModel", name := "worst", desc := "()I" } : Jvm.MethodName)) ∈ TBg := tb_5 64 (by decide +kernel) rfl
theorem wd_1025 : (Jvm.Cond.selects "GoneIntoItsTunnelModel" ({ cls := "GoneIntoItsTunnelModel", name := "worst", desc := "()I" } : Jvm.MethodName) ({ cls := "GoneIntoItsTunnelModel", name := "worst", desc := "()I" } : Jvm.MethodName)) ∈ TBg := tb_5 65 (by decide +kernel) rfl
theorem wd_1026 : (Jvm.Cond.code ({ cls := "GoneIntoItsTunnelModel", name := "worst", desc := "()I" } : Jvm.MethodName) prog_9_method_69_code (3 : Nat) (Option.some Jvm.ClassFile.FieldType.int)) ∈ TBg := tb_5 66 (by decide +kernel) rfl
theorem wd_1027 : (Jvm.Cond.methodLink "GoneIntoItsTunnelLaw" (140 : Nat) ({ cls := "GoneIntoItsTunnelModel", name := "row", desc := "(I)I" } : Jvm.MethodName)) ∈ TBg := tb_5 67 (by decide +kernel) rfl
theorem wd_1028 : (Jvm.Cond.instanceMethod ({ cls := "GoneIntoItsTunnelModel", name := "row", desc := "(I)I" } : Jvm.MethodName)) ∈ TBg := tb_5 68 (by decide +kernel) rfl
theorem wd_1029 : (Jvm.Cond.selects "GoneIntoItsTunnelModel" ({ cls := "GoneIntoItsTunnelModel", name := "row", desc := "(I)I" } : Jvm.MethodName) ({ cls := "GoneIntoItsTunnelModel", name := "row", desc := "(I)I" } : Jvm.MethodName)) ∈ TBg := tb_5 69 (by decide +kernel) rfl
theorem wd_1030 : (Jvm.Cond.code ({ cls := "GoneIntoItsTunnelModel", name := "row", desc := "(I)I" } : Jvm.MethodName) prog_9_method_70_code (2 : Nat) (Option.some Jvm.ClassFile.FieldType.int)) ∈ TBg := tb_5 70 (by decide +kernel) rfl
theorem wd_1031 : (Jvm.Cond.methodLink "GoneIntoItsTunnelLaw" (136 : Nat) ({ cls := "GoneIntoItsTunnelModel", name := "which", desc := "(II)I" } : Jvm.MethodName)) ∈ TBg := tb_5 71 (by decide +kernel) rfl
theorem wd_1032 : (Jvm.Cond.instanceMethod ({ cls := "GoneIntoItsTunnelModel", name := "which", desc := "(II)I" } : Jvm.MethodName)) ∈ TBg := tb_5 72 (by decide +kernel) rfl
theorem wd_1033 : (Jvm.Cond.selects "GoneIntoItsTunnelModel" ({ cls := "GoneIntoItsTunnelModel", name := "which", desc := "(II)I" } : Jvm.MethodName) ({ cls := "GoneIntoItsTunnelModel", name := "which", desc := "(II)I" } : Jvm.MethodName)) ∈ TBg := tb_5 73 (by decide +kernel) rfl
theorem wd_1034 : (Jvm.Cond.code ({ cls := "GoneIntoItsTunnelModel", name := "which", desc := "(II)I" } : Jvm.MethodName) prog_9_method_72_code (5 : Nat) (Option.some Jvm.ClassFile.FieldType.int)) ∈ TBg := tb_5 74 (by decide +kernel) rfl
theorem wd_1035 : (Jvm.Cond.methodLink "GoneIntoItsTunnelModel" (185 : Nat) ({ cls := "GoneIntoItsTunnelModel", name := "firstWrong", desc := "(II)I" } : Jvm.MethodName)) ∈ TBg := tb_5 75 (by decide +kernel) rfl
theorem wd_1037 : (Jvm.Cond.instanceMethod ({ cls := "GoneIntoItsTunnelModel", name := "firstWrong", desc := "(II)I" } : Jvm.MethodName)) ∈ TBg := tb_5 77 (by decide +kernel) rfl
theorem wd_1038 : (Jvm.Cond.code ({ cls := "GoneIntoItsTunnelModel", name := "firstWrong", desc := "(II)I" } : Jvm.MethodName) prog_9_method_71_code (5 : Nat) (Option.some Jvm.ClassFile.FieldType.int)) ∈ TBg := tb_5 78 (by decide +kernel) rfl
theorem wd_1039 : (Jvm.Cond.methodLink "GoneIntoItsTunnelLaw" (144 : Nat) ({ cls := "GoneIntoItsTunnelModel", name := "judge", desc := "(I)I" } : Jvm.MethodName)) ∈ TBg := tb_5 79 (by decide +kernel) rfl
theorem wd_1040 : (Jvm.Cond.instanceMethod ({ cls := "GoneIntoItsTunnelModel", name := "judge", desc := "(I)I" } : Jvm.MethodName)) ∈ TBg := tb_5 80 (by decide +kernel) rfl
theorem wd_1041 : (Jvm.Cond.selects "GoneIntoItsTunnelModel" ({ cls := "GoneIntoItsTunnelModel", name := "judge", desc := "(I)I" } : Jvm.MethodName) ({ cls := "GoneIntoItsTunnelModel", name := "judge", desc := "(I)I" } : Jvm.MethodName)) ∈ TBg := tb_5 81 (by decide +kernel) rfl
theorem wd_1042 : (Jvm.Cond.code ({ cls := "GoneIntoItsTunnelModel", name := "judge", desc := "(I)I" } : Jvm.MethodName) prog_9_method_73_code (3 : Nat) (Option.some Jvm.ClassFile.FieldType.int)) ∈ TBg := tb_5 82 (by decide +kernel) rfl
theorem wd_1043 : (Jvm.Cond.methodLink "GoneIntoItsTunnelLaw" (148 : Nat) ({ cls := "GoneIntoItsTunnelModel", name := "lots", desc := "(III)I" } : Jvm.MethodName)) ∈ TBg := tb_5 83 (by decide +kernel) rfl
theorem wd_1044 : (Jvm.Cond.instanceMethod ({ cls := "GoneIntoItsTunnelModel", name := "lots", desc := "(III)I" } : Jvm.MethodName)) ∈ TBg := tb_5 84 (by decide +kernel) rfl
theorem wd_1045 : (Jvm.Cond.selects "GoneIntoItsTunnelModel" ({ cls := "GoneIntoItsTunnelModel", name := "lots", desc := "(III)I" } : Jvm.MethodName) ({ cls := "GoneIntoItsTunnelModel", name := "lots", desc := "(III)I" } : Jvm.MethodName)) ∈ TBg := tb_5 85 (by decide +kernel) rfl
theorem wd_1046 : (Jvm.Cond.code ({ cls := "GoneIntoItsTunnelModel", name := "lots", desc := "(III)I" } : Jvm.MethodName) prog_9_method_75_code (7 : Nat) (Option.some Jvm.ClassFile.FieldType.int)) ∈ TBg := tb_5 86 (by decide +kernel) rfl
theorem wd_1047 : (Jvm.Cond.methodLink "GoneIntoItsTunnelModel" (194 : Nat) ({ cls := "GoneIntoItsTunnelModel", name := "drawn", desc := "(I)I" } : Jvm.MethodName)) ∈ TBg := tb_5 87 (by decide +kernel) rfl
theorem wd_1049 : (Jvm.Cond.instanceMethod ({ cls := "GoneIntoItsTunnelModel", name := "drawn", desc := "(I)I" } : Jvm.MethodName)) ∈ TBg := tb_5 89 (by decide +kernel) rfl
theorem wd_1050 : (Jvm.Cond.code ({ cls := "GoneIntoItsTunnelModel", name := "drawn", desc := "(I)I" } : Jvm.MethodName) prog_9_method_74_code (2 : Nat) (Option.some Jvm.ClassFile.FieldType.int)) ∈ TBg := tb_5 90 (by decide +kernel) rfl
theorem wd_1051 : (Jvm.Cond.constant "GoneIntoItsTunnelModel" (191 : Nat) (1664525 : Int32)) ∈ TBg := tb_5 91 (by decide +kernel) rfl
theorem wd_1052 : (Jvm.Cond.constant "GoneIntoItsTunnelModel" (192 : Nat) (1013904223 : Int32)) ∈ TBg := tb_5 92 (by decide +kernel) rfl
theorem wd_1053 : (Jvm.Cond.constant "GoneIntoItsTunnelModel" (193 : Nat) (2147483647 : Int32)) ∈ TBg := tb_5 93 (by decide +kernel) rfl
theorem wd_1054 : (Jvm.Cond.methodLink "GoneIntoItsTunnelLaw" (152 : Nat) ({ cls := "GoneIntoItsTunnelModel", name := "image", desc := "()I" } : Jvm.MethodName)) ∈ TBg := tb_5 94 (by decide +kernel) rfl
theorem wd_1055 : (Jvm.Cond.instanceMethod ({ cls := "GoneIntoItsTunnelModel", name := "image", desc := "()I" } : Jvm.MethodName)) ∈ TBg := tb_5 95 (by decide +kernel) rfl
theorem wd_1056 : (Jvm.Cond.selects "GoneIntoItsTunnelModel" ({ cls := "GoneIntoItsTunnelModel", name := "image", desc := "()I" } : Jvm.MethodName) ({ cls := "GoneIntoItsTunnelModel", name := "image", desc := "()I" } : Jvm.MethodName)) ∈ TBg := tb_5 96 (by decide +kernel) rfl
theorem wd_1057 : (Jvm.Cond.code ({ cls := "GoneIntoItsTunnelModel", name := "image", desc := "()I" } : Jvm.MethodName) prog_9_method_76_code (1 : Nat) (Option.some Jvm.ClassFile.FieldType.int)) ∈ TBg := tb_5 97 (by decide +kernel) rfl
theorem wd_1058 : (Jvm.Cond.methodLink "GoneIntoItsTunnelLaw" (156 : Nat) ({ cls := "GoneIntoItsTunnelModel", name := "on", desc := "()I" } : Jvm.MethodName)) ∈ TBg := tb_5 98 (by decide +kernel) rfl
theorem wd_1059 : (Jvm.Cond.instanceMethod ({ cls := "GoneIntoItsTunnelModel", name := "on", desc := "()I" } : Jvm.MethodName)) ∈ TBg := tb_5 99 (by decide +kernel) rfl
theorem wd_1060 : (Jvm.Cond.selects "GoneIntoItsTunnelModel" ({ cls := "GoneIntoItsTunnelModel", name := "on", desc := "()I" } : Jvm.MethodName) ({ cls := "GoneIntoItsTunnelModel", name := "on", desc := "()I" } : Jvm.MethodName)) ∈ TBg := tb_5 100 (by decide +kernel) rfl
theorem wd_1061 : (Jvm.Cond.code ({ cls := "GoneIntoItsTunnelModel", name := "on", desc := "()I" } : Jvm.MethodName) prog_9_method_77_code (1 : Nat) (Option.some Jvm.ClassFile.FieldType.int)) ∈ TBg := tb_5 101 (by decide +kernel) rfl
theorem wd_1062 : (Jvm.Cond.methodLink "GoneIntoItsTunnelLaw" (160 : Nat) ({ cls := "GoneIntoItsTunnelModel", name := "count", desc := "(I)I" } : Jvm.MethodName)) ∈ TBg := tb_5 102 (by decide +kernel) rfl
theorem wd_1063 : (Jvm.Cond.instanceMethod ({ cls := "GoneIntoItsTunnelModel", name := "count", desc := "(I)I" } : Jvm.MethodName)) ∈ TBg := tb_5 103 (by decide +kernel) rfl
theorem wd_1064 : (Jvm.Cond.selects "GoneIntoItsTunnelModel" ({ cls := "GoneIntoItsTunnelModel", name := "count", desc := "(I)I" } : Jvm.MethodName) ({ cls := "GoneIntoItsTunnelModel", name := "count", desc := "(I)I" } : Jvm.MethodName)) ∈ TBg := tb_5 104 (by decide +kernel) rfl
theorem wd_1065 : (Jvm.Cond.code ({ cls := "GoneIntoItsTunnelModel", name := "count", desc := "(I)I" } : Jvm.MethodName) prog_9_method_78_code (4 : Nat) (Option.some Jvm.ClassFile.FieldType.int)) ∈ TBg := tb_5 105 (by decide +kernel) rfl
theorem wd_1066 : (Jvm.Cond.fieldLink "java/lang/String" (9 : Nat) "java/lang/String" "value" "[B") ∈ TBg := tb_5 106 (by decide +kernel) rfl
theorem wd_1067 : (Jvm.Cond.fieldLink "java/lang/String" (15 : Nat) "java/lang/String" "coder" "B") ∈ TBg := tb_5 107 (by decide +kernel) rfl
theorem sl_0 : Cond.selects "GoneIntoItsTunnel" ⟨"GoneIntoItsTunnel", "refuse", "(I)I"⟩ ⟨"GoneIntoItsTunnel", "refuse", "(I)I"⟩ ∈ TBg := tb_at 0 (by decide +kernel) (by decide +kernel)
theorem sl_1 : Cond.selects "GoneIntoItsTunnel" ⟨"GoneIntoItsTunnel", "statementsCome", "()I"⟩ ⟨"GoneIntoItsTunnel", "statementsCome", "()I"⟩ ∈ TBg := tb_at 1 (by decide +kernel) (by decide +kernel)
theorem sl_2 : Cond.selects "GoneIntoItsTunnel" ⟨"GoneIntoItsTunnel", "isAsItMustBe", "(I)Z"⟩ ⟨"GoneIntoItsTunnel", "isAsItMustBe", "(I)Z"⟩ ∈ TBg := tb_at 2 (by decide +kernel) (by decide +kernel)
theorem sl_3 : Cond.selects "GoneIntoItsTunnel" ⟨"GoneIntoItsTunnel", "comes", "(I)V"⟩ ⟨"GoneIntoItsTunnel", "comes", "(I)V"⟩ ∈ TBg := tb_at 3 (by decide +kernel) (by decide +kernel)
theorem sl_4 : Cond.selects "GoneIntoItsTunnel" ⟨"GoneIntoItsTunnel", "refuseAsTold", "(I)I"⟩ ⟨"GoneIntoItsTunnel", "refuseAsTold", "(I)I"⟩ ∈ TBg := tb_at 4 (by decide +kernel) (by decide +kernel)
theorem sl_5 : Cond.selects "GoneIntoItsTunnel$Way" ⟨"GoneIntoItsTunnel$Way", "neverIsOut", "()V"⟩ ⟨"GoneIntoItsTunnel$Way", "neverIsOut", "()V"⟩ ∈ TBg := tb_at 5 (by decide +kernel) (by decide +kernel)
theorem sl_6 : Cond.selects "GoneIntoItsTunnel" ⟨"GoneIntoItsTunnel", "secondsIfLost", "(I)I"⟩ ⟨"GoneIntoItsTunnel", "secondsIfLost", "(I)I"⟩ ∈ TBg := tb_at 6 (by decide +kernel) (by decide +kernel)
theorem sl_7 : Cond.selects "GoneIntoItsTunnel" ⟨"GoneIntoItsTunnel", "washesTillLost", "()I"⟩ ⟨"GoneIntoItsTunnel", "washesTillLost", "()I"⟩ ∈ TBg := tb_at 7 (by decide +kernel) (by decide +kernel)
theorem sl_8 : Cond.selects "GoneIntoItsTunnel" ⟨"GoneIntoItsTunnel", "secondsWithStop", "(II)I"⟩ ⟨"GoneIntoItsTunnel", "secondsWithStop", "(II)I"⟩ ∈ TBg := tb_at 8 (by decide +kernel) (by decide +kernel)
theorem sl_9 : Cond.selects "GoneIntoItsTunnel$Mending" ⟨"GoneIntoItsTunnel$Mending", "mend", "(LGoneIntoItsTunnel$Hem;LGoneIntoItsTunnel$Way;II)V"⟩ ⟨"GoneIntoItsTunnel$Mending", "mend", "(LGoneIntoItsTunnel$Hem;LGoneIntoItsTunnel$Way;II)V"⟩ ∈ TBg := tb_at 9 (by decide +kernel) (by decide +kernel)
theorem sl_10 : Cond.selects "GoneIntoItsTunnel" ⟨"GoneIntoItsTunnel", "rankWithCloth", "(II)I"⟩ ⟨"GoneIntoItsTunnel", "rankWithCloth", "(II)I"⟩ ∈ TBg := tb_at 10 (by decide +kernel) (by decide +kernel)
theorem sl_11 : Cond.selects "GoneIntoItsTunnel" ⟨"GoneIntoItsTunnel", "kindsByRow", "(I)I"⟩ ⟨"GoneIntoItsTunnel", "kindsByRow", "(I)I"⟩ ∈ TBg := tb_at 11 (by decide +kernel) (by decide +kernel)
theorem sl_12 : Cond.selects "GoneIntoItsTunnel" ⟨"GoneIntoItsTunnel", "strengthsByRow", "()I"⟩ ⟨"GoneIntoItsTunnel", "strengthsByRow", "()I"⟩ ∈ TBg := tb_at 12 (by decide +kernel) (by decide +kernel)
theorem sl_13 : Cond.selects "GoneIntoItsTunnel" ⟨"GoneIntoItsTunnel", "lotSeconds", "(I)I"⟩ ⟨"GoneIntoItsTunnel", "lotSeconds", "(I)I"⟩ ∈ TBg := tb_at 13 (by decide +kernel) (by decide +kernel)
theorem sl_14 : Cond.selects "GoneIntoItsTunnel" ⟨"GoneIntoItsTunnel", "refusalsAt", "(I)I"⟩ ⟨"GoneIntoItsTunnel", "refusalsAt", "(I)I"⟩ ∈ TBg := tb_at 14 (by decide +kernel) (by decide +kernel)
theorem sl_15 : Cond.selects "GoneIntoItsTunnelModel" ⟨"GoneIntoItsTunnelModel", "no", "(I)I"⟩ ⟨"GoneIntoItsTunnelModel", "no", "(I)I"⟩ ∈ TBg := tb_at 15 (by decide +kernel) (by decide +kernel)
theorem sl_16 : Cond.selects "GoneIntoItsTunnelModel" ⟨"GoneIntoItsTunnelModel", "readsStatement", "()Z"⟩ ⟨"GoneIntoItsTunnelModel", "readsStatement", "()Z"⟩ ∈ TBg := tb_at 16 (by decide +kernel) (by decide +kernel)
theorem sl_17 : Cond.selects "GoneIntoItsTunnelModel" ⟨"GoneIntoItsTunnelModel", "here", "()I"⟩ ⟨"GoneIntoItsTunnelModel", "here", "()I"⟩ ∈ TBg := tb_at 17 (by decide +kernel) (by decide +kernel)
theorem sl_18 : Cond.selects "GoneIntoItsTunnelModel" ⟨"GoneIntoItsTunnelModel", "readsNumber", "(II)Z"⟩ ⟨"GoneIntoItsTunnelModel", "readsNumber", "(II)Z"⟩ ∈ TBg := tb_at 18 (by decide +kernel) (by decide +kernel)
theorem sl_19 : Cond.selects "GoneIntoItsTunnelModel" ⟨"GoneIntoItsTunnelModel", "readsKind", "()Z"⟩ ⟨"GoneIntoItsTunnelModel", "readsKind", "()Z"⟩ ∈ TBg := tb_at 19 (by decide +kernel) (by decide +kernel)
theorem sl_20 : Cond.selects "GoneIntoItsTunnelModel" ⟨"GoneIntoItsTunnelModel", "readsSigned", "()Z"⟩ ⟨"GoneIntoItsTunnelModel", "readsSigned", "()Z"⟩ ∈ TBg := tb_at 20 (by decide +kernel) (by decide +kernel)
theorem sl_21 : Cond.selects "GoneIntoItsTunnelModel" ⟨"GoneIntoItsTunnelModel", "isDone", "(I)Z"⟩ ⟨"GoneIntoItsTunnelModel", "isDone", "(I)Z"⟩ ∈ TBg := tb_at 21 (by decide +kernel) (by decide +kernel)
theorem sl_22 : Cond.selects "GoneIntoItsTunnelModel" ⟨"GoneIntoItsTunnelModel", "isInch", "(I)Z"⟩ ⟨"GoneIntoItsTunnelModel", "isInch", "(I)Z"⟩ ∈ TBg := tb_at 22 (by decide +kernel) (by decide +kernel)
theorem sl_23 : Cond.selects "GoneIntoItsTunnelModel" ⟨"GoneIntoItsTunnelModel", "noFar", "(I)I"⟩ ⟨"GoneIntoItsTunnelModel", "noFar", "(I)I"⟩ ∈ TBg := tb_at 23 (by decide +kernel) (by decide +kernel)
theorem sl_24 : Cond.selects "GoneIntoItsTunnelModel" ⟨"GoneIntoItsTunnelModel", "outSeconds", "([II)I"⟩ ⟨"GoneIntoItsTunnelModel", "outSeconds", "([II)I"⟩ ∈ TBg := tb_at 24 (by decide +kernel) (by decide +kernel)
theorem sl_25 : Cond.selects "GoneIntoItsTunnelModel" ⟨"GoneIntoItsTunnelModel", "costliest", "(I)I"⟩ ⟨"GoneIntoItsTunnelModel", "costliest", "(I)I"⟩ ∈ TBg := tb_at 25 (by decide +kernel) (by decide +kernel)
theorem sl_26 : Cond.selects "GoneIntoItsTunnelModel" ⟨"GoneIntoItsTunnelModel", "allSeconds", "([I)I"⟩ ⟨"GoneIntoItsTunnelModel", "allSeconds", "([I)I"⟩ ∈ TBg := tb_at 26 (by decide +kernel) (by decide +kernel)
theorem sl_27 : Cond.selects "GoneIntoItsTunnelModel" ⟨"GoneIntoItsTunnelModel", "mended", "(I)I"⟩ ⟨"GoneIntoItsTunnelModel", "mended", "(I)I"⟩ ∈ TBg := tb_at 27 (by decide +kernel) (by decide +kernel)
theorem sl_28 : Cond.selects "GoneIntoItsTunnelModel" ⟨"GoneIntoItsTunnelModel", "firstWrong", "(II)I"⟩ ⟨"GoneIntoItsTunnelModel", "firstWrong", "(II)I"⟩ ∈ TBg := tb_at 28 (by decide +kernel) (by decide +kernel)
theorem sl_29 : Cond.selects "GoneIntoItsTunnelModel" ⟨"GoneIntoItsTunnelModel", "drawn", "(I)I"⟩ ⟨"GoneIntoItsTunnelModel", "drawn", "(I)I"⟩ ∈ TBg := tb_at 29 (by decide +kernel) (by decide +kernel)
