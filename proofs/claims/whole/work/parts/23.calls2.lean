section CALLS2
variable {h : Sto}
theorem x01 {v : Int32} (hv : v = 0 ∨ v = 1) : (v ^^^ 1 = 0 ∨ v ^^^ 1 = 1) ∧ v ^^^ 1 = (if v = 0 then 1 else 0) := by
  rcases hv with rfl | rfl <;> decide
theorem Rel.ok (R : Rel h) : Ok (mr h 18) := R.2.1
theorem s_tie {e : Int32} : Sim [.int e] [.int e] mX6_tie mX7_tie := by
  intro h R
  by_cases he : e = 0 ∨ e = 1
  · have o := id R.2.1
    obtain ⟨-, -, -, o3, o4, -⟩ := o
    have o3 : h 18 3 = 0 ∨ h 18 3 = 1 := o3
    have o4 : h 18 4 = 0 ∨ h 18 4 = 1 := o4
    have b5 : h 1 5 = 0 ∨ h 1 5 = 1 := by rw [R.s3]; exact o3
    have b6 : h 1 6 = 0 ∨ h 1 6 = 1 := by rw [R.s4]; exact o4
    have f1 : ∀ e, ev mX0_isKnotted 0 [.ref 1, .int e] [] h = some (some (.int (if e = 0 then h 1 5 else h 1 6)), h) := fun e => f_isKnotted HC1 b5 b6
    rcases he with rfl | rfl
    · have key : Rel (st (st h 1 5 (h 18 3 ^^^ 1)) 18 3 (h 18 3 ^^^ 1)) := R.slot (j := 3) (by omega) (ok_upd R.2.1 (by omega) ⟨by omega, by omega, fun _ => (x01 o3).1, by omega, by omega⟩)
      have ba : h 18 3 ^^^ 1 = 0 ∨ h 18 3 ^^^ 1 = 1 := (x01 o3).1
      have f2 : ev mX0_isKnotted 0 [.ref 1, .int 0] [] (st h 1 5 (h 18 3 ^^^ 1)) = some (some (.int (h 18 3 ^^^ 1)), st h 1 5 (h 18 3 ^^^ 1)) := by
        rw [f_isKnotted HC1 (by rw [st_at, if_pos ⟨rfl, rfl⟩]; exact ba) (by simp [st_at]; exact b6)]
        simp [st_at]
      have f3 : ev mX0_knot 0 [.ref 1, .int 0, .int (h 18 3 ^^^ 1)] [] h = some (none, st h 1 5 (h 18 3 ^^^ 1)) := by rw [f_knot HC1 ba]; simp
      refine ⟨h 18 3 ^^^ 1, st h 1 5 (h 18 3 ^^^ 1), _, ?_, ?_, key⟩
      · rcases o3 with z | z
        · have y : (0 : Int32) ^^^ 1 = 1 := by decide
          rw [z, y] at f2 f3
          simp [le_nl, -Int32.not_lt, eX6_tie_0, eX6_tie_1, eX6_tie_4, eX6_tie_7, eX6_tie_8, eX6_tie_9, eX6_tie_12, eX6_tie_13, eX6_tie_14, eX6_tie_17, eX6_tie_18, eX6_tie_19, eX6_tie_22, eX6_tie_23, eX6_tie_26, eX6_tie_29, eX6_tie_30, eX6_tie_33, eX6_tie_34, eX6_tie_37, eX6_tie_38, eX6_tie_41, eX6_tie_42, eX6_tie_45, eX6_tie_48, eX6_tie_49, eX6_tie_52, eX6_tie_53, f_isEnd, f1, R.s3, z, f2, f3, show lyC 1 = 0 from rfl, show rcv 1 = 0 from rfl]
        · have y : (1 : Int32) ^^^ 1 = 0 := by decide
          rw [z, y] at f2 f3
          simp [le_nl, -Int32.not_lt, eX6_tie_0, eX6_tie_1, eX6_tie_4, eX6_tie_7, eX6_tie_8, eX6_tie_9, eX6_tie_12, eX6_tie_13, eX6_tie_14, eX6_tie_17, eX6_tie_18, eX6_tie_19, eX6_tie_22, eX6_tie_23, eX6_tie_26, eX6_tie_29, eX6_tie_30, eX6_tie_33, eX6_tie_34, eX6_tie_37, eX6_tie_38, eX6_tie_41, eX6_tie_42, eX6_tie_45, eX6_tie_48, eX6_tie_49, eX6_tie_52, eX6_tie_53, f_isEnd, f1, R.s3, z, f2, f3, show lyC 1 = 0 from rfl, show rcv 1 = 0 from rfl]
      · simp [le_nl, -Int32.not_lt, eX7_tie_0, eX7_tie_1, eX7_tie_4, eX7_tie_7, eX7_tie_8, eX7_tie_9, eX7_tie_12, eX7_tie_13, eX7_tie_14, eX7_tie_17, eX7_tie_18, eX7_tie_19, eX7_tie_20, eX7_tie_21, eX7_tie_22, eX7_tie_23, eX7_tie_24, eX7_tie_25, eX7_tie_26, eX7_tie_29, eX7_tie_30, eX7_tie_31, eX7_tie_32, eX7_tie_33, m_isEnd2, st_at, show lyA 18 = some 32 from rfl]
    · have key : Rel (st (st h 1 6 (h 18 4 ^^^ 1)) 18 4 (h 18 4 ^^^ 1)) := R.slot (j := 4) (by omega) (ok_upd R.2.1 (by omega) ⟨by omega, by omega, fun _ => (x01 o4).1, by omega, by omega⟩)
      have ba : h 18 4 ^^^ 1 = 0 ∨ h 18 4 ^^^ 1 = 1 := (x01 o4).1
      have f2 : ev mX0_isKnotted 0 [.ref 1, .int 1] [] (st h 1 6 (h 18 4 ^^^ 1)) = some (some (.int (h 18 4 ^^^ 1)), st h 1 6 (h 18 4 ^^^ 1)) := by
        rw [f_isKnotted HC1 (by simp [st_at]; exact b5) (by rw [st_at, if_pos ⟨rfl, rfl⟩]; exact ba)]
        simp [st_at]
      have f3 : ev mX0_knot 0 [.ref 1, .int 1, .int (h 18 4 ^^^ 1)] [] h = some (none, st h 1 6 (h 18 4 ^^^ 1)) := by rw [f_knot HC1 ba]; simp
      refine ⟨h 18 4 ^^^ 1, st h 1 6 (h 18 4 ^^^ 1), _, ?_, ?_, key⟩
      · rcases o4 with z | z
        · have y : (0 : Int32) ^^^ 1 = 1 := by decide
          rw [z, y] at f2 f3
          simp [le_nl, -Int32.not_lt, eX6_tie_0, eX6_tie_1, eX6_tie_4, eX6_tie_7, eX6_tie_8, eX6_tie_9, eX6_tie_12, eX6_tie_13, eX6_tie_14, eX6_tie_17, eX6_tie_18, eX6_tie_19, eX6_tie_22, eX6_tie_23, eX6_tie_26, eX6_tie_29, eX6_tie_30, eX6_tie_33, eX6_tie_34, eX6_tie_37, eX6_tie_38, eX6_tie_41, eX6_tie_42, eX6_tie_45, eX6_tie_48, eX6_tie_49, eX6_tie_52, eX6_tie_53, f_isEnd, f1, R.s4, z, f2, f3, show lyC 1 = 0 from rfl, show rcv 1 = 0 from rfl]
        · have y : (1 : Int32) ^^^ 1 = 0 := by decide
          rw [z, y] at f2 f3
          simp [le_nl, -Int32.not_lt, eX6_tie_0, eX6_tie_1, eX6_tie_4, eX6_tie_7, eX6_tie_8, eX6_tie_9, eX6_tie_12, eX6_tie_13, eX6_tie_14, eX6_tie_17, eX6_tie_18, eX6_tie_19, eX6_tie_22, eX6_tie_23, eX6_tie_26, eX6_tie_29, eX6_tie_30, eX6_tie_33, eX6_tie_34, eX6_tie_37, eX6_tie_38, eX6_tie_41, eX6_tie_42, eX6_tie_45, eX6_tie_48, eX6_tie_49, eX6_tie_52, eX6_tie_53, f_isEnd, f1, R.s4, z, f2, f3, show lyC 1 = 0 from rfl, show rcv 1 = 0 from rfl]
      · simp [le_nl, -Int32.not_lt, eX7_tie_0, eX7_tie_1, eX7_tie_4, eX7_tie_7, eX7_tie_8, eX7_tie_9, eX7_tie_12, eX7_tie_13, eX7_tie_14, eX7_tie_17, eX7_tie_18, eX7_tie_19, eX7_tie_20, eX7_tie_21, eX7_tie_22, eX7_tie_23, eX7_tie_24, eX7_tie_25, eX7_tie_26, eX7_tie_29, eX7_tie_30, eX7_tie_31, eX7_tie_32, eX7_tie_33, m_isEnd2, st_at, show lyA 18 = some 32 from rfl]
  · exact rf_both R (k := 1) (w := -1) (by omega) (by simp [le_nl, -Int32.not_lt, eX6_tie_0, eX6_tie_1, eX6_tie_4, eX6_tie_7, eX6_tie_8, eX6_tie_9, eX6_tie_12, eX6_tie_13, eX6_tie_14, eX6_tie_17, eX6_tie_18, eX6_tie_19, eX6_tie_22, eX6_tie_23, eX6_tie_26, eX6_tie_29, eX6_tie_30, eX6_tie_33, eX6_tie_34, eX6_tie_37, eX6_tie_38, eX6_tie_41, eX6_tie_42, eX6_tie_45, eX6_tie_48, eX6_tie_49, eX6_tie_52, eX6_tie_53, f_isEnd, he, f_refuse]) (by simp [le_nl, -Int32.not_lt, eX7_tie_0, eX7_tie_1, eX7_tie_4, eX7_tie_7, eX7_tie_8, eX7_tie_9, eX7_tie_12, eX7_tie_13, eX7_tie_14, eX7_tie_17, eX7_tie_18, eX7_tie_19, eX7_tie_20, eX7_tie_21, eX7_tie_22, eX7_tie_23, eX7_tie_24, eX7_tie_25, eX7_tie_26, eX7_tie_29, eX7_tie_30, eX7_tie_31, eX7_tie_32, eX7_tie_33, m_isEnd2, he, m_no])
theorem s_sew : Sim [] [] mX6_sew mX7_sew := by
  intro h R
  have o := id R.2.1
  obtain ⟨-, -, -, -, -, o5, -⟩ := o
  have o5 : h 18 5 = 0 ∨ h 18 5 = 1 := o5
  have key : Rel (st (st h 1 7 (h 18 5 ^^^ 1)) 18 5 (h 18 5 ^^^ 1)) := R.slot (j := 5) (by omega) (ok_upd R.2.1 (by omega) ⟨by omega, by omega, fun _ => (x01 o5).1, by omega, by omega⟩)
  refine ⟨h 18 5 ^^^ 1, st h 1 7 (h 18 5 ^^^ 1), _, ?_, ?_, key⟩
  · rcases o5 with z | z
    · have y : (0 : Int32) ^^^ 1 = 1 := by decide
      simp [le_nl, -Int32.not_lt, eX6_sew_0, eX6_sew_1, eX6_sew_4, eX6_sew_5, eX6_sew_8, eX6_sew_11, eX6_sew_14, eX6_sew_15, eX6_sew_18, eX6_sew_19, eX6_sew_22, eX6_sew_23, eX6_sew_26, eX6_sew_29, eX6_sew_32, eX6_sew_33, eX6_sew_36, eX6_sew_37, R.s5, z, y, st_at, show lyC 1 = 0 from rfl, show rcv 1 = 0 from rfl]
    · have y : (1 : Int32) ^^^ 1 = 0 := by decide
      simp [le_nl, -Int32.not_lt, eX6_sew_0, eX6_sew_1, eX6_sew_4, eX6_sew_5, eX6_sew_8, eX6_sew_11, eX6_sew_14, eX6_sew_15, eX6_sew_18, eX6_sew_19, eX6_sew_22, eX6_sew_23, eX6_sew_26, eX6_sew_29, eX6_sew_32, eX6_sew_33, eX6_sew_36, eX6_sew_37, R.s5, z, y, st_at, show lyC 1 = 0 from rfl, show rcv 1 = 0 from rfl]
  · simp [le_nl, -Int32.not_lt, eX7_sew_0, eX7_sew_1, eX7_sew_4, eX7_sew_5, eX7_sew_6, eX7_sew_7, eX7_sew_8, eX7_sew_9, eX7_sew_10, eX7_sew_11, eX7_sew_14, eX7_sew_15, eX7_sew_16, st_at, show lyA 18 = some 32 from rfl]
theorem s_set {q v : Int32} : Sim [.int q, .int v, .null, .null] [.int q, .int v, .null] mX6_set mX7_set := by
  intro h R
  by_cases hq : q = 0 ∨ q = 1
  · have hq' := end_in.mpr hq
    by_cases h2 : 9 < v
    · rcases hq with rfl | rfl
      · have h1 : ¬ v < 1 := by rw [t_lt] at h2 ⊢; have : (9 : Int) < v.toInt := h2; show ¬ v.toInt < (1 : Int); omega
        exact rf_both R (k := 6) (w := -6) (by omega) (by simp [le_nl, -Int32.not_lt, eX6_set_0, eX6_set_1, eX6_set_4, eX6_set_5, eX6_set_6, eX6_set_9, eX6_set_10, eX6_set_12, eX6_set_15, eX6_set_16, eX6_set_17, eX6_set_18, eX6_set_21, eX6_set_22, eX6_set_25, eX6_set_26, eX6_set_28, eX6_set_31, eX6_set_32, eX6_set_33, eX6_set_36, eX6_set_37, eX6_set_38, eX6_set_41, eX6_set_42, eX6_set_43, eX6_set_46, eX6_set_47, eX6_set_50, eX6_set_53, eX6_set_56, eX6_set_57, eX6_set_60, eX6_set_63, eX6_set_65, eX6_set_66, eX6_set_69, eX6_set_70, eX6_set_73, eX6_set_74, eX6_set_77, eX6_set_80, eX6_set_81, eX6_set_84, eX6_set_85, eX6_set_88, eX6_set_90, f_outside, h1, h2, f_refuse]) (by simp [le_nl, -Int32.not_lt, eX7_set_0, eX7_set_1, eX7_set_2, eX7_set_3, eX7_set_6, eX7_set_9, eX7_set_10, eX7_set_12, eX7_set_15, eX7_set_16, eX7_set_17, eX7_set_18, eX7_set_19, eX7_set_20, eX7_set_23, eX7_set_24, eX7_set_26, eX7_set_29, eX7_set_30, eX7_set_31, eX7_set_33, eX7_set_36, eX7_set_37, eX7_set_39, eX7_set_42, eX7_set_43, eX7_set_44, eX7_set_47, eX7_set_49, eX7_set_50, eX7_set_51, eX7_set_52, eX7_set_53, eX7_set_54, eX7_set_57, eX7_set_59, eX7_set_60, eX7_set_61, eX7_set_62, eX7_set_63, eX7_set_64, m_isIn, h1, h2, m_no])
      · have h1 : ¬ v < 0 := by rw [t_lt] at h2 ⊢; have : (9 : Int) < v.toInt := h2; show ¬ v.toInt < (0 : Int); omega
        exact rf_both R (k := 6) (w := -6) (by omega) (by simp [le_nl, -Int32.not_lt, eX6_set_0, eX6_set_1, eX6_set_4, eX6_set_5, eX6_set_6, eX6_set_9, eX6_set_10, eX6_set_12, eX6_set_15, eX6_set_16, eX6_set_17, eX6_set_18, eX6_set_21, eX6_set_22, eX6_set_25, eX6_set_26, eX6_set_28, eX6_set_31, eX6_set_32, eX6_set_33, eX6_set_36, eX6_set_37, eX6_set_38, eX6_set_41, eX6_set_42, eX6_set_43, eX6_set_46, eX6_set_47, eX6_set_50, eX6_set_53, eX6_set_56, eX6_set_57, eX6_set_60, eX6_set_63, eX6_set_65, eX6_set_66, eX6_set_69, eX6_set_70, eX6_set_73, eX6_set_74, eX6_set_77, eX6_set_80, eX6_set_81, eX6_set_84, eX6_set_85, eX6_set_88, eX6_set_90, f_outside, h1, h2, f_refuse]) (by simp [le_nl, -Int32.not_lt, eX7_set_0, eX7_set_1, eX7_set_2, eX7_set_3, eX7_set_6, eX7_set_9, eX7_set_10, eX7_set_12, eX7_set_15, eX7_set_16, eX7_set_17, eX7_set_18, eX7_set_19, eX7_set_20, eX7_set_23, eX7_set_24, eX7_set_26, eX7_set_29, eX7_set_30, eX7_set_31, eX7_set_33, eX7_set_36, eX7_set_37, eX7_set_39, eX7_set_42, eX7_set_43, eX7_set_44, eX7_set_47, eX7_set_49, eX7_set_50, eX7_set_51, eX7_set_52, eX7_set_53, eX7_set_54, eX7_set_57, eX7_set_59, eX7_set_60, eX7_set_61, eX7_set_62, eX7_set_63, eX7_set_64, m_isIn, h1, h2, m_no])
    · rcases hq with rfl | rfl
      · by_cases h1 : v < 1
        · exact rf_both R (k := 4) (w := -4) (by omega) (by simp [le_nl, -Int32.not_lt, eX6_set_0, eX6_set_1, eX6_set_4, eX6_set_5, eX6_set_6, eX6_set_9, eX6_set_10, eX6_set_12, eX6_set_15, eX6_set_16, eX6_set_17, eX6_set_18, eX6_set_21, eX6_set_22, eX6_set_25, eX6_set_26, eX6_set_28, eX6_set_31, eX6_set_32, eX6_set_33, eX6_set_36, eX6_set_37, eX6_set_38, eX6_set_41, eX6_set_42, eX6_set_43, eX6_set_46, eX6_set_47, eX6_set_50, eX6_set_53, eX6_set_56, eX6_set_57, eX6_set_60, eX6_set_63, eX6_set_65, eX6_set_66, eX6_set_69, eX6_set_70, eX6_set_73, eX6_set_74, eX6_set_77, eX6_set_80, eX6_set_81, eX6_set_84, eX6_set_85, eX6_set_88, eX6_set_90, f_outside, h1, f_refuse]) (by simp [le_nl, -Int32.not_lt, eX7_set_0, eX7_set_1, eX7_set_2, eX7_set_3, eX7_set_6, eX7_set_9, eX7_set_10, eX7_set_12, eX7_set_15, eX7_set_16, eX7_set_17, eX7_set_18, eX7_set_19, eX7_set_20, eX7_set_23, eX7_set_24, eX7_set_26, eX7_set_29, eX7_set_30, eX7_set_31, eX7_set_33, eX7_set_36, eX7_set_37, eX7_set_39, eX7_set_42, eX7_set_43, eX7_set_44, eX7_set_47, eX7_set_49, eX7_set_50, eX7_set_51, eX7_set_52, eX7_set_53, eX7_set_54, eX7_set_57, eX7_set_59, eX7_set_60, eX7_set_61, eX7_set_62, eX7_set_63, eX7_set_64, m_isIn, h1, m_no])
        · refine ⟨h 1 8, st h 1 8 v, st (st h 1 8 v) 18 6 v, by simp [le_nl, -Int32.not_lt, eX6_set_0, eX6_set_1, eX6_set_4, eX6_set_5, eX6_set_6, eX6_set_9, eX6_set_10, eX6_set_12, eX6_set_15, eX6_set_16, eX6_set_17, eX6_set_18, eX6_set_21, eX6_set_22, eX6_set_25, eX6_set_26, eX6_set_28, eX6_set_31, eX6_set_32, eX6_set_33, eX6_set_36, eX6_set_37, eX6_set_38, eX6_set_41, eX6_set_42, eX6_set_43, eX6_set_46, eX6_set_47, eX6_set_50, eX6_set_53, eX6_set_56, eX6_set_57, eX6_set_60, eX6_set_63, eX6_set_65, eX6_set_66, eX6_set_69, eX6_set_70, eX6_set_73, eX6_set_74, eX6_set_77, eX6_set_80, eX6_set_81, eX6_set_84, eX6_set_85, eX6_set_88, eX6_set_90, f_outside, h1, h2, show lyC 1 = 0 from rfl, show rcv 1 = 0 from rfl], by simp [le_nl, -Int32.not_lt, eX7_set_0, eX7_set_1, eX7_set_2, eX7_set_3, eX7_set_6, eX7_set_9, eX7_set_10, eX7_set_12, eX7_set_15, eX7_set_16, eX7_set_17, eX7_set_18, eX7_set_19, eX7_set_20, eX7_set_23, eX7_set_24, eX7_set_26, eX7_set_29, eX7_set_30, eX7_set_31, eX7_set_33, eX7_set_36, eX7_set_37, eX7_set_39, eX7_set_42, eX7_set_43, eX7_set_44, eX7_set_47, eX7_set_49, eX7_set_50, eX7_set_51, eX7_set_52, eX7_set_53, eX7_set_54, eX7_set_57, eX7_set_59, eX7_set_60, eX7_set_61, eX7_set_62, eX7_set_63, eX7_set_64, m_isIn, h1, h2, R.s6, st_at, show lyA 18 = some 32 from rfl], ?_⟩
          exact R.slot (j := 6) (by omega) (ok_upd R.2.1 (by omega) ⟨by omega, by omega, by omega, fun _ => lit_le rfl rfl h1 h2, by omega⟩)
      · by_cases h1 : v < 0
        · exact rf_both R (k := 4) (w := -4) (by omega) (by simp [le_nl, -Int32.not_lt, eX6_set_0, eX6_set_1, eX6_set_4, eX6_set_5, eX6_set_6, eX6_set_9, eX6_set_10, eX6_set_12, eX6_set_15, eX6_set_16, eX6_set_17, eX6_set_18, eX6_set_21, eX6_set_22, eX6_set_25, eX6_set_26, eX6_set_28, eX6_set_31, eX6_set_32, eX6_set_33, eX6_set_36, eX6_set_37, eX6_set_38, eX6_set_41, eX6_set_42, eX6_set_43, eX6_set_46, eX6_set_47, eX6_set_50, eX6_set_53, eX6_set_56, eX6_set_57, eX6_set_60, eX6_set_63, eX6_set_65, eX6_set_66, eX6_set_69, eX6_set_70, eX6_set_73, eX6_set_74, eX6_set_77, eX6_set_80, eX6_set_81, eX6_set_84, eX6_set_85, eX6_set_88, eX6_set_90, f_outside, h1, f_refuse]) (by simp [le_nl, -Int32.not_lt, eX7_set_0, eX7_set_1, eX7_set_2, eX7_set_3, eX7_set_6, eX7_set_9, eX7_set_10, eX7_set_12, eX7_set_15, eX7_set_16, eX7_set_17, eX7_set_18, eX7_set_19, eX7_set_20, eX7_set_23, eX7_set_24, eX7_set_26, eX7_set_29, eX7_set_30, eX7_set_31, eX7_set_33, eX7_set_36, eX7_set_37, eX7_set_39, eX7_set_42, eX7_set_43, eX7_set_44, eX7_set_47, eX7_set_49, eX7_set_50, eX7_set_51, eX7_set_52, eX7_set_53, eX7_set_54, eX7_set_57, eX7_set_59, eX7_set_60, eX7_set_61, eX7_set_62, eX7_set_63, eX7_set_64, m_isIn, h1, m_no])
        · refine ⟨h 1 9, st h 1 9 v, st (st h 1 9 v) 18 7 v, by simp [le_nl, -Int32.not_lt, eX6_set_0, eX6_set_1, eX6_set_4, eX6_set_5, eX6_set_6, eX6_set_9, eX6_set_10, eX6_set_12, eX6_set_15, eX6_set_16, eX6_set_17, eX6_set_18, eX6_set_21, eX6_set_22, eX6_set_25, eX6_set_26, eX6_set_28, eX6_set_31, eX6_set_32, eX6_set_33, eX6_set_36, eX6_set_37, eX6_set_38, eX6_set_41, eX6_set_42, eX6_set_43, eX6_set_46, eX6_set_47, eX6_set_50, eX6_set_53, eX6_set_56, eX6_set_57, eX6_set_60, eX6_set_63, eX6_set_65, eX6_set_66, eX6_set_69, eX6_set_70, eX6_set_73, eX6_set_74, eX6_set_77, eX6_set_80, eX6_set_81, eX6_set_84, eX6_set_85, eX6_set_88, eX6_set_90, f_outside, h1, h2, show lyC 1 = 0 from rfl, show rcv 1 = 0 from rfl], by simp [le_nl, -Int32.not_lt, eX7_set_0, eX7_set_1, eX7_set_2, eX7_set_3, eX7_set_6, eX7_set_9, eX7_set_10, eX7_set_12, eX7_set_15, eX7_set_16, eX7_set_17, eX7_set_18, eX7_set_19, eX7_set_20, eX7_set_23, eX7_set_24, eX7_set_26, eX7_set_29, eX7_set_30, eX7_set_31, eX7_set_33, eX7_set_36, eX7_set_37, eX7_set_39, eX7_set_42, eX7_set_43, eX7_set_44, eX7_set_47, eX7_set_49, eX7_set_50, eX7_set_51, eX7_set_52, eX7_set_53, eX7_set_54, eX7_set_57, eX7_set_59, eX7_set_60, eX7_set_61, eX7_set_62, eX7_set_63, eX7_set_64, m_isIn, h1, h2, R.s7, st_at, show lyA 18 = some 32 from rfl], ?_⟩
          exact R.slot (j := 7) (by omega) (ok_upd R.2.1 (by omega) ⟨by omega, by omega, by omega, by omega, fun _ => lit_le rfl rfl h1 h2⟩)
  · have n0 : ¬ q = 0 := fun z => hq (Or.inl z)
    have n1 : ¬ q = 1 := fun z => hq (Or.inr z)
    have mi : ev mX7_isIn 0 [.int q, .int 0, .int 1] [] (st h 16 2 (h 16 2 + 1)) = some (some (.int 0), st h 16 2 (h 16 2 + 1)) := by
      rw [m_isIn]
      by_cases a : q < 0
      · rw [if_pos a]
      · rw [if_neg a]
        by_cases b : 1 < q
        · rw [if_pos b]
        · exact absurd (end_in.mp ⟨a, b⟩) hq
    exact rf_both R (k := 2) (w := -2) (by omega) (by simp [le_nl, -Int32.not_lt, eX6_set_0, eX6_set_1, eX6_set_4, eX6_set_5, eX6_set_6, eX6_set_9, eX6_set_10, eX6_set_12, eX6_set_15, eX6_set_16, eX6_set_17, eX6_set_18, eX6_set_21, eX6_set_22, eX6_set_25, eX6_set_26, eX6_set_28, eX6_set_31, eX6_set_32, eX6_set_33, eX6_set_36, eX6_set_37, eX6_set_38, eX6_set_41, eX6_set_42, eX6_set_43, eX6_set_46, eX6_set_47, eX6_set_50, eX6_set_53, eX6_set_56, eX6_set_57, eX6_set_60, eX6_set_63, eX6_set_65, eX6_set_66, eX6_set_69, eX6_set_70, eX6_set_73, eX6_set_74, eX6_set_77, eX6_set_80, eX6_set_81, eX6_set_84, eX6_set_85, eX6_set_88, eX6_set_90, n0, n1, f_refuse]) (by simp [le_nl, -Int32.not_lt, eX7_set_0, eX7_set_1, eX7_set_2, eX7_set_3, eX7_set_6, eX7_set_9, eX7_set_10, eX7_set_12, eX7_set_15, eX7_set_16, eX7_set_17, eX7_set_18, eX7_set_19, eX7_set_20, eX7_set_23, eX7_set_24, eX7_set_26, eX7_set_29, eX7_set_30, eX7_set_31, eX7_set_33, eX7_set_36, eX7_set_37, eX7_set_39, eX7_set_42, eX7_set_43, eX7_set_44, eX7_set_47, eX7_set_49, eX7_set_50, eX7_set_51, eX7_set_52, eX7_set_53, eX7_set_54, eX7_set_57, eX7_set_59, eX7_set_60, eX7_set_61, eX7_set_62, eX7_set_63, eX7_set_64, mi, m_no])
theorem s_cutOff : Sim [] [] mX6_cutOff mX7_cutOff := by
  intro h R
  have e1 : ∀ z : Int32, (if z < 0 then 0 else z) = (if 0 < z then z else 0) := by
    intro z
    apply t_eq.mpr
    simp only [apply_ite Int32.toInt, t_lt]
    have e0 : (0 : Int32).toInt = 0 := rfl
    rw [e0]
    repeat' split
    all_goals omega
  exact qs_both R (v := if 0 < -(h 18 1 + h 18 2) then -(h 18 1 + h 18 2) else 0) (by simp [le_nl, -Int32.not_lt, eX6_cutOff_0, eX6_cutOff_1, eX6_cutOff_2, eX6_cutOff_5, eX6_cutOff_6, eX6_cutOff_9, eX6_cutOff_10, eX6_cutOff_13, eX6_cutOff_14, eX6_cutOff_17, eX6_cutOff_18, eX6_cutOff_19, eX6_cutOff_22, f_depth HC1, R.s1, R.s2, show lyC 1 = 0 from rfl, show rcv 1 = 0 from rfl]) (by simp [le_nl, -Int32.not_lt, eX7_cutOff_0, eX7_cutOff_1, eX7_cutOff_2, eX7_cutOff_5, eX7_cutOff_6, eX7_cutOff_7, eX7_cutOff_8, eX7_cutOff_11, eX7_cutOff_12, eX7_cutOff_13, eX7_cutOff_14, eX7_cutOff_15, eX7_cutOff_18, m_most, e1, show lyA 18 = some 32 from rfl])
end CALLS2
